theorem dX9_init_0 : decode cX9_init 0 = .ok (.aload_n 0, 1) := by decide +kernel
theorem k_1_105 : Jvm.Cond.methodLink "FinderHouse$Term" (1 : Nat) ({ cls := "java/lang/Object", name := "<init>", desc := "()V" } : Jvm.MethodName) ∈ tb := tb1 105 (by decide +kernel) (by decide +kernel)
theorem k_1_36 : Jvm.Cond.instanceMethod ({ cls := "java/lang/Object", name := "<init>", desc := "()V" } : Jvm.MethodName) ∈ tb := tb1 36 (by decide +kernel) (by decide +kernel)
theorem k_1_37 : Jvm.Cond.code ({ cls := "java/lang/Object", name := "<init>", desc := "()V" } : Jvm.MethodName) object_method_1_code (1 : Nat) (Option.none : Option Jvm.ClassFile.FieldType) ∈ tb := tb1 37 (by decide +kernel) (by decide +kernel)
theorem dX9_init_1 : decode cX9_init 1 = .ok (.invokespecial 1, 3) := by decide +kernel
theorem dX9_init_4 : decode cX9_init 4 = .ok (.aload_n 0, 1) := by decide +kernel
theorem dX9_init_5 : decode cX9_init 5 = .ok (.iload_n 1, 1) := by decide +kernel
theorem k_1_139 : Jvm.Cond.arrayClass Jvm.ClassFile.FieldType.int ∈ tb := tb1 139 (by decide +kernel) (by decide +kernel)
theorem dX9_init_6 : decode cX9_init 6 = .ok (.newarray .int, 2) := by decide +kernel
theorem k_1_106 : Jvm.Cond.fieldLink "FinderHouse$Term" (7 : Nat) "FinderHouse$Term" "op" "[I" ∈ tb := tb1 106 (by decide +kernel) (by decide +kernel)
theorem dX9_init_8 : decode cX9_init 8 = .ok (.putfield 7, 3) := by decide +kernel
theorem dX9_init_11 : decode cX9_init 11 = .ok (.aload_n 0, 1) := by decide +kernel
theorem dX9_init_12 : decode cX9_init 12 = .ok (.iload_n 1, 1) := by decide +kernel
theorem dX9_init_13 : decode cX9_init 13 = .ok (.newarray .int, 2) := by decide +kernel
theorem k_1_111 : Jvm.Cond.fieldLink "FinderHouse$Term" (13 : Nat) "FinderHouse$Term" "val" "[I" ∈ tb := tb1 111 (by decide +kernel) (by decide +kernel)
theorem dX9_init_15 : decode cX9_init 15 = .ok (.putfield 13, 3) := by decide +kernel
theorem dX9_init_18 : decode cX9_init 18 = .ok (.aload_n 0, 1) := by decide +kernel
theorem dX9_init_19 : decode cX9_init 19 = .ok (.iload_n 1, 1) := by decide +kernel
theorem dX9_init_20 : decode cX9_init 20 = .ok (.newarray .int, 2) := by decide +kernel
theorem k_1_116 : Jvm.Cond.fieldLink "FinderHouse$Term" (16 : Nat) "FinderHouse$Term" "end" "[I" ∈ tb := tb1 116 (by decide +kernel) (by decide +kernel)
theorem dX9_init_22 : decode cX9_init 22 = .ok (.putfield 16, 3) := by decide +kernel
theorem dX9_init_25 : decode cX9_init 25 = .ok (.return_, 1) := by decide +kernel
theorem dX2_init_0 : decode cX2_init 0 = .ok (.aload_n 0, 1) := by decide +kernel
theorem k_4_61 : Jvm.Cond.methodLink "FinderHouse$Disk" (3 : Nat) ({ cls := "java/lang/Object", name := "<init>", desc := "()V" } : Jvm.MethodName) ∈ tb := tb4 61 (by decide +kernel) (by decide +kernel)
theorem dX2_init_1 : decode cX2_init 1 = .ok (.invokespecial 3, 3) := by decide +kernel
theorem dX2_init_4 : decode cX2_init 4 = .ok (.aload_n 0, 1) := by decide +kernel
theorem dX2_init_5 : decode cX2_init 5 = .ok (.sipush 25600, 3) := by decide +kernel
theorem k_1_137 : Jvm.Cond.arrayClass Jvm.ClassFile.FieldType.byte ∈ tb := tb1 137 (by decide +kernel) (by decide +kernel)
theorem dX2_init_8 : decode cX2_init 8 = .ok (.newarray .byte, 2) := by decide +kernel
theorem k_4_62 : Jvm.Cond.fieldLink "FinderHouse$Disk" (11 : Nat) "FinderHouse$Disk" "blocks" "[B" ∈ tb := tb4 62 (by decide +kernel) (by decide +kernel)
theorem dX2_init_10 : decode cX2_init 10 = .ok (.putfield 11, 3) := by decide +kernel
theorem dX2_init_13 : decode cX2_init 13 = .ok (.aload_n 0, 1) := by decide +kernel
theorem dX2_init_14 : decode cX2_init 14 = .ok (.sipush 24200, 3) := by decide +kernel
theorem dX2_init_17 : decode cX2_init 17 = .ok (.newarray .byte, 2) := by decide +kernel
theorem dX2_init_19 : decode cX2_init 19 = .ok (.putfield 15, 3) := by decide +kernel
theorem dX2_init_22 : decode cX2_init 22 = .ok (.aload_n 0, 1) := by decide +kernel
theorem dX2_init_23 : decode cX2_init 23 = .ok (.iconst (-1), 1) := by decide +kernel
theorem k_4_72 : Jvm.Cond.fieldLink "FinderHouse$Disk" (18 : Nat) "FinderHouse$Disk" "cutAt" "I" ∈ tb := tb4 72 (by decide +kernel) (by decide +kernel)
theorem dX2_init_24 : decode cX2_init 24 = .ok (.putfield 18, 3) := by decide +kernel
theorem dX2_init_27 : decode cX2_init 27 = .ok (.return_, 1) := by decide +kernel
theorem dX5_init_0 : decode cX5_init 0 = .ok (.aload_n 0, 1) := by decide +kernel
theorem k_4_6 : Jvm.Cond.methodLink "FinderHouse$Machines" (3 : Nat) ({ cls := "java/lang/Object", name := "<init>", desc := "()V" } : Jvm.MethodName) ∈ tb := tb4 6 (by decide +kernel) (by decide +kernel)
theorem dX5_init_1 : decode cX5_init 1 = .ok (.invokespecial 3, 3) := by decide +kernel
theorem dX5_init_4 : decode cX5_init 4 = .ok (.aload_n 0, 1) := by decide +kernel
theorem dX5_init_5 : decode cX5_init 5 = .ok (.bipush 20, 2) := by decide +kernel
theorem dX5_init_7 : decode cX5_init 7 = .ok (.newarray .int, 2) := by decide +kernel
theorem dX5_init_9 : decode cX5_init 9 = .ok (.putfield 11, 3) := by decide +kernel
theorem dX5_init_12 : decode cX5_init 12 = .ok (.aload_n 0, 1) := by decide +kernel
theorem dX5_init_13 : decode cX5_init 13 = .ok (.bipush 20, 2) := by decide +kernel
theorem dX5_init_15 : decode cX5_init 15 = .ok (.newarray .int, 2) := by decide +kernel
theorem dX5_init_17 : decode cX5_init 17 = .ok (.putfield 15, 3) := by decide +kernel
theorem dX5_init_20 : decode cX5_init 20 = .ok (.aload_n 0, 1) := by decide +kernel
theorem dX5_init_21 : decode cX5_init 21 = .ok (.bipush 20, 2) := by decide +kernel
theorem dX5_init_23 : decode cX5_init 23 = .ok (.newarray .int, 2) := by decide +kernel
theorem dX5_init_25 : decode cX5_init 25 = .ok (.putfield 18, 3) := by decide +kernel
theorem dX5_init_28 : decode cX5_init 28 = .ok (.aload_n 0, 1) := by decide +kernel
theorem dX5_init_29 : decode cX5_init 29 = .ok (.bipush 10, 2) := by decide +kernel
theorem dX5_init_31 : decode cX5_init 31 = .ok (.newarray .int, 2) := by decide +kernel
theorem dX5_init_33 : decode cX5_init 33 = .ok (.putfield 21, 3) := by decide +kernel
theorem dX5_init_36 : decode cX5_init 36 = .ok (.aload_n 0, 1) := by decide +kernel
theorem dX5_init_37 : decode cX5_init 37 = .ok (.sipush 220, 3) := by decide +kernel
theorem dX5_init_40 : decode cX5_init 40 = .ok (.newarray .int, 2) := by decide +kernel
theorem k_4_15 : Jvm.Cond.fieldLink "FinderHouse$Machines" (24 : Nat) "FinderHouse$Machines" "come" "[I" ∈ tb := tb4 15 (by decide +kernel) (by decide +kernel)
theorem dX5_init_42 : decode cX5_init 42 = .ok (.putfield 24, 3) := by decide +kernel
theorem dX5_init_45 : decode cX5_init 45 = .ok (.aload_n 0, 1) := by decide +kernel
theorem dX5_init_46 : decode cX5_init 46 = .ok (.sipush 220, 3) := by decide +kernel
theorem dX5_init_49 : decode cX5_init 49 = .ok (.newarray .int, 2) := by decide +kernel
theorem k_4_16 : Jvm.Cond.fieldLink "FinderHouse$Machines" (27 : Nat) "FinderHouse$Machines" "stands" "[I" ∈ tb := tb4 16 (by decide +kernel) (by decide +kernel)
theorem dX5_init_51 : decode cX5_init 51 = .ok (.putfield 27, 3) := by decide +kernel
theorem dX5_init_54 : decode cX5_init 54 = .ok (.aload_n 0, 1) := by decide +kernel
theorem dX5_init_55 : decode cX5_init 55 = .ok (.bipush 10, 2) := by decide +kernel
theorem dX5_init_57 : decode cX5_init 57 = .ok (.newarray .int, 2) := by decide +kernel
theorem dX5_init_59 : decode cX5_init 59 = .ok (.putfield 30, 3) := by decide +kernel
theorem dX5_init_62 : decode cX5_init 62 = .ok (.aload_n 0, 1) := by decide +kernel
theorem dX5_init_63 : decode cX5_init 63 = .ok (.iconst 5, 1) := by decide +kernel
theorem dX5_init_64 : decode cX5_init 64 = .ok (.newarray .int, 2) := by decide +kernel
theorem k_4_18 : Jvm.Cond.fieldLink "FinderHouse$Machines" (33 : Nat) "FinderHouse$Machines" "row" "[I" ∈ tb := tb4 18 (by decide +kernel) (by decide +kernel)
theorem dX5_init_66 : decode cX5_init 66 = .ok (.putfield 33, 3) := by decide +kernel
theorem dX5_init_69 : decode cX5_init 69 = .ok (.aload_n 0, 1) := by decide +kernel
theorem dX5_init_70 : decode cX5_init 70 = .ok (.bipush 6, 2) := by decide +kernel
theorem k_1_138 : Jvm.Cond.arrayClass Jvm.ClassFile.FieldType.long ∈ tb := tb1 138 (by decide +kernel) (by decide +kernel)
theorem dX5_init_72 : decode cX5_init 72 = .ok (.newarray .long, 2) := by decide +kernel
theorem k_4_22 : Jvm.Cond.fieldLink "FinderHouse$Machines" (36 : Nat) "FinderHouse$Machines" "pastA" "[J" ∈ tb := tb4 22 (by decide +kernel) (by decide +kernel)
theorem dX5_init_74 : decode cX5_init 74 = .ok (.putfield 36, 3) := by decide +kernel
theorem dX5_init_77 : decode cX5_init 77 = .ok (.aload_n 0, 1) := by decide +kernel
theorem dX5_init_78 : decode cX5_init 78 = .ok (.bipush 6, 2) := by decide +kernel
theorem dX5_init_80 : decode cX5_init 80 = .ok (.newarray .long, 2) := by decide +kernel
theorem k_4_23 : Jvm.Cond.fieldLink "FinderHouse$Machines" (40 : Nat) "FinderHouse$Machines" "pastB" "[J" ∈ tb := tb4 23 (by decide +kernel) (by decide +kernel)
theorem dX5_init_82 : decode cX5_init 82 = .ok (.putfield 40, 3) := by decide +kernel
theorem dX5_init_85 : decode cX5_init 85 = .ok (.return_, 1) := by decide +kernel
theorem dX10_init_0 : decode cX10_init 0 = .ok (.aload_n 0, 1) := by decide +kernel
theorem k_3_174 : Jvm.Cond.methodLink "FinderHouse$WordRows" (5 : Nat) ({ cls := "java/lang/Object", name := "<init>", desc := "()V" } : Jvm.MethodName) ∈ tb := tb3 174 (by decide +kernel) (by decide +kernel)
theorem dX10_init_1 : decode cX10_init 1 = .ok (.invokespecial 5, 3) := by decide +kernel
theorem dX10_init_4 : decode cX10_init 4 = .ok (.aload_n 0, 1) := by decide +kernel
theorem dX10_init_5 : decode cX10_init 5 = .ok (.bipush 80, 2) := by decide +kernel
theorem dX10_init_7 : decode cX10_init 7 = .ok (.newarray .byte, 2) := by decide +kernel
theorem k_3_177 : Jvm.Cond.fieldLink "FinderHouse$WordRows" (11 : Nat) "FinderHouse$WordRows" "ins" "[B" ∈ tb := tb3 177 (by decide +kernel) (by decide +kernel)
theorem dX10_init_9 : decode cX10_init 9 = .ok (.putfield 11, 3) := by decide +kernel
theorem dX10_init_12 : decode cX10_init 12 = .ok (.aload_n 0, 1) := by decide +kernel
theorem dX10_init_13 : decode cX10_init 13 = .ok (.bipush 80, 2) := by decide +kernel
theorem dX10_init_15 : decode cX10_init 15 = .ok (.newarray .byte, 2) := by decide +kernel
theorem k_3_178 : Jvm.Cond.fieldLink "FinderHouse$WordRows" (15 : Nat) "FinderHouse$WordRows" "outs" "[B" ∈ tb := tb3 178 (by decide +kernel) (by decide +kernel)
theorem dX10_init_17 : decode cX10_init 17 = .ok (.putfield 15, 3) := by decide +kernel
theorem dX10_init_20 : decode cX10_init 20 = .ok (.aload_n 0, 1) := by decide +kernel
theorem dX10_init_21 : decode cX10_init 21 = .ok (.bipush 8, 2) := by decide +kernel
theorem dX10_init_23 : decode cX10_init 23 = .ok (.newarray .int, 2) := by decide +kernel
theorem k_3_179 : Jvm.Cond.fieldLink "FinderHouse$WordRows" (18 : Nat) "FinderHouse$WordRows" "inSize" "[I" ∈ tb := tb3 179 (by decide +kernel) (by decide +kernel)
theorem dX10_init_25 : decode cX10_init 25 = .ok (.putfield 18, 3) := by decide +kernel
theorem dX10_init_28 : decode cX10_init 28 = .ok (.aload_n 0, 1) := by decide +kernel
theorem dX10_init_29 : decode cX10_init 29 = .ok (.bipush 8, 2) := by decide +kernel
theorem dX10_init_31 : decode cX10_init 31 = .ok (.newarray .int, 2) := by decide +kernel
theorem k_3_180 : Jvm.Cond.fieldLink "FinderHouse$WordRows" (22 : Nat) "FinderHouse$WordRows" "outSize" "[I" ∈ tb := tb3 180 (by decide +kernel) (by decide +kernel)
theorem dX10_init_33 : decode cX10_init 33 = .ok (.putfield 22, 3) := by decide +kernel
theorem dX10_init_36 : decode cX10_init 36 = .ok (.aload_n 0, 1) := by decide +kernel
theorem dX10_init_37 : decode cX10_init 37 = .ok (.bipush 42, 2) := by decide +kernel
theorem dX10_init_39 : decode cX10_init 39 = .ok (.newarray .int, 2) := by decide +kernel
theorem k_3_182 : Jvm.Cond.fieldLink "FinderHouse$WordRows" (25 : Nat) "FinderHouse$WordRows" "spots" "[I" ∈ tb := tb3 182 (by decide +kernel) (by decide +kernel)
theorem dX10_init_41 : decode cX10_init 41 = .ok (.putfield 25, 3) := by decide +kernel
theorem dX10_init_44 : decode cX10_init 44 = .ok (.aload_n 0, 1) := by decide +kernel
theorem dX10_init_45 : decode cX10_init 45 = .ok (.sipush 336, 3) := by decide +kernel
theorem dX10_init_48 : decode cX10_init 48 = .ok (.newarray .int, 2) := by decide +kernel
theorem k_3_183 : Jvm.Cond.fieldLink "FinderHouse$WordRows" (28 : Nat) "FinderHouse$WordRows" "spotAt" "[I" ∈ tb := tb3 183 (by decide +kernel) (by decide +kernel)
theorem dX10_init_50 : decode cX10_init 50 = .ok (.putfield 28, 3) := by decide +kernel
theorem dX10_init_53 : decode cX10_init 53 = .ok (.aload_n 0, 1) := by decide +kernel
theorem dX10_init_54 : decode cX10_init 54 = .ok (.sipush 401, 3) := by decide +kernel
theorem dX10_init_57 : decode cX10_init 57 = .ok (.newarray .int, 2) := by decide +kernel
theorem k_3_185 : Jvm.Cond.fieldLink "FinderHouse$WordRows" (31 : Nat) "FinderHouse$WordRows" "placeKey" "[I" ∈ tb := tb3 185 (by decide +kernel) (by decide +kernel)
theorem dX10_init_59 : decode cX10_init 59 = .ok (.putfield 31, 3) := by decide +kernel
theorem dX10_init_62 : decode cX10_init 62 = .ok (.aload_n 0, 1) := by decide +kernel
theorem dX10_init_63 : decode cX10_init 63 = .ok (.sipush 401, 3) := by decide +kernel
theorem dX10_init_66 : decode cX10_init 66 = .ok (.newarray .int, 2) := by decide +kernel
theorem k_3_186 : Jvm.Cond.fieldLink "FinderHouse$WordRows" (34 : Nat) "FinderHouse$WordRows" "placeDepth" "[I" ∈ tb := tb3 186 (by decide +kernel) (by decide +kernel)
theorem dX10_init_68 : decode cX10_init 68 = .ok (.putfield 34, 3) := by decide +kernel
theorem dX10_init_71 : decode cX10_init 71 = .ok (.aload_n 0, 1) := by decide +kernel
theorem dX10_init_72 : decode cX10_init 72 = .ok (.sipush 1024, 3) := by decide +kernel
theorem dX10_init_75 : decode cX10_init 75 = .ok (.newarray .int, 2) := by decide +kernel
theorem k_3_187 : Jvm.Cond.fieldLink "FinderHouse$WordRows" (37 : Nat) "FinderHouse$WordRows" "slots" "[I" ∈ tb := tb3 187 (by decide +kernel) (by decide +kernel)
theorem dX10_init_77 : decode cX10_init 77 = .ok (.putfield 37, 3) := by decide +kernel
theorem dX10_init_80 : decode cX10_init 80 = .ok (.aload_n 0, 1) := by decide +kernel
theorem dX10_init_81 : decode cX10_init 81 = .ok (.sipush 1767, 3) := by decide +kernel
theorem dX10_init_84 : decode cX10_init 84 = .ok (.newarray .int, 2) := by decide +kernel
theorem k_3_188 : Jvm.Cond.fieldLink "FinderHouse$WordRows" (40 : Nat) "FinderHouse$WordRows" "stepPart" "[I" ∈ tb := tb3 188 (by decide +kernel) (by decide +kernel)
theorem dX10_init_86 : decode cX10_init 86 = .ok (.putfield 40, 3) := by decide +kernel
theorem dX10_init_89 : decode cX10_init 89 = .ok (.aload_n 0, 1) := by decide +kernel
theorem dX10_init_90 : decode cX10_init 90 = .ok (.sipush 1767, 3) := by decide +kernel
theorem dX10_init_93 : decode cX10_init 93 = .ok (.newarray .int, 2) := by decide +kernel
theorem k_3_189 : Jvm.Cond.fieldLink "FinderHouse$WordRows" (43 : Nat) "FinderHouse$WordRows" "stepKey" "[I" ∈ tb := tb3 189 (by decide +kernel) (by decide +kernel)
theorem dX10_init_95 : decode cX10_init 95 = .ok (.putfield 43, 3) := by decide +kernel
theorem dX10_init_98 : decode cX10_init 98 = .ok (.aload_n 0, 1) := by decide +kernel
theorem dX10_init_99 : decode cX10_init 99 = .ok (.sipush 2005, 3) := by decide +kernel
theorem dX10_init_102 : decode cX10_init 102 = .ok (.newarray .int, 2) := by decide +kernel
theorem k_3_190 : Jvm.Cond.fieldLink "FinderHouse$WordRows" (46 : Nat) "FinderHouse$WordRows" "least" "[I" ∈ tb := tb3 190 (by decide +kernel) (by decide +kernel)
theorem dX10_init_104 : decode cX10_init 104 = .ok (.putfield 46, 3) := by decide +kernel
theorem dX10_init_107 : decode cX10_init 107 = .ok (.aload_n 0, 1) := by decide +kernel
theorem dX10_init_108 : decode cX10_init 108 = .ok (.sipush 2005, 3) := by decide +kernel
theorem dX10_init_111 : decode cX10_init 111 = .ok (.newarray .long, 2) := by decide +kernel
theorem k_3_191 : Jvm.Cond.fieldLink "FinderHouse$WordRows" (49 : Nat) "FinderHouse$WordRows" "many" "[J" ∈ tb := tb3 191 (by decide +kernel) (by decide +kernel)
theorem dX10_init_113 : decode cX10_init 113 = .ok (.putfield 49, 3) := by decide +kernel
theorem dX10_init_116 : decode cX10_init 116 = .ok (.aload_n 0, 1) := by decide +kernel
theorem dX10_init_117 : decode cX10_init 117 = .ok (.iconst 4, 1) := by decide +kernel
theorem dX10_init_118 : decode cX10_init 118 = .ok (.newarray .int, 2) := by decide +kernel
theorem k_3_196 : Jvm.Cond.fieldLink "FinderHouse$WordRows" (53 : Nat) "FinderHouse$WordRows" "program" "[I" ∈ tb := tb3 196 (by decide +kernel) (by decide +kernel)
theorem dX10_init_120 : decode cX10_init 120 = .ok (.putfield 53, 3) := by decide +kernel
theorem dX10_init_123 : decode cX10_init 123 = .ok (.aload_n 0, 1) := by decide +kernel
theorem dX10_init_124 : decode cX10_init 124 = .ok (.bipush 40, 2) := by decide +kernel
theorem dX10_init_126 : decode cX10_init 126 = .ok (.newarray .byte, 2) := by decide +kernel
theorem k_3_197 : Jvm.Cond.fieldLink "FinderHouse$WordRows" (56 : Nat) "FinderHouse$WordRows" "made" "[B" ∈ tb := tb3 197 (by decide +kernel) (by decide +kernel)
theorem dX10_init_128 : decode cX10_init 128 = .ok (.putfield 56, 3) := by decide +kernel
theorem dX10_init_131 : decode cX10_init 131 = .ok (.return_, 1) := by decide +kernel
theorem dX1_init_0 : decode cX1_init 0 = .ok (.aload_n 0, 1) := by decide +kernel
theorem k_2_46 : Jvm.Cond.methodLink "FinderHouse$Ask" (3 : Nat) ({ cls := "java/lang/Object", name := "<init>", desc := "()V" } : Jvm.MethodName) ∈ tb := tb2 46 (by decide +kernel) (by decide +kernel)
theorem dX1_init_1 : decode cX1_init 1 = .ok (.invokespecial 3, 3) := by decide +kernel
theorem dX1_init_4 : decode cX1_init 4 = .ok (.aload_n 0, 1) := by decide +kernel
theorem dX1_init_5 : decode cX1_init 5 = .ok (.iconst 4, 1) := by decide +kernel
theorem dX1_init_6 : decode cX1_init 6 = .ok (.newarray .int, 2) := by decide +kernel
theorem k_2_55 : Jvm.Cond.fieldLink "FinderHouse$Ask" (9 : Nat) "FinderHouse$Ask" "kinds" "[I" ∈ tb := tb2 55 (by decide +kernel) (by decide +kernel)
theorem dX1_init_8 : decode cX1_init 8 = .ok (.putfield 9, 3) := by decide +kernel
theorem dX1_init_11 : decode cX1_init 11 = .ok (.aload_n 0, 1) := by decide +kernel
theorem dX1_init_12 : decode cX1_init 12 = .ok (.bipush 12, 2) := by decide +kernel
theorem dX1_init_14 : decode cX1_init 14 = .ok (.newarray .int, 2) := by decide +kernel
theorem k_2_66 : Jvm.Cond.fieldLink "FinderHouse$Ask" (15 : Nat) "FinderHouse$Ask" "pieceOp" "[I" ∈ tb := tb2 66 (by decide +kernel) (by decide +kernel)
theorem dX1_init_16 : decode cX1_init 16 = .ok (.putfield 15, 3) := by decide +kernel
theorem dX1_init_19 : decode cX1_init 19 = .ok (.aload_n 0, 1) := by decide +kernel
theorem dX1_init_20 : decode cX1_init 20 = .ok (.bipush 12, 2) := by decide +kernel
theorem dX1_init_22 : decode cX1_init 22 = .ok (.newarray .int, 2) := by decide +kernel
theorem k_2_69 : Jvm.Cond.fieldLink "FinderHouse$Ask" (18 : Nat) "FinderHouse$Ask" "pieceVal" "[I" ∈ tb := tb2 69 (by decide +kernel) (by decide +kernel)
theorem dX1_init_24 : decode cX1_init 24 = .ok (.putfield 18, 3) := by decide +kernel
theorem dX1_init_27 : decode cX1_init 27 = .ok (.aload_n 0, 1) := by decide +kernel
theorem dX1_init_28 : decode cX1_init 28 = .ok (.bipush 12, 2) := by decide +kernel
theorem dX1_init_30 : decode cX1_init 30 = .ok (.newarray .int, 2) := by decide +kernel
theorem k_2_72 : Jvm.Cond.fieldLink "FinderHouse$Ask" (21 : Nat) "FinderHouse$Ask" "piecePrice" "[I" ∈ tb := tb2 72 (by decide +kernel) (by decide +kernel)
theorem dX1_init_32 : decode cX1_init 32 = .ok (.putfield 21, 3) := by decide +kernel
theorem dX1_init_35 : decode cX1_init 35 = .ok (.aload_n 0, 1) := by decide +kernel
theorem dX1_init_36 : decode cX1_init 36 = .ok (.bipush 39, 2) := by decide +kernel
theorem dX1_init_38 : decode cX1_init 38 = .ok (.newarray .int, 2) := by decide +kernel
theorem k_2_77 : Jvm.Cond.fieldLink "FinderHouse$Ask" (24 : Nat) "FinderHouse$Ask" "rowValues" "[I" ∈ tb := tb2 77 (by decide +kernel) (by decide +kernel)
theorem dX1_init_40 : decode cX1_init 40 = .ok (.putfield 24, 3) := by decide +kernel
theorem dX1_init_43 : decode cX1_init 43 = .ok (.aload_n 0, 1) := by decide +kernel
theorem dX1_init_44 : decode cX1_init 44 = .ok (.bipush 12, 2) := by decide +kernel
theorem dX1_init_46 : decode cX1_init 46 = .ok (.newarray .int, 2) := by decide +kernel
theorem k_2_78 : Jvm.Cond.fieldLink "FinderHouse$Ask" (27 : Nat) "FinderHouse$Ask" "rowAnswer" "[I" ∈ tb := tb2 78 (by decide +kernel) (by decide +kernel)
theorem dX1_init_48 : decode cX1_init 48 = .ok (.putfield 27, 3) := by decide +kernel
theorem dX1_init_51 : decode cX1_init 51 = .ok (.aload_n 0, 1) := by decide +kernel
theorem dX1_init_52 : decode cX1_init 52 = .ok (.bipush 12, 2) := by decide +kernel
theorem dX1_init_54 : decode cX1_init 54 = .ok (.newarray .int, 2) := by decide +kernel
theorem k_2_80 : Jvm.Cond.fieldLink "FinderHouse$Ask" (30 : Nat) "FinderHouse$Ask" "rowPoint" "[I" ∈ tb := tb2 80 (by decide +kernel) (by decide +kernel)
theorem dX1_init_56 : decode cX1_init 56 = .ok (.putfield 30, 3) := by decide +kernel
theorem dX1_init_59 : decode cX1_init 59 = .ok (.aload_n 0, 1) := by decide +kernel
theorem dX1_init_60 : decode cX1_init 60 = .ok (.iconst 4, 1) := by decide +kernel
theorem dX1_init_61 : decode cX1_init 61 = .ok (.newarray .int, 2) := by decide +kernel
theorem k_2_84 : Jvm.Cond.fieldLink "FinderHouse$Ask" (33 : Nat) "FinderHouse$Ask" "lawNames" "[I" ∈ tb := tb2 84 (by decide +kernel) (by decide +kernel)
theorem dX1_init_63 : decode cX1_init 63 = .ok (.putfield 33, 3) := by decide +kernel
theorem dX1_init_66 : decode cX1_init 66 = .ok (.aload_n 0, 1) := by decide +kernel
theorem dX1_init_67 : decode cX1_init 67 = .ok (.bipush 8, 2) := by decide +kernel
theorem dX1_init_69 : decode cX1_init 69 = .ok (.newarray .int, 2) := by decide +kernel
theorem k_2_85 : Jvm.Cond.fieldLink "FinderHouse$Ask" (36 : Nat) "FinderHouse$Ask" "lawKinds" "[I" ∈ tb := tb2 85 (by decide +kernel) (by decide +kernel)
theorem dX1_init_71 : decode cX1_init 71 = .ok (.putfield 36, 3) := by decide +kernel
theorem dX1_init_74 : decode cX1_init 74 = .ok (.aload_n 0, 1) := by decide +kernel
theorem dX1_init_75 : decode cX1_init 75 = .ok (.bipush 8, 2) := by decide +kernel
theorem k_2_47 : Jvm.Cond.classLink "FinderHouse$Ask" (39 : Nat) "FinderHouse$Term" ∈ tb := tb2 47 (by decide +kernel) (by decide +kernel)
theorem dX1_init_77 : decode cX1_init 77 = .ok (.anewarray 39, 3) := by decide +kernel
theorem k_2_86 : Jvm.Cond.fieldLink "FinderHouse$Ask" (41 : Nat) "FinderHouse$Ask" "sides" "[LFinderHouse$Term;" ∈ tb := tb2 86 (by decide +kernel) (by decide +kernel)
theorem dX1_init_80 : decode cX1_init 80 = .ok (.putfield 41, 3) := by decide +kernel
theorem dX1_init_83 : decode cX1_init 83 = .ok (.aload_n 0, 1) := by decide +kernel
theorem dX1_init_84 : decode cX1_init 84 = .ok (.sipush 768, 3) := by decide +kernel
theorem dX1_init_87 : decode cX1_init 87 = .ok (.newarray .int, 2) := by decide +kernel
theorem k_2_92 : Jvm.Cond.fieldLink "FinderHouse$Ask" (45 : Nat) "FinderHouse$Ask" "pointValues" "[I" ∈ tb := tb2 92 (by decide +kernel) (by decide +kernel)
theorem dX1_init_89 : decode cX1_init 89 = .ok (.putfield 45, 3) := by decide +kernel
theorem dX1_init_92 : decode cX1_init 92 = .ok (.iconst 0, 1) := by decide +kernel
theorem dX1_init_93 : decode cX1_init 93 = .ok (.istore_n 1, 1) := by decide +kernel
theorem dX1_init_94 : decode cX1_init 94 = .ok (.iload_n 1, 1) := by decide +kernel
theorem dX1_init_95 : decode cX1_init 95 = .ok (.aload_n 0, 1) := by decide +kernel
theorem dX1_init_96 : decode cX1_init 96 = .ok (.getfield 41, 3) := by decide +kernel
theorem dX1_init_99 : decode cX1_init 99 = .ok (.arraylength, 1) := by decide +kernel
theorem dX1_init_100 : decode cX1_init 100 = .ok (.if_icmp .ge 24, 3) := by decide +kernel
theorem dX1_init_103 : decode cX1_init 103 = .ok (.aload_n 0, 1) := by decide +kernel
theorem dX1_init_104 : decode cX1_init 104 = .ok (.getfield 41, 3) := by decide +kernel
theorem dX1_init_107 : decode cX1_init 107 = .ok (.iload_n 1, 1) := by decide +kernel
theorem k_1_101 : Jvm.Cond.instantiable "FinderHouse$Term" (4 : Nat) ∈ tb := tb1 101 (by decide +kernel) (by decide +kernel)
theorem k_1_7 : Jvm.Cond.initialized "FinderHouse$Term" ∈ tb := tb1 7 (by decide +kernel) (by decide +kernel)
theorem dX1_init_108 : decode cX1_init 108 = .ok (.new 39, 3) := by decide +kernel
theorem dX1_init_111 : decode cX1_init 111 = .ok (.dup, 1) := by decide +kernel
theorem dX1_init_112 : decode cX1_init 112 = .ok (.bipush 121, 2) := by decide +kernel
theorem k_1_104 : Jvm.Cond.code ({ cls := "FinderHouse$Term", name := "<init>", desc := "(I)V" } : Jvm.MethodName) prog_11_method_1_code (2 : Nat) (Option.none : Option Jvm.ClassFile.FieldType) ∈ tb := tb1 104 (by decide +kernel) (by decide +kernel)
theorem k_2_48 : Jvm.Cond.methodLink "FinderHouse$Ask" (48 : Nat) ({ cls := "FinderHouse$Term", name := "<init>", desc := "(I)V" } : Jvm.MethodName) ∈ tb := tb2 48 (by decide +kernel) (by decide +kernel)
theorem k_1_103 : Jvm.Cond.instanceMethod ({ cls := "FinderHouse$Term", name := "<init>", desc := "(I)V" } : Jvm.MethodName) ∈ tb := tb1 103 (by decide +kernel) (by decide +kernel)
theorem dX1_init_114 : decode cX1_init 114 = .ok (.invokespecial 48, 3) := by decide +kernel
theorem dX1_init_117 : decode cX1_init 117 = .ok (.aastore, 1) := by decide +kernel
theorem dX1_init_118 : decode cX1_init 118 = .ok (.iinc 1 1, 3) := by decide +kernel
theorem dX1_init_121 : decode cX1_init 121 = .ok (.goto (-27), 3) := by decide +kernel
theorem dX1_init_124 : decode cX1_init 124 = .ok (.return_, 1) := by decide +kernel
theorem dX3_init_0 : decode cX3_init 0 = .ok (.aload_n 0, 1) := by decide +kernel
theorem k_2_141 : Jvm.Cond.methodLink "FinderHouse$Functions" (5 : Nat) ({ cls := "java/lang/Object", name := "<init>", desc := "()V" } : Jvm.MethodName) ∈ tb := tb2 141 (by decide +kernel) (by decide +kernel)
theorem dX3_init_1 : decode cX3_init 1 = .ok (.invokespecial 5, 3) := by decide +kernel
theorem dX3_init_4 : decode cX3_init 4 = .ok (.aload_n 0, 1) := by decide +kernel
theorem dX3_init_5 : decode cX3_init 5 = .ok (.sipush 30976, 3) := by decide +kernel
theorem dX3_init_8 : decode cX3_init 8 = .ok (.newarray .int, 2) := by decide +kernel
theorem k_2_145 : Jvm.Cond.fieldLink "FinderHouse$Functions" (11 : Nat) "FinderHouse$Functions" "table" "[I" ∈ tb := tb2 145 (by decide +kernel) (by decide +kernel)
theorem dX3_init_10 : decode cX3_init 10 = .ok (.putfield 11, 3) := by decide +kernel
theorem dX3_init_13 : decode cX3_init 13 = .ok (.aload_n 0, 1) := by decide +kernel
theorem dX3_init_14 : decode cX3_init 14 = .ok (.bipush 121, 2) := by decide +kernel
theorem dX3_init_16 : decode cX3_init 16 = .ok (.newarray .int, 2) := by decide +kernel
theorem k_2_148 : Jvm.Cond.fieldLink "FinderHouse$Functions" (15 : Nat) "FinderHouse$Functions" "kind" "[I" ∈ tb := tb2 148 (by decide +kernel) (by decide +kernel)
theorem dX3_init_18 : decode cX3_init 18 = .ok (.putfield 15, 3) := by decide +kernel
theorem dX3_init_21 : decode cX3_init 21 = .ok (.aload_n 0, 1) := by decide +kernel
theorem dX3_init_22 : decode cX3_init 22 = .ok (.bipush 121, 2) := by decide +kernel
theorem dX3_init_24 : decode cX3_init 24 = .ok (.newarray .int, 2) := by decide +kernel
theorem k_2_150 : Jvm.Cond.fieldLink "FinderHouse$Functions" (18 : Nat) "FinderHouse$Functions" "hash" "[I" ∈ tb := tb2 150 (by decide +kernel) (by decide +kernel)
theorem dX3_init_26 : decode cX3_init 26 = .ok (.putfield 18, 3) := by decide +kernel
theorem dX3_init_29 : decode cX3_init 29 = .ok (.aload_n 0, 1) := by decide +kernel
theorem dX3_init_30 : decode cX3_init 30 = .ok (.sipush 256, 3) := by decide +kernel
theorem dX3_init_33 : decode cX3_init 33 = .ok (.newarray .int, 2) := by decide +kernel
theorem k_2_151 : Jvm.Cond.fieldLink "FinderHouse$Functions" (21 : Nat) "FinderHouse$Functions" "slots" "[I" ∈ tb := tb2 151 (by decide +kernel) (by decide +kernel)
theorem dX3_init_35 : decode cX3_init 35 = .ok (.putfield 21, 3) := by decide +kernel
theorem dX3_init_38 : decode cX3_init 38 = .ok (.aload_n 0, 1) := by decide +kernel
theorem k_2_142 : Jvm.Cond.constant "FinderHouse$Functions" (26 : Nat) (175692 : Int32) ∈ tb := tb2 142 (by decide +kernel) (by decide +kernel)
theorem dX3_init_39 : decode cX3_init 39 = .ok (.ldc 26, 2) := by decide +kernel
theorem dX3_init_41 : decode cX3_init 41 = .ok (.newarray .byte, 2) := by decide +kernel
theorem k_2_155 : Jvm.Cond.fieldLink "FinderHouse$Functions" (27 : Nat) "FinderHouse$Functions" "pairs" "[B" ∈ tb := tb2 155 (by decide +kernel) (by decide +kernel)
theorem dX3_init_43 : decode cX3_init 43 = .ok (.putfield 27, 3) := by decide +kernel
theorem dX3_init_46 : decode cX3_init 46 = .ok (.aload_n 0, 1) := by decide +kernel
theorem dX3_init_47 : decode cX3_init 47 = .ok (.sipush 14641, 3) := by decide +kernel
theorem k_2_184 : Jvm.Cond.arrayClass Jvm.ClassFile.FieldType.short ∈ tb := tb2 184 (by decide +kernel) (by decide +kernel)
theorem dX3_init_50 : decode cX3_init 50 = .ok (.newarray .short, 2) := by decide +kernel
theorem k_2_156 : Jvm.Cond.fieldLink "FinderHouse$Functions" (31 : Nat) "FinderHouse$Functions" "slabOf" "[S" ∈ tb := tb2 156 (by decide +kernel) (by decide +kernel)
theorem dX3_init_52 : decode cX3_init 52 = .ok (.putfield 31, 3) := by decide +kernel
theorem dX3_init_55 : decode cX3_init 55 = .ok (.aload_n 0, 1) := by decide +kernel
theorem dX3_init_56 : decode cX3_init 56 = .ok (.iconst 0, 1) := by decide +kernel
theorem dX3_init_57 : decode cX3_init 57 = .ok (.newarray .byte, 2) := by decide +kernel
theorem k_2_157 : Jvm.Cond.fieldLink "FinderHouse$Functions" (35 : Nat) "FinderHouse$Functions" "slabs" "[B" ∈ tb := tb2 157 (by decide +kernel) (by decide +kernel)
theorem dX3_init_59 : decode cX3_init 59 = .ok (.putfield 35, 3) := by decide +kernel
theorem dX3_init_62 : decode cX3_init 62 = .ok (.aload_n 0, 1) := by decide +kernel
theorem dX3_init_63 : decode cX3_init 63 = .ok (.aload_n 1, 1) := by decide +kernel
theorem k_2_143 : Jvm.Cond.fieldLink "FinderHouse$Functions" (38 : Nat) "FinderHouse$Functions" "acts" "LFinderHouse$Acts;" ∈ tb := tb2 143 (by decide +kernel) (by decide +kernel)
theorem dX3_init_64 : decode cX3_init 64 = .ok (.putfield 38, 3) := by decide +kernel
theorem dX3_init_67 : decode cX3_init 67 = .ok (.return_, 1) := by decide +kernel
theorem dX7_init_0 : decode cX7_init 0 = .ok (.aload_n 0, 1) := by decide +kernel
theorem k_2_133 : Jvm.Cond.methodLink "FinderHouse$Search" (5 : Nat) ({ cls := "java/lang/Object", name := "<init>", desc := "()V" } : Jvm.MethodName) ∈ tb := tb2 133 (by decide +kernel) (by decide +kernel)
theorem dX7_init_1 : decode cX7_init 1 = .ok (.invokespecial 5, 3) := by decide +kernel
theorem dX7_init_4 : decode cX7_init 4 = .ok (.aload_n 0, 1) := by decide +kernel
theorem dX7_init_5 : decode cX7_init 5 = .ok (.sipush 7865, 3) := by decide +kernel
theorem dX7_init_8 : decode cX7_init 8 = .ok (.newarray .int, 2) := by decide +kernel
theorem k_2_189 : Jvm.Cond.fieldLink "FinderHouse$Search" (13 : Nat) "FinderHouse$Search" "entries" "[I" ∈ tb := tb2 189 (by decide +kernel) (by decide +kernel)
theorem dX7_init_10 : decode cX7_init 10 = .ok (.putfield 13, 3) := by decide +kernel
theorem dX7_init_13 : decode cX7_init 13 = .ok (.aload_n 0, 1) := by decide +kernel
theorem dX7_init_14 : decode cX7_init 14 = .ok (.bipush 13, 2) := by decide +kernel
theorem dX7_init_16 : decode cX7_init 16 = .ok (.newarray .int, 2) := by decide +kernel
theorem k_2_190 : Jvm.Cond.fieldLink "FinderHouse$Search" (17 : Nat) "FinderHouse$Search" "entryCount" "[I" ∈ tb := tb2 190 (by decide +kernel) (by decide +kernel)
theorem dX7_init_18 : decode cX7_init 18 = .ok (.putfield 17, 3) := by decide +kernel
theorem dX7_init_21 : decode cX7_init 21 = .ok (.aload_n 0, 1) := by decide +kernel
theorem dX7_init_22 : decode cX7_init 22 = .ok (.sipush 1573, 3) := by decide +kernel
theorem dX7_init_25 : decode cX7_init 25 = .ok (.newarray .long, 2) := by decide +kernel
theorem k_2_191 : Jvm.Cond.fieldLink "FinderHouse$Search" (20 : Nat) "FinderHouse$Search" "entryTerms" "[J" ∈ tb := tb2 191 (by decide +kernel) (by decide +kernel)
theorem dX7_init_27 : decode cX7_init 27 = .ok (.putfield 20, 3) := by decide +kernel
theorem dX7_init_30 : decode cX7_init 30 = .ok (.aload_n 0, 1) := by decide +kernel
theorem dX7_init_31 : decode cX7_init 31 = .ok (.bipush 121, 2) := by decide +kernel
theorem dX7_init_33 : decode cX7_init 33 = .ok (.newarray .int, 2) := by decide +kernel
theorem k_2_192 : Jvm.Cond.fieldLink "FinderHouse$Search" (24 : Nat) "FinderHouse$Search" "firstEntry" "[I" ∈ tb := tb2 192 (by decide +kernel) (by decide +kernel)
theorem dX7_init_35 : decode cX7_init 35 = .ok (.putfield 24, 3) := by decide +kernel
theorem dX7_init_38 : decode cX7_init 38 = .ok (.aload_n 0, 1) := by decide +kernel
theorem dX7_init_39 : decode cX7_init 39 = .ok (.bipush 121, 2) := by decide +kernel
theorem dX7_init_41 : decode cX7_init 41 = .ok (.newarray .int, 2) := by decide +kernel
theorem k_2_193 : Jvm.Cond.fieldLink "FinderHouse$Search" (27 : Nat) "FinderHouse$Search" "meeting" "[I" ∈ tb := tb2 193 (by decide +kernel) (by decide +kernel)
theorem dX7_init_43 : decode cX7_init 43 = .ok (.putfield 27, 3) := by decide +kernel
theorem dX7_init_46 : decode cX7_init 46 = .ok (.aload_n 0, 1) := by decide +kernel
theorem dX7_init_47 : decode cX7_init 47 = .ok (.bipush 121, 2) := by decide +kernel
theorem dX7_init_49 : decode cX7_init 49 = .ok (.newarray .int, 2) := by decide +kernel
theorem k_2_194 : Jvm.Cond.fieldLink "FinderHouse$Search" (30 : Nat) "FinderHouse$Search" "entryNow" "[I" ∈ tb := tb2 194 (by decide +kernel) (by decide +kernel)
theorem dX7_init_51 : decode cX7_init 51 = .ok (.putfield 30, 3) := by decide +kernel
theorem dX7_init_54 : decode cX7_init 54 = .ok (.aload_n 0, 1) := by decide +kernel
theorem dX7_init_55 : decode cX7_init 55 = .ok (.iconst 3, 1) := by decide +kernel
theorem dX7_init_56 : decode cX7_init 56 = .ok (.newarray .int, 2) := by decide +kernel
theorem k_2_195 : Jvm.Cond.fieldLink "FinderHouse$Search" (33 : Nat) "FinderHouse$Search" "picked" "[I" ∈ tb := tb2 195 (by decide +kernel) (by decide +kernel)
theorem dX7_init_58 : decode cX7_init 58 = .ok (.putfield 33, 3) := by decide +kernel
theorem dX7_init_61 : decode cX7_init 61 = .ok (.aload_n 0, 1) := by decide +kernel
theorem dX7_init_62 : decode cX7_init 62 = .ok (.bipush 121, 2) := by decide +kernel
theorem dX7_init_64 : decode cX7_init 64 = .ok (.newarray .int, 2) := by decide +kernel
theorem k_2_198 : Jvm.Cond.fieldLink "FinderHouse$Search" (36 : Nat) "FinderHouse$Search" "listed" "[I" ∈ tb := tb2 198 (by decide +kernel) (by decide +kernel)
theorem dX7_init_66 : decode cX7_init 66 = .ok (.putfield 36, 3) := by decide +kernel
theorem dX7_init_69 : decode cX7_init 69 = .ok (.aload_n 0, 1) := by decide +kernel
theorem dX7_init_70 : decode cX7_init 70 = .ok (.bipush 121, 2) := by decide +kernel
theorem dX7_init_72 : decode cX7_init 72 = .ok (.newarray .int, 2) := by decide +kernel
theorem k_2_199 : Jvm.Cond.fieldLink "FinderHouse$Search" (39 : Nat) "FinderHouse$Search" "seen" "[I" ∈ tb := tb2 199 (by decide +kernel) (by decide +kernel)
theorem dX7_init_74 : decode cX7_init 74 = .ok (.putfield 39, 3) := by decide +kernel
theorem dX7_init_77 : decode cX7_init 77 = .ok (.aload_n 0, 1) := by decide +kernel
theorem dX7_init_78 : decode cX7_init 78 = .ok (.sipush 1694, 3) := by decide +kernel
theorem dX7_init_81 : decode cX7_init 81 = .ok (.newarray .long, 2) := by decide +kernel
theorem k_2_200 : Jvm.Cond.fieldLink "FinderHouse$Search" (42 : Nat) "FinderHouse$Search" "shares" "[J" ∈ tb := tb2 200 (by decide +kernel) (by decide +kernel)
theorem dX7_init_83 : decode cX7_init 83 = .ok (.putfield 42, 3) := by decide +kernel
theorem dX7_init_86 : decode cX7_init 86 = .ok (.aload_n 0, 1) := by decide +kernel
theorem k_2_134 : Jvm.Cond.classLink "FinderHouse$Search" (45 : Nat) "FinderHouse$Term" ∈ tb := tb2 134 (by decide +kernel) (by decide +kernel)
theorem dX7_init_87 : decode cX7_init 87 = .ok (.new 45, 3) := by decide +kernel
theorem dX7_init_90 : decode cX7_init 90 = .ok (.dup, 1) := by decide +kernel
theorem dX7_init_91 : decode cX7_init 91 = .ok (.bipush 13, 2) := by decide +kernel
theorem k_2_135 : Jvm.Cond.methodLink "FinderHouse$Search" (47 : Nat) ({ cls := "FinderHouse$Term", name := "<init>", desc := "(I)V" } : Jvm.MethodName) ∈ tb := tb2 135 (by decide +kernel) (by decide +kernel)
theorem dX7_init_93 : decode cX7_init 93 = .ok (.invokespecial 47, 3) := by decide +kernel
theorem k_2_202 : Jvm.Cond.fieldLink "FinderHouse$Search" (50 : Nat) "FinderHouse$Search" "term" "LFinderHouse$Term;" ∈ tb := tb2 202 (by decide +kernel) (by decide +kernel)
theorem dX7_init_96 : decode cX7_init 96 = .ok (.putfield 50, 3) := by decide +kernel
theorem dX7_init_99 : decode cX7_init 99 = .ok (.aload_n 0, 1) := by decide +kernel
theorem dX7_init_100 : decode cX7_init 100 = .ok (.sipush 256, 3) := by decide +kernel
theorem dX7_init_103 : decode cX7_init 103 = .ok (.newarray .int, 2) := by decide +kernel
theorem k_2_204 : Jvm.Cond.fieldLink "FinderHouse$Search" (54 : Nat) "FinderHouse$Search" "trial" "[I" ∈ tb := tb2 204 (by decide +kernel) (by decide +kernel)
theorem dX7_init_105 : decode cX7_init 105 = .ok (.putfield 54, 3) := by decide +kernel
theorem dX7_init_108 : decode cX7_init 108 = .ok (.aload_n 0, 1) := by decide +kernel
theorem dX7_init_109 : decode cX7_init 109 = .ok (.sipush 30976, 3) := by decide +kernel
theorem dX7_init_112 : decode cX7_init 112 = .ok (.newarray .int, 2) := by decide +kernel
theorem k_2_206 : Jvm.Cond.fieldLink "FinderHouse$Search" (57 : Nat) "FinderHouse$Search" "within" "[I" ∈ tb := tb2 206 (by decide +kernel) (by decide +kernel)
theorem dX7_init_114 : decode cX7_init 114 = .ok (.putfield 57, 3) := by decide +kernel
theorem dX7_init_117 : decode cX7_init 117 = .ok (.aload_n 0, 1) := by decide +kernel
theorem dX7_init_118 : decode cX7_init 118 = .ok (.new 45, 3) := by decide +kernel
theorem dX7_init_121 : decode cX7_init 121 = .ok (.dup, 1) := by decide +kernel
theorem dX7_init_122 : decode cX7_init 122 = .ok (.sipush 134, 3) := by decide +kernel
theorem dX7_init_125 : decode cX7_init 125 = .ok (.invokespecial 47, 3) := by decide +kernel
theorem k_2_207 : Jvm.Cond.fieldLink "FinderHouse$Search" (60 : Nat) "FinderHouse$Search" "mended" "LFinderHouse$Term;" ∈ tb := tb2 207 (by decide +kernel) (by decide +kernel)
theorem dX7_init_128 : decode cX7_init 128 = .ok (.putfield 60, 3) := by decide +kernel
theorem dX7_init_131 : decode cX7_init 131 = .ok (.aload_n 0, 1) := by decide +kernel
theorem dX7_init_132 : decode cX7_init 132 = .ok (.aload_n 1, 1) := by decide +kernel
theorem k_2_185 : Jvm.Cond.fieldLink "FinderHouse$Search" (63 : Nat) "FinderHouse$Search" "acts" "LFinderHouse$Acts;" ∈ tb := tb2 185 (by decide +kernel) (by decide +kernel)
theorem dX7_init_133 : decode cX7_init 133 = .ok (.putfield 63, 3) := by decide +kernel
theorem dX7_init_136 : decode cX7_init 136 = .ok (.aload_n 0, 1) := by decide +kernel
theorem k_2_136 : Jvm.Cond.classLink "FinderHouse$Search" (1 : Nat) "FinderHouse$Functions" ∈ tb := tb2 136 (by decide +kernel) (by decide +kernel)
theorem k_2_137 : Jvm.Cond.instantiable "FinderHouse$Functions" (12 : Nat) ∈ tb := tb2 137 (by decide +kernel) (by decide +kernel)
theorem k_1_11 : Jvm.Cond.initialized "FinderHouse$Functions" ∈ tb := tb1 11 (by decide +kernel) (by decide +kernel)
theorem dX7_init_137 : decode cX7_init 137 = .ok (.new 1, 3) := by decide +kernel
theorem dX7_init_140 : decode cX7_init 140 = .ok (.dup, 1) := by decide +kernel
theorem dX7_init_141 : decode cX7_init 141 = .ok (.aload_n 1, 1) := by decide +kernel
theorem k_2_140 : Jvm.Cond.code ({ cls := "FinderHouse$Functions", name := "<init>", desc := "(LFinderHouse$Acts;)V" } : Jvm.MethodName) prog_5_method_1_code (2 : Nat) (Option.none : Option Jvm.ClassFile.FieldType) ∈ tb := tb2 140 (by decide +kernel) (by decide +kernel)
theorem k_2_138 : Jvm.Cond.methodLink "FinderHouse$Search" (67 : Nat) ({ cls := "FinderHouse$Functions", name := "<init>", desc := "(LFinderHouse$Acts;)V" } : Jvm.MethodName) ∈ tb := tb2 138 (by decide +kernel) (by decide +kernel)
theorem k_2_139 : Jvm.Cond.instanceMethod ({ cls := "FinderHouse$Functions", name := "<init>", desc := "(LFinderHouse$Acts;)V" } : Jvm.MethodName) ∈ tb := tb2 139 (by decide +kernel) (by decide +kernel)
theorem dX7_init_142 : decode cX7_init 142 = .ok (.invokespecial 67, 3) := by decide +kernel
theorem k_2_186 : Jvm.Cond.fieldLink "FinderHouse$Search" (70 : Nat) "FinderHouse$Search" "functions" "LFinderHouse$Functions;" ∈ tb := tb2 186 (by decide +kernel) (by decide +kernel)
theorem dX7_init_145 : decode cX7_init 145 = .ok (.putfield 70, 3) := by decide +kernel
theorem dX7_init_148 : decode cX7_init 148 = .ok (.return_, 1) := by decide +kernel
theorem dX8_init_0 : decode cX8_init 0 = .ok (.aload_n 0, 1) := by decide +kernel
theorem k_3_19 : Jvm.Cond.methodLink "FinderHouse$Shelf" (3 : Nat) ({ cls := "java/lang/Object", name := "<init>", desc := "()V" } : Jvm.MethodName) ∈ tb := tb3 19 (by decide +kernel) (by decide +kernel)
theorem dX8_init_1 : decode cX8_init 1 = .ok (.invokespecial 3, 3) := by decide +kernel
theorem dX8_init_4 : decode cX8_init 4 = .ok (.aload_n 0, 1) := by decide +kernel
theorem k_3_20 : Jvm.Cond.classLink "FinderHouse$Shelf" (9 : Nat) "FinderHouse$Term" ∈ tb := tb3 20 (by decide +kernel) (by decide +kernel)
theorem dX8_init_5 : decode cX8_init 5 = .ok (.new 9, 3) := by decide +kernel
theorem dX8_init_8 : decode cX8_init 8 = .ok (.dup, 1) := by decide +kernel
theorem dX8_init_9 : decode cX8_init 9 = .ok (.sipush 134, 3) := by decide +kernel
theorem k_3_21 : Jvm.Cond.methodLink "FinderHouse$Shelf" (11 : Nat) ({ cls := "FinderHouse$Term", name := "<init>", desc := "(I)V" } : Jvm.MethodName) ∈ tb := tb3 21 (by decide +kernel) (by decide +kernel)
theorem dX8_init_12 : decode cX8_init 12 = .ok (.invokespecial 11, 3) := by decide +kernel
theorem dX8_init_15 : decode cX8_init 15 = .ok (.putfield 14, 3) := by decide +kernel
theorem dX8_init_18 : decode cX8_init 18 = .ok (.aload_n 0, 1) := by decide +kernel
theorem dX8_init_19 : decode cX8_init 19 = .ok (.sipush 2048, 3) := by decide +kernel
theorem dX8_init_22 : decode cX8_init 22 = .ok (.newarray .byte, 2) := by decide +kernel
theorem k_3_25 : Jvm.Cond.fieldLink "FinderHouse$Shelf" (20 : Nat) "FinderHouse$Shelf" "text" "[B" ∈ tb := tb3 25 (by decide +kernel) (by decide +kernel)
theorem dX8_init_24 : decode cX8_init 24 = .ok (.putfield 20, 3) := by decide +kernel
theorem dX8_init_27 : decode cX8_init 27 = .ok (.aload_n 0, 1) := by decide +kernel
theorem dX8_init_28 : decode cX8_init 28 = .ok (.iconst 3, 1) := by decide +kernel
theorem dX8_init_29 : decode cX8_init 29 = .ok (.newarray .int, 2) := by decide +kernel
theorem k_3_31 : Jvm.Cond.fieldLink "FinderHouse$Shelf" (24 : Nat) "FinderHouse$Shelf" "kinds" "[I" ∈ tb := tb3 31 (by decide +kernel) (by decide +kernel)
theorem dX8_init_31 : decode cX8_init 31 = .ok (.putfield 24, 3) := by decide +kernel
theorem dX8_init_34 : decode cX8_init 34 = .ok (.aload_n 0, 1) := by decide +kernel
theorem dX8_init_35 : decode cX8_init 35 = .ok (.sipush 256, 3) := by decide +kernel
theorem dX8_init_38 : decode cX8_init 38 = .ok (.newarray .int, 2) := by decide +kernel
theorem k_3_33 : Jvm.Cond.fieldLink "FinderHouse$Shelf" (28 : Nat) "FinderHouse$Shelf" "answers" "[I" ∈ tb := tb3 33 (by decide +kernel) (by decide +kernel)
theorem dX8_init_40 : decode cX8_init 40 = .ok (.putfield 28, 3) := by decide +kernel
theorem dX8_init_43 : decode cX8_init 43 = .ok (.aload_n 0, 1) := by decide +kernel
theorem dX8_init_44 : decode cX8_init 44 = .ok (.bipush 12, 2) := by decide +kernel
theorem dX8_init_46 : decode cX8_init 46 = .ok (.anewarray 9, 3) := by decide +kernel
theorem k_3_37 : Jvm.Cond.fieldLink "FinderHouse$Shelf" (31 : Nat) "FinderHouse$Shelf" "kept" "[LFinderHouse$Term;" ∈ tb := tb3 37 (by decide +kernel) (by decide +kernel)
theorem dX8_init_49 : decode cX8_init 49 = .ok (.putfield 31, 3) := by decide +kernel
theorem dX8_init_52 : decode cX8_init 52 = .ok (.aload_n 0, 1) := by decide +kernel
theorem dX8_init_53 : decode cX8_init 53 = .ok (.bipush 64, 2) := by decide +kernel
theorem dX8_init_55 : decode cX8_init 55 = .ok (.newarray .int, 2) := by decide +kernel
theorem k_3_41 : Jvm.Cond.fieldLink "FinderHouse$Shelf" (35 : Nat) "FinderHouse$Shelf" "open" "[I" ∈ tb := tb3 41 (by decide +kernel) (by decide +kernel)
theorem dX8_init_57 : decode cX8_init 57 = .ok (.putfield 35, 3) := by decide +kernel
theorem dX8_init_60 : decode cX8_init 60 = .ok (.aload_n 0, 1) := by decide +kernel
theorem dX8_init_61 : decode cX8_init 61 = .ok (.sipush 2048, 3) := by decide +kernel
theorem dX8_init_64 : decode cX8_init 64 = .ok (.newarray .byte, 2) := by decide +kernel
theorem k_3_42 : Jvm.Cond.fieldLink "FinderHouse$Shelf" (38 : Nat) "FinderHouse$Shelf" "otherText" "[B" ∈ tb := tb3 42 (by decide +kernel) (by decide +kernel)
theorem dX8_init_66 : decode cX8_init 66 = .ok (.putfield 38, 3) := by decide +kernel
theorem dX8_init_69 : decode cX8_init 69 = .ok (.aload_n 0, 1) := by decide +kernel
theorem dX8_init_70 : decode cX8_init 70 = .ok (.sipush 2048, 3) := by decide +kernel
theorem dX8_init_73 : decode cX8_init 73 = .ok (.newarray .byte, 2) := by decide +kernel
theorem k_3_43 : Jvm.Cond.fieldLink "FinderHouse$Shelf" (41 : Nat) "FinderHouse$Shelf" "bestText" "[B" ∈ tb := tb3 43 (by decide +kernel) (by decide +kernel)
theorem dX8_init_75 : decode cX8_init 75 = .ok (.putfield 41, 3) := by decide +kernel
theorem dX8_init_78 : decode cX8_init 78 = .ok (.aload_n 0, 1) := by decide +kernel
theorem dX8_init_79 : decode cX8_init 79 = .ok (.new 9, 3) := by decide +kernel
theorem dX8_init_82 : decode cX8_init 82 = .ok (.dup, 1) := by decide +kernel
theorem dX8_init_83 : decode cX8_init 83 = .ok (.bipush 30, 2) := by decide +kernel
theorem dX8_init_85 : decode cX8_init 85 = .ok (.invokespecial 11, 3) := by decide +kernel
theorem k_3_45 : Jvm.Cond.fieldLink "FinderHouse$Shelf" (44 : Nat) "FinderHouse$Shelf" "pattern" "LFinderHouse$Term;" ∈ tb := tb3 45 (by decide +kernel) (by decide +kernel)
theorem dX8_init_88 : decode cX8_init 88 = .ok (.putfield 44, 3) := by decide +kernel
theorem dX8_init_91 : decode cX8_init 91 = .ok (.aload_n 0, 1) := by decide +kernel
theorem dX8_init_92 : decode cX8_init 92 = .ok (.iconst 2, 1) := by decide +kernel
theorem dX8_init_93 : decode cX8_init 93 = .ok (.newarray .int, 2) := by decide +kernel
theorem k_3_47 : Jvm.Cond.fieldLink "FinderHouse$Shelf" (47 : Nat) "FinderHouse$Shelf" "patternKinds" "[I" ∈ tb := tb3 47 (by decide +kernel) (by decide +kernel)
theorem dX8_init_95 : decode cX8_init 95 = .ok (.putfield 47, 3) := by decide +kernel
theorem dX8_init_98 : decode cX8_init 98 = .ok (.aload_n 0, 1) := by decide +kernel
theorem dX8_init_99 : decode cX8_init 99 = .ok (.iconst 4, 1) := by decide +kernel
theorem dX8_init_100 : decode cX8_init 100 = .ok (.newarray .int, 2) := by decide +kernel
theorem k_3_48 : Jvm.Cond.fieldLink "FinderHouse$Shelf" (50 : Nat) "FinderHouse$Shelf" "standsFor" "[I" ∈ tb := tb3 48 (by decide +kernel) (by decide +kernel)
theorem dX8_init_102 : decode cX8_init 102 = .ok (.putfield 50, 3) := by decide +kernel
theorem dX8_init_105 : decode cX8_init 105 = .ok (.aload_n 0, 1) := by decide +kernel
theorem dX8_init_106 : decode cX8_init 106 = .ok (.new 9, 3) := by decide +kernel
theorem dX8_init_109 : decode cX8_init 109 = .ok (.dup, 1) := by decide +kernel
theorem dX8_init_110 : decode cX8_init 110 = .ok (.bipush 30, 2) := by decide +kernel
theorem dX8_init_112 : decode cX8_init 112 = .ok (.invokespecial 11, 3) := by decide +kernel
theorem k_3_49 : Jvm.Cond.fieldLink "FinderHouse$Shelf" (53 : Nat) "FinderHouse$Shelf" "best" "LFinderHouse$Term;" ∈ tb := tb3 49 (by decide +kernel) (by decide +kernel)
theorem dX8_init_115 : decode cX8_init 115 = .ok (.putfield 53, 3) := by decide +kernel
theorem dX8_init_118 : decode cX8_init 118 = .ok (.aload_n 0, 1) := by decide +kernel
theorem dX8_init_119 : decode cX8_init 119 = .ok (.iconst 3, 1) := by decide +kernel
theorem dX8_init_120 : decode cX8_init 120 = .ok (.newarray .int, 2) := by decide +kernel
theorem k_3_50 : Jvm.Cond.fieldLink "FinderHouse$Shelf" (56 : Nat) "FinderHouse$Shelf" "bestKinds" "[I" ∈ tb := tb3 50 (by decide +kernel) (by decide +kernel)
theorem dX8_init_122 : decode cX8_init 122 = .ok (.putfield 56, 3) := by decide +kernel
theorem dX8_init_125 : decode cX8_init 125 = .ok (.aload_n 0, 1) := by decide +kernel
theorem dX8_init_126 : decode cX8_init 126 = .ok (.iconst 2, 1) := by decide +kernel
theorem dX8_init_127 : decode cX8_init 127 = .ok (.newarray .int, 2) := by decide +kernel
theorem k_3_51 : Jvm.Cond.fieldLink "FinderHouse$Shelf" (59 : Nat) "FinderHouse$Shelf" "bound" "[I" ∈ tb := tb3 51 (by decide +kernel) (by decide +kernel)
theorem dX8_init_129 : decode cX8_init 129 = .ok (.putfield 59, 3) := by decide +kernel
theorem dX8_init_132 : decode cX8_init 132 = .ok (.aload_n 0, 1) := by decide +kernel
theorem dX8_init_133 : decode cX8_init 133 = .ok (.new 9, 3) := by decide +kernel
theorem dX8_init_136 : decode cX8_init 136 = .ok (.dup, 1) := by decide +kernel
theorem dX8_init_137 : decode cX8_init 137 = .ok (.bipush 30, 2) := by decide +kernel
theorem dX8_init_139 : decode cX8_init 139 = .ok (.invokespecial 11, 3) := by decide +kernel
theorem k_3_52 : Jvm.Cond.fieldLink "FinderHouse$Shelf" (62 : Nat) "FinderHouse$Shelf" "rewritten" "LFinderHouse$Term;" ∈ tb := tb3 52 (by decide +kernel) (by decide +kernel)
theorem dX8_init_142 : decode cX8_init 142 = .ok (.putfield 62, 3) := by decide +kernel
theorem dX8_init_145 : decode cX8_init 145 = .ok (.aload_n 0, 1) := by decide +kernel
theorem dX8_init_146 : decode cX8_init 146 = .ok (.aload_n 1, 1) := by decide +kernel
theorem k_3_22 : Jvm.Cond.fieldLink "FinderHouse$Shelf" (65 : Nat) "FinderHouse$Shelf" "acts" "LFinderHouse$Acts;" ∈ tb := tb3 22 (by decide +kernel) (by decide +kernel)
theorem dX8_init_147 : decode cX8_init 147 = .ok (.putfield 65, 3) := by decide +kernel
theorem dX8_init_150 : decode cX8_init 150 = .ok (.iconst 0, 1) := by decide +kernel
theorem dX8_init_151 : decode cX8_init 151 = .ok (.istore_n 2, 1) := by decide +kernel
theorem dX8_init_152 : decode cX8_init 152 = .ok (.iload_n 2, 1) := by decide +kernel
theorem dX8_init_153 : decode cX8_init 153 = .ok (.bipush 12, 2) := by decide +kernel
theorem dX8_init_155 : decode cX8_init 155 = .ok (.if_icmp .ge 24, 3) := by decide +kernel
theorem dX8_init_158 : decode cX8_init 158 = .ok (.aload_n 0, 1) := by decide +kernel
theorem dX8_init_159 : decode cX8_init 159 = .ok (.getfield 31, 3) := by decide +kernel
theorem dX8_init_162 : decode cX8_init 162 = .ok (.iload_n 2, 1) := by decide +kernel
theorem dX8_init_163 : decode cX8_init 163 = .ok (.new 9, 3) := by decide +kernel
theorem dX8_init_166 : decode cX8_init 166 = .ok (.dup, 1) := by decide +kernel
theorem dX8_init_167 : decode cX8_init 167 = .ok (.bipush 30, 2) := by decide +kernel
theorem dX8_init_169 : decode cX8_init 169 = .ok (.invokespecial 11, 3) := by decide +kernel
theorem dX8_init_172 : decode cX8_init 172 = .ok (.aastore, 1) := by decide +kernel
theorem dX8_init_173 : decode cX8_init 173 = .ok (.iinc 2 1, 3) := by decide +kernel
theorem dX8_init_176 : decode cX8_init 176 = .ok (.goto (-24), 3) := by decide +kernel
theorem dX8_init_179 : decode cX8_init 179 = .ok (.return_, 1) := by decide +kernel
theorem dX4_init_0 : decode cX4_init 0 = .ok (.aload_n 0, 1) := by decide +kernel
theorem k_3_103 : Jvm.Cond.methodLink "FinderHouse$Loops" (3 : Nat) ({ cls := "java/lang/Object", name := "<init>", desc := "()V" } : Jvm.MethodName) ∈ tb := tb3 103 (by decide +kernel) (by decide +kernel)
theorem dX4_init_1 : decode cX4_init 1 = .ok (.invokespecial 3, 3) := by decide +kernel
theorem dX4_init_4 : decode cX4_init 4 = .ok (.aload_n 0, 1) := by decide +kernel
theorem dX4_init_5 : decode cX4_init 5 = .ok (.iconst 3, 1) := by decide +kernel
theorem dX4_init_6 : decode cX4_init 6 = .ok (.newarray .int, 2) := by decide +kernel
theorem k_3_111 : Jvm.Cond.fieldLink "FinderHouse$Loops" (9 : Nat) "FinderHouse$Loops" "varKinds" "[I" ∈ tb := tb3 111 (by decide +kernel) (by decide +kernel)
theorem dX4_init_8 : decode cX4_init 8 = .ok (.putfield 9, 3) := by decide +kernel
theorem dX4_init_11 : decode cX4_init 11 = .ok (.aload_n 0, 1) := by decide +kernel
theorem dX4_init_12 : decode cX4_init 12 = .ok (.iconst 2, 1) := by decide +kernel
theorem dX4_init_13 : decode cX4_init 13 = .ok (.newarray .int, 2) := by decide +kernel
theorem k_3_117 : Jvm.Cond.fieldLink "FinderHouse$Loops" (15 : Nat) "FinderHouse$Loops" "newKinds" "[I" ∈ tb := tb3 117 (by decide +kernel) (by decide +kernel)
theorem dX4_init_15 : decode cX4_init 15 = .ok (.putfield 15, 3) := by decide +kernel
theorem dX4_init_18 : decode cX4_init 18 = .ok (.aload_n 0, 1) := by decide +kernel
theorem dX4_init_19 : decode cX4_init 19 = .ok (.iconst 3, 1) := by decide +kernel
theorem dX4_init_20 : decode cX4_init 20 = .ok (.newarray .int, 2) := by decide +kernel
theorem k_3_121 : Jvm.Cond.fieldLink "FinderHouse$Loops" (18 : Nat) "FinderHouse$Loops" "newVarKinds" "[I" ∈ tb := tb3 121 (by decide +kernel) (by decide +kernel)
theorem dX4_init_22 : decode cX4_init 22 = .ok (.putfield 18, 3) := by decide +kernel
theorem dX4_init_25 : decode cX4_init 25 = .ok (.aload_n 0, 1) := by decide +kernel
theorem dX4_init_26 : decode cX4_init 26 = .ok (.bipush 8, 2) := by decide +kernel
theorem k_3_104 : Jvm.Cond.classLink "FinderHouse$Loops" (21 : Nat) "FinderHouse$Term" ∈ tb := tb3 104 (by decide +kernel) (by decide +kernel)
theorem dX4_init_28 : decode cX4_init 28 = .ok (.anewarray 21, 3) := by decide +kernel
theorem k_3_123 : Jvm.Cond.fieldLink "FinderHouse$Loops" (23 : Nat) "FinderHouse$Loops" "terms" "[LFinderHouse$Term;" ∈ tb := tb3 123 (by decide +kernel) (by decide +kernel)
theorem dX4_init_31 : decode cX4_init 31 = .ok (.putfield 23, 3) := by decide +kernel
theorem dX4_init_34 : decode cX4_init 34 = .ok (.aload_n 0, 1) := by decide +kernel
theorem dX4_init_35 : decode cX4_init 35 = .ok (.sipush 256, 3) := by decide +kernel
theorem dX4_init_38 : decode cX4_init 38 = .ok (.newarray .int, 2) := by decide +kernel
theorem k_3_125 : Jvm.Cond.fieldLink "FinderHouse$Loops" (27 : Nat) "FinderHouse$Loops" "firstState" "[I" ∈ tb := tb3 125 (by decide +kernel) (by decide +kernel)
theorem dX4_init_40 : decode cX4_init 40 = .ok (.putfield 27, 3) := by decide +kernel
theorem dX4_init_43 : decode cX4_init 43 = .ok (.aload_n 0, 1) := by decide +kernel
theorem dX4_init_44 : decode cX4_init 44 = .ok (.sipush 4096, 3) := by decide +kernel
theorem dX4_init_47 : decode cX4_init 47 = .ok (.newarray .int, 2) := by decide +kernel
theorem k_3_126 : Jvm.Cond.fieldLink "FinderHouse$Loops" (30 : Nat) "FinderHouse$Loops" "goesOn" "[I" ∈ tb := tb3 126 (by decide +kernel) (by decide +kernel)
theorem dX4_init_49 : decode cX4_init 49 = .ok (.putfield 30, 3) := by decide +kernel
theorem dX4_init_52 : decode cX4_init 52 = .ok (.aload_n 0, 1) := by decide +kernel
theorem dX4_init_53 : decode cX4_init 53 = .ok (.sipush 4096, 3) := by decide +kernel
theorem dX4_init_56 : decode cX4_init 56 = .ok (.newarray .int, 2) := by decide +kernel
theorem k_3_127 : Jvm.Cond.fieldLink "FinderHouse$Loops" (33 : Nat) "FinderHouse$Loops" "outcome" "[I" ∈ tb := tb3 127 (by decide +kernel) (by decide +kernel)
theorem dX4_init_58 : decode cX4_init 58 = .ok (.putfield 33, 3) := by decide +kernel
theorem dX4_init_61 : decode cX4_init 61 = .ok (.aload_n 0, 1) := by decide +kernel
theorem dX4_init_62 : decode cX4_init 62 = .ok (.sipush 4096, 3) := by decide +kernel
theorem dX4_init_65 : decode cX4_init 65 = .ok (.newarray .int, 2) := by decide +kernel
theorem k_3_128 : Jvm.Cond.fieldLink "FinderHouse$Loops" (36 : Nat) "FinderHouse$Loops" "meetings" "[I" ∈ tb := tb3 128 (by decide +kernel) (by decide +kernel)
theorem dX4_init_67 : decode cX4_init 67 = .ok (.putfield 36, 3) := by decide +kernel
theorem dX4_init_70 : decode cX4_init 70 = .ok (.aload_n 0, 1) := by decide +kernel
theorem dX4_init_71 : decode cX4_init 71 = .ok (.sipush 4096, 3) := by decide +kernel
theorem dX4_init_74 : decode cX4_init 74 = .ok (.newarray .int, 2) := by decide +kernel
theorem k_3_129 : Jvm.Cond.fieldLink "FinderHouse$Loops" (39 : Nat) "FinderHouse$Loops" "given" "[I" ∈ tb := tb3 129 (by decide +kernel) (by decide +kernel)
theorem dX4_init_76 : decode cX4_init 76 = .ok (.putfield 39, 3) := by decide +kernel
theorem dX4_init_79 : decode cX4_init 79 = .ok (.aload_n 0, 1) := by decide +kernel
theorem dX4_init_80 : decode cX4_init 80 = .ok (.sipush 4096, 3) := by decide +kernel
theorem dX4_init_83 : decode cX4_init 83 = .ok (.newarray .int, 2) := by decide +kernel
theorem k_3_130 : Jvm.Cond.fieldLink "FinderHouse$Loops" (42 : Nat) "FinderHouse$Loops" "path" "[I" ∈ tb := tb3 130 (by decide +kernel) (by decide +kernel)
theorem dX4_init_85 : decode cX4_init 85 = .ok (.putfield 42, 3) := by decide +kernel
theorem dX4_init_88 : decode cX4_init 88 = .ok (.aload_n 0, 1) := by decide +kernel
theorem dX4_init_89 : decode cX4_init 89 = .ok (.sipush 4096, 3) := by decide +kernel
theorem dX4_init_92 : decode cX4_init 92 = .ok (.newarray .int, 2) := by decide +kernel
theorem k_3_131 : Jvm.Cond.fieldLink "FinderHouse$Loops" (45 : Nat) "FinderHouse$Loops" "placeOf" "[I" ∈ tb := tb3 131 (by decide +kernel) (by decide +kernel)
theorem dX4_init_94 : decode cX4_init 94 = .ok (.putfield 45, 3) := by decide +kernel
theorem dX4_init_97 : decode cX4_init 97 = .ok (.aload_n 0, 1) := by decide +kernel
theorem dX4_init_98 : decode cX4_init 98 = .ok (.aload_n 1, 1) := by decide +kernel
theorem k_3_106 : Jvm.Cond.fieldLink "FinderHouse$Loops" (48 : Nat) "FinderHouse$Loops" "acts" "LFinderHouse$Acts;" ∈ tb := tb3 106 (by decide +kernel) (by decide +kernel)
theorem dX4_init_99 : decode cX4_init 99 = .ok (.putfield 48, 3) := by decide +kernel
theorem dX4_init_102 : decode cX4_init 102 = .ok (.iconst 0, 1) := by decide +kernel
theorem dX4_init_103 : decode cX4_init 103 = .ok (.istore_n 2, 1) := by decide +kernel
theorem dX4_init_104 : decode cX4_init 104 = .ok (.iload_n 2, 1) := by decide +kernel
theorem dX4_init_105 : decode cX4_init 105 = .ok (.aload_n 0, 1) := by decide +kernel
theorem dX4_init_106 : decode cX4_init 106 = .ok (.getfield 23, 3) := by decide +kernel
theorem dX4_init_109 : decode cX4_init 109 = .ok (.arraylength, 1) := by decide +kernel
theorem dX4_init_110 : decode cX4_init 110 = .ok (.if_icmp .ge 24, 3) := by decide +kernel
theorem dX4_init_113 : decode cX4_init 113 = .ok (.aload_n 0, 1) := by decide +kernel
theorem dX4_init_114 : decode cX4_init 114 = .ok (.getfield 23, 3) := by decide +kernel
theorem dX4_init_117 : decode cX4_init 117 = .ok (.iload_n 2, 1) := by decide +kernel
theorem dX4_init_118 : decode cX4_init 118 = .ok (.new 21, 3) := by decide +kernel
theorem dX4_init_121 : decode cX4_init 121 = .ok (.dup, 1) := by decide +kernel
theorem dX4_init_122 : decode cX4_init 122 = .ok (.bipush 121, 2) := by decide +kernel
theorem k_3_105 : Jvm.Cond.methodLink "FinderHouse$Loops" (52 : Nat) ({ cls := "FinderHouse$Term", name := "<init>", desc := "(I)V" } : Jvm.MethodName) ∈ tb := tb3 105 (by decide +kernel) (by decide +kernel)
theorem dX4_init_124 : decode cX4_init 124 = .ok (.invokespecial 52, 3) := by decide +kernel
theorem dX4_init_127 : decode cX4_init 127 = .ok (.aastore, 1) := by decide +kernel
theorem dX4_init_128 : decode cX4_init 128 = .ok (.iinc 2 1, 3) := by decide +kernel
theorem dX4_init_131 : decode cX4_init 131 = .ok (.goto (-27), 3) := by decide +kernel
theorem dX4_init_134 : decode cX4_init 134 = .ok (.return_, 1) := by decide +kernel
theorem dX6_init_0 : decode cX6_init 0 = .ok (.aload_n 0, 1) := by decide +kernel
theorem k_1_209 : Jvm.Cond.methodLink "FinderHouse$Reader" (3 : Nat) ({ cls := "java/lang/Object", name := "<init>", desc := "()V" } : Jvm.MethodName) ∈ tb := tb1 209 (by decide +kernel) (by decide +kernel)
theorem dX6_init_1 : decode cX6_init 1 = .ok (.invokespecial 3, 3) := by decide +kernel
theorem dX6_init_4 : decode cX6_init 4 = .ok (.aload_n 0, 1) := by decide +kernel
theorem k_1_210 : Jvm.Cond.classLink "FinderHouse$Reader" (9 : Nat) "FinderHouse$Term" ∈ tb := tb1 210 (by decide +kernel) (by decide +kernel)
theorem dX6_init_5 : decode cX6_init 5 = .ok (.new 9, 3) := by decide +kernel
theorem dX6_init_8 : decode cX6_init 8 = .ok (.dup, 1) := by decide +kernel
theorem dX6_init_9 : decode cX6_init 9 = .ok (.sipush 2001, 3) := by decide +kernel
theorem k_1_211 : Jvm.Cond.methodLink "FinderHouse$Reader" (11 : Nat) ({ cls := "FinderHouse$Term", name := "<init>", desc := "(I)V" } : Jvm.MethodName) ∈ tb := tb1 211 (by decide +kernel) (by decide +kernel)
theorem dX6_init_12 : decode cX6_init 12 = .ok (.invokespecial 11, 3) := by decide +kernel
theorem dX6_init_15 : decode cX6_init 15 = .ok (.putfield 14, 3) := by decide +kernel
theorem dX6_init_18 : decode cX6_init 18 = .ok (.aload_n 0, 1) := by decide +kernel
theorem dX6_init_19 : decode cX6_init 19 = .ok (.iconst 3, 1) := by decide +kernel
theorem dX6_init_20 : decode cX6_init 20 = .ok (.newarray .int, 2) := by decide +kernel
theorem k_1_229 : Jvm.Cond.fieldLink "FinderHouse$Reader" (20 : Nat) "FinderHouse$Reader" "scopeKinds" "[I" ∈ tb := tb1 229 (by decide +kernel) (by decide +kernel)
theorem dX6_init_22 : decode cX6_init 22 = .ok (.putfield 20, 3) := by decide +kernel
theorem dX6_init_25 : decode cX6_init 25 = .ok (.aload_n 0, 1) := by decide +kernel
theorem dX6_init_26 : decode cX6_init 26 = .ok (.iconst 3, 1) := by decide +kernel
theorem dX6_init_27 : decode cX6_init 27 = .ok (.newarray .long, 2) := by decide +kernel
theorem k_1_231 : Jvm.Cond.fieldLink "FinderHouse$Reader" (24 : Nat) "FinderHouse$Reader" "scopeNames" "[J" ∈ tb := tb1 231 (by decide +kernel) (by decide +kernel)
theorem dX6_init_29 : decode cX6_init 29 = .ok (.putfield 24, 3) := by decide +kernel
theorem dX6_init_32 : decode cX6_init 32 = .ok (.aload_n 0, 1) := by decide +kernel
theorem dX6_init_33 : decode cX6_init 33 = .ok (.aload_n 1, 1) := by decide +kernel
theorem k_1_212 : Jvm.Cond.fieldLink "FinderHouse$Reader" (28 : Nat) "FinderHouse$Reader" "acts" "LFinderHouse$Acts;" ∈ tb := tb1 212 (by decide +kernel) (by decide +kernel)
theorem dX6_init_34 : decode cX6_init 34 = .ok (.putfield 28, 3) := by decide +kernel
theorem dX6_init_37 : decode cX6_init 37 = .ok (.return_, 1) := by decide +kernel
set_option maxHeartbeats 4000000 in
set_option maxRecDepth 100000 in
theorem k9_121 (l : Launch) (dC : Nat → ClassId) (dI : Nat → Nat → Nat) (sz : Nat) (q : Nat)  : Met l yX9_init (Cond.code yX9_init cX9_init 2 none :: tb) ({ frames := 1, cells := 3, slots := 363, locals := 12 }) (pcw [.ref q, .int 121] (dC, dI) [(q, .inr (9, [.null, .null, .null, .int 0]))] [] sz) (va_Qv (fun (fs1 : List Value) => (True) ∧ (fs1.length = 4) ∧ (fs1[3]? = some (.int 0))) (bw (dC, dI) (va_A [(q, .inr (9, [.null, .null, .null, .int 0]))] sz) (fun (fs1 : List Value) => [(q, .inr (9, fs1))]) (fun (fs1 : List Value) => [])) (va_A [(q, .inr (9, [.null, .null, .null, .int 0]))] sz)) 3 363 (va_A [(q, .inr (9, [.null, .null, .null, .int 0]))] sz) := by
  refine Met.ofW (cc := cX9_init) (maxL := 2) (ret := none) (by decide) rfl ?_
  intro p e s m args below meth c s₁ B hml hv
  obtain ⟨rfl, hsz, hP, hK, hD0⟩ := hv
  have hx := B.exec
  have hb := B.bytes
  have hr := B.returns
  have hts := atoms_spec (ws := Cond.code yX9_init cX9_init 2 none :: tb) B.pre
  have ht : ∀ w ∈ tb, w.before _ s = true := fun w h => hts w (List.mem_cons_of_mem _ h)
  have hown : s.vm.findClass RX9 = some m.cls := findClass_of_methodNamed B.named
  have hlocks := B.notSynchronized
  have hin : meth.name = "<init>" := (name_of_methodNamed B.named B.method).1
  subst hsz
  have hD := hD0.self (sz := s.heap.size)
  generalize hAe : va_A [(q, .inr (9, [.null, .null, .null, .int 0]))] s.heap.size = A at hD ⊢
  have hA : ∀ q : Nat, s.heap.size ≤ q → A q := fun q h => by rw [← hAe]; exact Or.inr h
  have hS : va_S A s.heap s.heap [] := va_S.rf
  have hl := lv_entry ([.ref q, .int 121]) (n := 2) (Nat.le_of_ble_eq_true rfl)
  rw [lg_entry_eq]
  generalize (lg_sl ([.ref q, .int 121]) ++ List.replicate (2 - (lg_sl ([.ref q, .int 121])).length) Slot.unset).toArray = ls at hl ⊢
  have hl : lv_has ls 2 [(0, .ref q), (1, .int 121)] := hl
  have hP : va_P (dC, dI) cls [(q, .inr (9, [.null, .null, .null, .int 0]))] s.heap := hP
  refine lv_aload_n hx hb dX9_init_0 rfl (lv_at hl 0 rfl) ?_
  refine tk_o hx hb hown ht k_1_105 k_1_36 k_1_37 hml hl.1 dX9_init_1 (Nat.le_of_ble_eq_true rfl) (Nat.le_of_ble_eq_true rfl) ?_
  refine lv_aload_n hx hb dX9_init_4 rfl (lv_at hl 0 rfl) ?_
  refine lv_iload_n hx hb dX9_init_5 rfl (lv_at hl 1 rfl) ?_
  refine va_newa (atype := .int) (ty := .int) (N' := 121) (a0 := (121, .inl (fun _ => 0))) hx hb (ht _ k_1_139) rfl hK hP hD hS hA (fun _ => rfl) (by decide) (by decide) (Nat.le_of_ble_eq_true rfl) (Nat.le_of_ble_eq_true rfl) (Nat.le_of_ble_eq_true rfl) dX9_init_6 (fun q1 c2 H hK hP hD hS => ?_)
  have hK : va_K (dC, dI) cls [(c2, .int)] s := hK
  have hP : va_P (dC, dI) cls [(q, .inr (9, [.null, .null, .null, .int 0])), (q1, .inl (c2, 121, .inl (fun _ => 0)))] H := hP
  have hD : va_D A [(q, .inr (9, [.null, .null, .null, .int 0])), (q1, .inl (c2, 121, .inl (fun _ => 0)))] := hD
  refine W.widen (k := 1) (n := 121) (by omega) (by omega) ?_
  refine va_putF (D := (dC, dI)) (ci := 9) (v := .ref q1) (ty := .array .int) (C := RX9) (T := TX9) (N := 4) hx hb ht uX9 tyX9 tkX9 nmX9 hown hK hP hD hS 0 rfl rfl 0 (by decide) (ht _ k_1_106) (fun _ h9 => h9) rfl hin rfl (by decide +kernel) rfl rfl (Nat.le_of_ble_eq_true rfl) dX9_init_8 (fun H locs hP hD hS => ?_)
  have hP : va_P (dC, dI) cls [(q, .inr (9, [.ref q1, .null, .null, .int 0])), (q1, .inl (c2, 121, .inl (fun _ => 0)))] H := hP
  have hD : va_D A [(q, .inr (9, [.ref q1, .null, .null, .int 0])), (q1, .inl (c2, 121, .inl (fun _ => 0)))] := hD
  have hP := hP.sub (ws' := [(q, .inr (9, [.ref q1, .null, .null, .int 0]))]) [0] rfl
  have hD := hD.sub (ws' := [(q, .inr (9, [.ref q1, .null, .null, .int 0]))]) [0] (by decide) rfl
  refine lv_aload_n hx hb dX9_init_11 rfl (lv_at hl 0 rfl) ?_
  refine lv_iload_n hx hb dX9_init_12 rfl (lv_at hl 1 rfl) ?_
  refine va_newa (atype := .int) (ty := .int) (N' := 121) (a0 := (121, .inl (fun _ => 0))) hx hb (ht _ k_1_139) rfl hK hP hD hS hA (fun _ => rfl) (by decide) (by decide) (Nat.le_of_ble_eq_true rfl) (Nat.le_of_ble_eq_true rfl) (Nat.le_of_ble_eq_true rfl) dX9_init_13 (fun q3 c4 H hK hP hD hS => ?_)
  have hK : va_K (dC, dI) cls [(c2, .int), (c4, .int)] s := hK
  have hP : va_P (dC, dI) cls [(q, .inr (9, [.ref q1, .null, .null, .int 0])), (q3, .inl (c4, 121, .inl (fun _ => 0)))] H := hP
  have hD : va_D A [(q, .inr (9, [.ref q1, .null, .null, .int 0])), (q3, .inl (c4, 121, .inl (fun _ => 0)))] := hD
  refine W.widen (k := 2) (n := 242) (by omega) (by omega) ?_
  refine va_putF (D := (dC, dI)) (ci := 9) (v := .ref q3) (ty := .array .int) (C := RX9) (T := TX9) (N := 4) hx hb ht uX9 tyX9 tkX9 nmX9 hown hK hP hD hS 0 rfl rfl 1 (by decide) (ht _ k_1_111) (fun _ h9 => h9) rfl hin rfl (by decide +kernel) rfl rfl (Nat.le_of_ble_eq_true rfl) dX9_init_15 (fun H locs hP hD hS => ?_)
  have hP : va_P (dC, dI) cls [(q, .inr (9, [.ref q1, .ref q3, .null, .int 0])), (q3, .inl (c4, 121, .inl (fun _ => 0)))] H := hP
  have hD : va_D A [(q, .inr (9, [.ref q1, .ref q3, .null, .int 0])), (q3, .inl (c4, 121, .inl (fun _ => 0)))] := hD
  have hP := hP.sub (ws' := [(q, .inr (9, [.ref q1, .ref q3, .null, .int 0]))]) [0] rfl
  have hD := hD.sub (ws' := [(q, .inr (9, [.ref q1, .ref q3, .null, .int 0]))]) [0] (by decide) rfl
  refine lv_aload_n hx hb dX9_init_18 rfl (lv_at hl 0 rfl) ?_
  refine lv_iload_n hx hb dX9_init_19 rfl (lv_at hl 1 rfl) ?_
  refine va_newa (atype := .int) (ty := .int) (N' := 121) (a0 := (121, .inl (fun _ => 0))) hx hb (ht _ k_1_139) rfl hK hP hD hS hA (fun _ => rfl) (by decide) (by decide) (Nat.le_of_ble_eq_true rfl) (Nat.le_of_ble_eq_true rfl) (Nat.le_of_ble_eq_true rfl) dX9_init_20 (fun q5 c6 H hK hP hD hS => ?_)
  have hK : va_K (dC, dI) cls [(c2, .int), (c4, .int), (c6, .int)] s := hK
  have hP : va_P (dC, dI) cls [(q, .inr (9, [.ref q1, .ref q3, .null, .int 0])), (q5, .inl (c6, 121, .inl (fun _ => 0)))] H := hP
  have hD : va_D A [(q, .inr (9, [.ref q1, .ref q3, .null, .int 0])), (q5, .inl (c6, 121, .inl (fun _ => 0)))] := hD
  refine W.widen (k := 3) (n := 363) (by omega) (by omega) ?_
  refine va_putF (D := (dC, dI)) (ci := 9) (v := .ref q5) (ty := .array .int) (C := RX9) (T := TX9) (N := 4) hx hb ht uX9 tyX9 tkX9 nmX9 hown hK hP hD hS 0 rfl rfl 2 (by decide) (ht _ k_1_116) (fun _ h9 => h9) rfl hin rfl (by decide +kernel) rfl rfl (Nat.le_of_ble_eq_true rfl) dX9_init_22 (fun H locs hP hD hS => ?_)
  have hP : va_P (dC, dI) cls [(q, .inr (9, [.ref q1, .ref q3, .ref q5, .int 0])), (q5, .inl (c6, 121, .inl (fun _ => 0)))] H := hP
  have hD : va_D A [(q, .inr (9, [.ref q1, .ref q3, .ref q5, .int 0])), (q5, .inl (c6, 121, .inl (fun _ => 0)))] := hD
  have hP := hP.sub (ws' := [(q, .inr (9, [.ref q1, .ref q3, .ref q5, .int 0]))]) [0] rfl
  have hD := hD.sub (ws' := [(q, .inr (9, [.ref q1, .ref q3, .ref q5, .int 0]))]) [0] (by decide) rfl
  exact W.vret hx hb hr (fun t ht9 hW => ⟨⟨([.ref q1, .ref q3, .ref q5, .int 0]), rfl, ⟨trivial, rfl, rfl⟩, by rw [ht9]; exact hP.sub [0] rfl, va_K.moved hW.alike (hK.sub [] rfl), hD.sub [0] (by decide) rfl⟩, hS.F ht9⟩) hS.2.2 dX9_init_25
set_option maxHeartbeats 4000000 in
set_option maxRecDepth 100000 in
theorem k9_2001 (l : Launch) (dC : Nat → ClassId) (dI : Nat → Nat → Nat) (sz : Nat) (q : Nat)  : Met l yX9_init (Cond.code yX9_init cX9_init 2 none :: tb) ({ frames := 1, cells := 3, slots := 6003, locals := 12 }) (pcw [.ref q, .int 2001] (dC, dI) [(q, .inr (9, [.null, .null, .null, .int 0]))] [] sz) (va_Qv (fun (fs1 : List Value) => (True) ∧ (fs1.length = 4) ∧ (fs1[3]? = some (.int 0))) (bw (dC, dI) (va_A [(q, .inr (9, [.null, .null, .null, .int 0]))] sz) (fun (fs1 : List Value) => [(q, .inr (9, fs1))]) (fun (fs1 : List Value) => [])) (va_A [(q, .inr (9, [.null, .null, .null, .int 0]))] sz)) 3 6003 (va_A [(q, .inr (9, [.null, .null, .null, .int 0]))] sz) := by
  refine Met.ofW (cc := cX9_init) (maxL := 2) (ret := none) (by decide) rfl ?_
  intro p e s m args below meth c s₁ B hml hv
  obtain ⟨rfl, hsz, hP, hK, hD0⟩ := hv
  have hx := B.exec
  have hb := B.bytes
  have hr := B.returns
  have hts := atoms_spec (ws := Cond.code yX9_init cX9_init 2 none :: tb) B.pre
  have ht : ∀ w ∈ tb, w.before _ s = true := fun w h => hts w (List.mem_cons_of_mem _ h)
  have hown : s.vm.findClass RX9 = some m.cls := findClass_of_methodNamed B.named
  have hlocks := B.notSynchronized
  have hin : meth.name = "<init>" := (name_of_methodNamed B.named B.method).1
  subst hsz
  have hD := hD0.self (sz := s.heap.size)
  generalize hAe : va_A [(q, .inr (9, [.null, .null, .null, .int 0]))] s.heap.size = A at hD ⊢
  have hA : ∀ q : Nat, s.heap.size ≤ q → A q := fun q h => by rw [← hAe]; exact Or.inr h
  have hS : va_S A s.heap s.heap [] := va_S.rf
  have hl := lv_entry ([.ref q, .int 2001]) (n := 2) (Nat.le_of_ble_eq_true rfl)
  rw [lg_entry_eq]
  generalize (lg_sl ([.ref q, .int 2001]) ++ List.replicate (2 - (lg_sl ([.ref q, .int 2001])).length) Slot.unset).toArray = ls at hl ⊢
  have hl : lv_has ls 2 [(0, .ref q), (1, .int 2001)] := hl
  have hP : va_P (dC, dI) cls [(q, .inr (9, [.null, .null, .null, .int 0]))] s.heap := hP
  refine lv_aload_n hx hb dX9_init_0 rfl (lv_at hl 0 rfl) ?_
  refine tk_o hx hb hown ht k_1_105 k_1_36 k_1_37 hml hl.1 dX9_init_1 (Nat.le_of_ble_eq_true rfl) (Nat.le_of_ble_eq_true rfl) ?_
  refine lv_aload_n hx hb dX9_init_4 rfl (lv_at hl 0 rfl) ?_
  refine lv_iload_n hx hb dX9_init_5 rfl (lv_at hl 1 rfl) ?_
  refine va_newa (atype := .int) (ty := .int) (N' := 2001) (a0 := (2001, .inl (fun _ => 0))) hx hb (ht _ k_1_139) rfl hK hP hD hS hA (fun _ => rfl) (by decide) (by decide) (Nat.le_of_ble_eq_true rfl) (Nat.le_of_ble_eq_true rfl) (Nat.le_of_ble_eq_true rfl) dX9_init_6 (fun q1 c2 H hK hP hD hS => ?_)
  have hK : va_K (dC, dI) cls [(c2, .int)] s := hK
  have hP : va_P (dC, dI) cls [(q, .inr (9, [.null, .null, .null, .int 0])), (q1, .inl (c2, 2001, .inl (fun _ => 0)))] H := hP
  have hD : va_D A [(q, .inr (9, [.null, .null, .null, .int 0])), (q1, .inl (c2, 2001, .inl (fun _ => 0)))] := hD
  refine W.widen (k := 1) (n := 2001) (by omega) (by omega) ?_
  refine va_putF (D := (dC, dI)) (ci := 9) (v := .ref q1) (ty := .array .int) (C := RX9) (T := TX9) (N := 4) hx hb ht uX9 tyX9 tkX9 nmX9 hown hK hP hD hS 0 rfl rfl 0 (by decide) (ht _ k_1_106) (fun _ h9 => h9) rfl hin rfl (by decide +kernel) rfl rfl (Nat.le_of_ble_eq_true rfl) dX9_init_8 (fun H locs hP hD hS => ?_)
  have hP : va_P (dC, dI) cls [(q, .inr (9, [.ref q1, .null, .null, .int 0])), (q1, .inl (c2, 2001, .inl (fun _ => 0)))] H := hP
  have hD : va_D A [(q, .inr (9, [.ref q1, .null, .null, .int 0])), (q1, .inl (c2, 2001, .inl (fun _ => 0)))] := hD
  have hP := hP.sub (ws' := [(q, .inr (9, [.ref q1, .null, .null, .int 0]))]) [0] rfl
  have hD := hD.sub (ws' := [(q, .inr (9, [.ref q1, .null, .null, .int 0]))]) [0] (by decide) rfl
  refine lv_aload_n hx hb dX9_init_11 rfl (lv_at hl 0 rfl) ?_
  refine lv_iload_n hx hb dX9_init_12 rfl (lv_at hl 1 rfl) ?_
  refine va_newa (atype := .int) (ty := .int) (N' := 2001) (a0 := (2001, .inl (fun _ => 0))) hx hb (ht _ k_1_139) rfl hK hP hD hS hA (fun _ => rfl) (by decide) (by decide) (Nat.le_of_ble_eq_true rfl) (Nat.le_of_ble_eq_true rfl) (Nat.le_of_ble_eq_true rfl) dX9_init_13 (fun q3 c4 H hK hP hD hS => ?_)
  have hK : va_K (dC, dI) cls [(c2, .int), (c4, .int)] s := hK
  have hP : va_P (dC, dI) cls [(q, .inr (9, [.ref q1, .null, .null, .int 0])), (q3, .inl (c4, 2001, .inl (fun _ => 0)))] H := hP
  have hD : va_D A [(q, .inr (9, [.ref q1, .null, .null, .int 0])), (q3, .inl (c4, 2001, .inl (fun _ => 0)))] := hD
  refine W.widen (k := 2) (n := 4002) (by omega) (by omega) ?_
  refine va_putF (D := (dC, dI)) (ci := 9) (v := .ref q3) (ty := .array .int) (C := RX9) (T := TX9) (N := 4) hx hb ht uX9 tyX9 tkX9 nmX9 hown hK hP hD hS 0 rfl rfl 1 (by decide) (ht _ k_1_111) (fun _ h9 => h9) rfl hin rfl (by decide +kernel) rfl rfl (Nat.le_of_ble_eq_true rfl) dX9_init_15 (fun H locs hP hD hS => ?_)
  have hP : va_P (dC, dI) cls [(q, .inr (9, [.ref q1, .ref q3, .null, .int 0])), (q3, .inl (c4, 2001, .inl (fun _ => 0)))] H := hP
  have hD : va_D A [(q, .inr (9, [.ref q1, .ref q3, .null, .int 0])), (q3, .inl (c4, 2001, .inl (fun _ => 0)))] := hD
  have hP := hP.sub (ws' := [(q, .inr (9, [.ref q1, .ref q3, .null, .int 0]))]) [0] rfl
  have hD := hD.sub (ws' := [(q, .inr (9, [.ref q1, .ref q3, .null, .int 0]))]) [0] (by decide) rfl
  refine lv_aload_n hx hb dX9_init_18 rfl (lv_at hl 0 rfl) ?_
  refine lv_iload_n hx hb dX9_init_19 rfl (lv_at hl 1 rfl) ?_
  refine va_newa (atype := .int) (ty := .int) (N' := 2001) (a0 := (2001, .inl (fun _ => 0))) hx hb (ht _ k_1_139) rfl hK hP hD hS hA (fun _ => rfl) (by decide) (by decide) (Nat.le_of_ble_eq_true rfl) (Nat.le_of_ble_eq_true rfl) (Nat.le_of_ble_eq_true rfl) dX9_init_20 (fun q5 c6 H hK hP hD hS => ?_)
  have hK : va_K (dC, dI) cls [(c2, .int), (c4, .int), (c6, .int)] s := hK
  have hP : va_P (dC, dI) cls [(q, .inr (9, [.ref q1, .ref q3, .null, .int 0])), (q5, .inl (c6, 2001, .inl (fun _ => 0)))] H := hP
  have hD : va_D A [(q, .inr (9, [.ref q1, .ref q3, .null, .int 0])), (q5, .inl (c6, 2001, .inl (fun _ => 0)))] := hD
  refine W.widen (k := 3) (n := 6003) (by omega) (by omega) ?_
  refine va_putF (D := (dC, dI)) (ci := 9) (v := .ref q5) (ty := .array .int) (C := RX9) (T := TX9) (N := 4) hx hb ht uX9 tyX9 tkX9 nmX9 hown hK hP hD hS 0 rfl rfl 2 (by decide) (ht _ k_1_116) (fun _ h9 => h9) rfl hin rfl (by decide +kernel) rfl rfl (Nat.le_of_ble_eq_true rfl) dX9_init_22 (fun H locs hP hD hS => ?_)
  have hP : va_P (dC, dI) cls [(q, .inr (9, [.ref q1, .ref q3, .ref q5, .int 0])), (q5, .inl (c6, 2001, .inl (fun _ => 0)))] H := hP
  have hD : va_D A [(q, .inr (9, [.ref q1, .ref q3, .ref q5, .int 0])), (q5, .inl (c6, 2001, .inl (fun _ => 0)))] := hD
  have hP := hP.sub (ws' := [(q, .inr (9, [.ref q1, .ref q3, .ref q5, .int 0]))]) [0] rfl
  have hD := hD.sub (ws' := [(q, .inr (9, [.ref q1, .ref q3, .ref q5, .int 0]))]) [0] (by decide) rfl
  exact W.vret hx hb hr (fun t ht9 hW => ⟨⟨([.ref q1, .ref q3, .ref q5, .int 0]), rfl, ⟨trivial, rfl, rfl⟩, by rw [ht9]; exact hP.sub [0] rfl, va_K.moved hW.alike (hK.sub [] rfl), hD.sub [0] (by decide) rfl⟩, hS.F ht9⟩) hS.2.2 dX9_init_25
set_option maxHeartbeats 4000000 in
set_option maxRecDepth 100000 in
theorem k9_13 (l : Launch) (dC : Nat → ClassId) (dI : Nat → Nat → Nat) (sz : Nat) (q : Nat)  : Met l yX9_init (Cond.code yX9_init cX9_init 2 none :: tb) ({ frames := 1, cells := 3, slots := 39, locals := 12 }) (pcw [.ref q, .int 13] (dC, dI) [(q, .inr (9, [.null, .null, .null, .int 0]))] [] sz) (va_Qv (fun (fs1 : List Value) => (True) ∧ (fs1.length = 4) ∧ (fs1[3]? = some (.int 0))) (bw (dC, dI) (va_A [(q, .inr (9, [.null, .null, .null, .int 0]))] sz) (fun (fs1 : List Value) => [(q, .inr (9, fs1))]) (fun (fs1 : List Value) => [])) (va_A [(q, .inr (9, [.null, .null, .null, .int 0]))] sz)) 3 39 (va_A [(q, .inr (9, [.null, .null, .null, .int 0]))] sz) := by
  refine Met.ofW (cc := cX9_init) (maxL := 2) (ret := none) (by decide) rfl ?_
  intro p e s m args below meth c s₁ B hml hv
  obtain ⟨rfl, hsz, hP, hK, hD0⟩ := hv
  have hx := B.exec
  have hb := B.bytes
  have hr := B.returns
  have hts := atoms_spec (ws := Cond.code yX9_init cX9_init 2 none :: tb) B.pre
  have ht : ∀ w ∈ tb, w.before _ s = true := fun w h => hts w (List.mem_cons_of_mem _ h)
  have hown : s.vm.findClass RX9 = some m.cls := findClass_of_methodNamed B.named
  have hlocks := B.notSynchronized
  have hin : meth.name = "<init>" := (name_of_methodNamed B.named B.method).1
  subst hsz
  have hD := hD0.self (sz := s.heap.size)
  generalize hAe : va_A [(q, .inr (9, [.null, .null, .null, .int 0]))] s.heap.size = A at hD ⊢
  have hA : ∀ q : Nat, s.heap.size ≤ q → A q := fun q h => by rw [← hAe]; exact Or.inr h
  have hS : va_S A s.heap s.heap [] := va_S.rf
  have hl := lv_entry ([.ref q, .int 13]) (n := 2) (Nat.le_of_ble_eq_true rfl)
  rw [lg_entry_eq]
  generalize (lg_sl ([.ref q, .int 13]) ++ List.replicate (2 - (lg_sl ([.ref q, .int 13])).length) Slot.unset).toArray = ls at hl ⊢
  have hl : lv_has ls 2 [(0, .ref q), (1, .int 13)] := hl
  have hP : va_P (dC, dI) cls [(q, .inr (9, [.null, .null, .null, .int 0]))] s.heap := hP
  refine lv_aload_n hx hb dX9_init_0 rfl (lv_at hl 0 rfl) ?_
  refine tk_o hx hb hown ht k_1_105 k_1_36 k_1_37 hml hl.1 dX9_init_1 (Nat.le_of_ble_eq_true rfl) (Nat.le_of_ble_eq_true rfl) ?_
  refine lv_aload_n hx hb dX9_init_4 rfl (lv_at hl 0 rfl) ?_
  refine lv_iload_n hx hb dX9_init_5 rfl (lv_at hl 1 rfl) ?_
  refine va_newa (atype := .int) (ty := .int) (N' := 13) (a0 := (13, .inl (fun _ => 0))) hx hb (ht _ k_1_139) rfl hK hP hD hS hA (fun _ => rfl) (by decide) (by decide) (Nat.le_of_ble_eq_true rfl) (Nat.le_of_ble_eq_true rfl) (Nat.le_of_ble_eq_true rfl) dX9_init_6 (fun q1 c2 H hK hP hD hS => ?_)
  have hK : va_K (dC, dI) cls [(c2, .int)] s := hK
  have hP : va_P (dC, dI) cls [(q, .inr (9, [.null, .null, .null, .int 0])), (q1, .inl (c2, 13, .inl (fun _ => 0)))] H := hP
  have hD : va_D A [(q, .inr (9, [.null, .null, .null, .int 0])), (q1, .inl (c2, 13, .inl (fun _ => 0)))] := hD
  refine W.widen (k := 1) (n := 13) (by omega) (by omega) ?_
  refine va_putF (D := (dC, dI)) (ci := 9) (v := .ref q1) (ty := .array .int) (C := RX9) (T := TX9) (N := 4) hx hb ht uX9 tyX9 tkX9 nmX9 hown hK hP hD hS 0 rfl rfl 0 (by decide) (ht _ k_1_106) (fun _ h9 => h9) rfl hin rfl (by decide +kernel) rfl rfl (Nat.le_of_ble_eq_true rfl) dX9_init_8 (fun H locs hP hD hS => ?_)
  have hP : va_P (dC, dI) cls [(q, .inr (9, [.ref q1, .null, .null, .int 0])), (q1, .inl (c2, 13, .inl (fun _ => 0)))] H := hP
  have hD : va_D A [(q, .inr (9, [.ref q1, .null, .null, .int 0])), (q1, .inl (c2, 13, .inl (fun _ => 0)))] := hD
  have hP := hP.sub (ws' := [(q, .inr (9, [.ref q1, .null, .null, .int 0]))]) [0] rfl
  have hD := hD.sub (ws' := [(q, .inr (9, [.ref q1, .null, .null, .int 0]))]) [0] (by decide) rfl
  refine lv_aload_n hx hb dX9_init_11 rfl (lv_at hl 0 rfl) ?_
  refine lv_iload_n hx hb dX9_init_12 rfl (lv_at hl 1 rfl) ?_
  refine va_newa (atype := .int) (ty := .int) (N' := 13) (a0 := (13, .inl (fun _ => 0))) hx hb (ht _ k_1_139) rfl hK hP hD hS hA (fun _ => rfl) (by decide) (by decide) (Nat.le_of_ble_eq_true rfl) (Nat.le_of_ble_eq_true rfl) (Nat.le_of_ble_eq_true rfl) dX9_init_13 (fun q3 c4 H hK hP hD hS => ?_)
  have hK : va_K (dC, dI) cls [(c2, .int), (c4, .int)] s := hK
  have hP : va_P (dC, dI) cls [(q, .inr (9, [.ref q1, .null, .null, .int 0])), (q3, .inl (c4, 13, .inl (fun _ => 0)))] H := hP
  have hD : va_D A [(q, .inr (9, [.ref q1, .null, .null, .int 0])), (q3, .inl (c4, 13, .inl (fun _ => 0)))] := hD
  refine W.widen (k := 2) (n := 26) (by omega) (by omega) ?_
  refine va_putF (D := (dC, dI)) (ci := 9) (v := .ref q3) (ty := .array .int) (C := RX9) (T := TX9) (N := 4) hx hb ht uX9 tyX9 tkX9 nmX9 hown hK hP hD hS 0 rfl rfl 1 (by decide) (ht _ k_1_111) (fun _ h9 => h9) rfl hin rfl (by decide +kernel) rfl rfl (Nat.le_of_ble_eq_true rfl) dX9_init_15 (fun H locs hP hD hS => ?_)
  have hP : va_P (dC, dI) cls [(q, .inr (9, [.ref q1, .ref q3, .null, .int 0])), (q3, .inl (c4, 13, .inl (fun _ => 0)))] H := hP
  have hD : va_D A [(q, .inr (9, [.ref q1, .ref q3, .null, .int 0])), (q3, .inl (c4, 13, .inl (fun _ => 0)))] := hD
  have hP := hP.sub (ws' := [(q, .inr (9, [.ref q1, .ref q3, .null, .int 0]))]) [0] rfl
  have hD := hD.sub (ws' := [(q, .inr (9, [.ref q1, .ref q3, .null, .int 0]))]) [0] (by decide) rfl
  refine lv_aload_n hx hb dX9_init_18 rfl (lv_at hl 0 rfl) ?_
  refine lv_iload_n hx hb dX9_init_19 rfl (lv_at hl 1 rfl) ?_
  refine va_newa (atype := .int) (ty := .int) (N' := 13) (a0 := (13, .inl (fun _ => 0))) hx hb (ht _ k_1_139) rfl hK hP hD hS hA (fun _ => rfl) (by decide) (by decide) (Nat.le_of_ble_eq_true rfl) (Nat.le_of_ble_eq_true rfl) (Nat.le_of_ble_eq_true rfl) dX9_init_20 (fun q5 c6 H hK hP hD hS => ?_)
  have hK : va_K (dC, dI) cls [(c2, .int), (c4, .int), (c6, .int)] s := hK
  have hP : va_P (dC, dI) cls [(q, .inr (9, [.ref q1, .ref q3, .null, .int 0])), (q5, .inl (c6, 13, .inl (fun _ => 0)))] H := hP
  have hD : va_D A [(q, .inr (9, [.ref q1, .ref q3, .null, .int 0])), (q5, .inl (c6, 13, .inl (fun _ => 0)))] := hD
  refine W.widen (k := 3) (n := 39) (by omega) (by omega) ?_
  refine va_putF (D := (dC, dI)) (ci := 9) (v := .ref q5) (ty := .array .int) (C := RX9) (T := TX9) (N := 4) hx hb ht uX9 tyX9 tkX9 nmX9 hown hK hP hD hS 0 rfl rfl 2 (by decide) (ht _ k_1_116) (fun _ h9 => h9) rfl hin rfl (by decide +kernel) rfl rfl (Nat.le_of_ble_eq_true rfl) dX9_init_22 (fun H locs hP hD hS => ?_)
  have hP : va_P (dC, dI) cls [(q, .inr (9, [.ref q1, .ref q3, .ref q5, .int 0])), (q5, .inl (c6, 13, .inl (fun _ => 0)))] H := hP
  have hD : va_D A [(q, .inr (9, [.ref q1, .ref q3, .ref q5, .int 0])), (q5, .inl (c6, 13, .inl (fun _ => 0)))] := hD
  have hP := hP.sub (ws' := [(q, .inr (9, [.ref q1, .ref q3, .ref q5, .int 0]))]) [0] rfl
  have hD := hD.sub (ws' := [(q, .inr (9, [.ref q1, .ref q3, .ref q5, .int 0]))]) [0] (by decide) rfl
  exact W.vret hx hb hr (fun t ht9 hW => ⟨⟨([.ref q1, .ref q3, .ref q5, .int 0]), rfl, ⟨trivial, rfl, rfl⟩, by rw [ht9]; exact hP.sub [0] rfl, va_K.moved hW.alike (hK.sub [] rfl), hD.sub [0] (by decide) rfl⟩, hS.F ht9⟩) hS.2.2 dX9_init_25
set_option maxHeartbeats 4000000 in
set_option maxRecDepth 100000 in
theorem k9_134 (l : Launch) (dC : Nat → ClassId) (dI : Nat → Nat → Nat) (sz : Nat) (q : Nat)  : Met l yX9_init (Cond.code yX9_init cX9_init 2 none :: tb) ({ frames := 1, cells := 3, slots := 402, locals := 12 }) (pcw [.ref q, .int 134] (dC, dI) [(q, .inr (9, [.null, .null, .null, .int 0]))] [] sz) (va_Qv (fun (fs1 : List Value) => (True) ∧ (fs1.length = 4) ∧ (fs1[3]? = some (.int 0))) (bw (dC, dI) (va_A [(q, .inr (9, [.null, .null, .null, .int 0]))] sz) (fun (fs1 : List Value) => [(q, .inr (9, fs1))]) (fun (fs1 : List Value) => [])) (va_A [(q, .inr (9, [.null, .null, .null, .int 0]))] sz)) 3 402 (va_A [(q, .inr (9, [.null, .null, .null, .int 0]))] sz) := by
  refine Met.ofW (cc := cX9_init) (maxL := 2) (ret := none) (by decide) rfl ?_
  intro p e s m args below meth c s₁ B hml hv
  obtain ⟨rfl, hsz, hP, hK, hD0⟩ := hv
  have hx := B.exec
  have hb := B.bytes
  have hr := B.returns
  have hts := atoms_spec (ws := Cond.code yX9_init cX9_init 2 none :: tb) B.pre
  have ht : ∀ w ∈ tb, w.before _ s = true := fun w h => hts w (List.mem_cons_of_mem _ h)
  have hown : s.vm.findClass RX9 = some m.cls := findClass_of_methodNamed B.named
  have hlocks := B.notSynchronized
  have hin : meth.name = "<init>" := (name_of_methodNamed B.named B.method).1
  subst hsz
  have hD := hD0.self (sz := s.heap.size)
  generalize hAe : va_A [(q, .inr (9, [.null, .null, .null, .int 0]))] s.heap.size = A at hD ⊢
  have hA : ∀ q : Nat, s.heap.size ≤ q → A q := fun q h => by rw [← hAe]; exact Or.inr h
  have hS : va_S A s.heap s.heap [] := va_S.rf
  have hl := lv_entry ([.ref q, .int 134]) (n := 2) (Nat.le_of_ble_eq_true rfl)
  rw [lg_entry_eq]
  generalize (lg_sl ([.ref q, .int 134]) ++ List.replicate (2 - (lg_sl ([.ref q, .int 134])).length) Slot.unset).toArray = ls at hl ⊢
  have hl : lv_has ls 2 [(0, .ref q), (1, .int 134)] := hl
  have hP : va_P (dC, dI) cls [(q, .inr (9, [.null, .null, .null, .int 0]))] s.heap := hP
  refine lv_aload_n hx hb dX9_init_0 rfl (lv_at hl 0 rfl) ?_
  refine tk_o hx hb hown ht k_1_105 k_1_36 k_1_37 hml hl.1 dX9_init_1 (Nat.le_of_ble_eq_true rfl) (Nat.le_of_ble_eq_true rfl) ?_
  refine lv_aload_n hx hb dX9_init_4 rfl (lv_at hl 0 rfl) ?_
  refine lv_iload_n hx hb dX9_init_5 rfl (lv_at hl 1 rfl) ?_
  refine va_newa (atype := .int) (ty := .int) (N' := 134) (a0 := (134, .inl (fun _ => 0))) hx hb (ht _ k_1_139) rfl hK hP hD hS hA (fun _ => rfl) (by decide) (by decide) (Nat.le_of_ble_eq_true rfl) (Nat.le_of_ble_eq_true rfl) (Nat.le_of_ble_eq_true rfl) dX9_init_6 (fun q1 c2 H hK hP hD hS => ?_)
  have hK : va_K (dC, dI) cls [(c2, .int)] s := hK
  have hP : va_P (dC, dI) cls [(q, .inr (9, [.null, .null, .null, .int 0])), (q1, .inl (c2, 134, .inl (fun _ => 0)))] H := hP
  have hD : va_D A [(q, .inr (9, [.null, .null, .null, .int 0])), (q1, .inl (c2, 134, .inl (fun _ => 0)))] := hD
  refine W.widen (k := 1) (n := 134) (by omega) (by omega) ?_
  refine va_putF (D := (dC, dI)) (ci := 9) (v := .ref q1) (ty := .array .int) (C := RX9) (T := TX9) (N := 4) hx hb ht uX9 tyX9 tkX9 nmX9 hown hK hP hD hS 0 rfl rfl 0 (by decide) (ht _ k_1_106) (fun _ h9 => h9) rfl hin rfl (by decide +kernel) rfl rfl (Nat.le_of_ble_eq_true rfl) dX9_init_8 (fun H locs hP hD hS => ?_)
  have hP : va_P (dC, dI) cls [(q, .inr (9, [.ref q1, .null, .null, .int 0])), (q1, .inl (c2, 134, .inl (fun _ => 0)))] H := hP
  have hD : va_D A [(q, .inr (9, [.ref q1, .null, .null, .int 0])), (q1, .inl (c2, 134, .inl (fun _ => 0)))] := hD
  have hP := hP.sub (ws' := [(q, .inr (9, [.ref q1, .null, .null, .int 0]))]) [0] rfl
  have hD := hD.sub (ws' := [(q, .inr (9, [.ref q1, .null, .null, .int 0]))]) [0] (by decide) rfl
  refine lv_aload_n hx hb dX9_init_11 rfl (lv_at hl 0 rfl) ?_
  refine lv_iload_n hx hb dX9_init_12 rfl (lv_at hl 1 rfl) ?_
  refine va_newa (atype := .int) (ty := .int) (N' := 134) (a0 := (134, .inl (fun _ => 0))) hx hb (ht _ k_1_139) rfl hK hP hD hS hA (fun _ => rfl) (by decide) (by decide) (Nat.le_of_ble_eq_true rfl) (Nat.le_of_ble_eq_true rfl) (Nat.le_of_ble_eq_true rfl) dX9_init_13 (fun q3 c4 H hK hP hD hS => ?_)
  have hK : va_K (dC, dI) cls [(c2, .int), (c4, .int)] s := hK
  have hP : va_P (dC, dI) cls [(q, .inr (9, [.ref q1, .null, .null, .int 0])), (q3, .inl (c4, 134, .inl (fun _ => 0)))] H := hP
  have hD : va_D A [(q, .inr (9, [.ref q1, .null, .null, .int 0])), (q3, .inl (c4, 134, .inl (fun _ => 0)))] := hD
  refine W.widen (k := 2) (n := 268) (by omega) (by omega) ?_
  refine va_putF (D := (dC, dI)) (ci := 9) (v := .ref q3) (ty := .array .int) (C := RX9) (T := TX9) (N := 4) hx hb ht uX9 tyX9 tkX9 nmX9 hown hK hP hD hS 0 rfl rfl 1 (by decide) (ht _ k_1_111) (fun _ h9 => h9) rfl hin rfl (by decide +kernel) rfl rfl (Nat.le_of_ble_eq_true rfl) dX9_init_15 (fun H locs hP hD hS => ?_)
  have hP : va_P (dC, dI) cls [(q, .inr (9, [.ref q1, .ref q3, .null, .int 0])), (q3, .inl (c4, 134, .inl (fun _ => 0)))] H := hP
  have hD : va_D A [(q, .inr (9, [.ref q1, .ref q3, .null, .int 0])), (q3, .inl (c4, 134, .inl (fun _ => 0)))] := hD
  have hP := hP.sub (ws' := [(q, .inr (9, [.ref q1, .ref q3, .null, .int 0]))]) [0] rfl
  have hD := hD.sub (ws' := [(q, .inr (9, [.ref q1, .ref q3, .null, .int 0]))]) [0] (by decide) rfl
  refine lv_aload_n hx hb dX9_init_18 rfl (lv_at hl 0 rfl) ?_
  refine lv_iload_n hx hb dX9_init_19 rfl (lv_at hl 1 rfl) ?_
  refine va_newa (atype := .int) (ty := .int) (N' := 134) (a0 := (134, .inl (fun _ => 0))) hx hb (ht _ k_1_139) rfl hK hP hD hS hA (fun _ => rfl) (by decide) (by decide) (Nat.le_of_ble_eq_true rfl) (Nat.le_of_ble_eq_true rfl) (Nat.le_of_ble_eq_true rfl) dX9_init_20 (fun q5 c6 H hK hP hD hS => ?_)
  have hK : va_K (dC, dI) cls [(c2, .int), (c4, .int), (c6, .int)] s := hK
  have hP : va_P (dC, dI) cls [(q, .inr (9, [.ref q1, .ref q3, .null, .int 0])), (q5, .inl (c6, 134, .inl (fun _ => 0)))] H := hP
  have hD : va_D A [(q, .inr (9, [.ref q1, .ref q3, .null, .int 0])), (q5, .inl (c6, 134, .inl (fun _ => 0)))] := hD
  refine W.widen (k := 3) (n := 402) (by omega) (by omega) ?_
  refine va_putF (D := (dC, dI)) (ci := 9) (v := .ref q5) (ty := .array .int) (C := RX9) (T := TX9) (N := 4) hx hb ht uX9 tyX9 tkX9 nmX9 hown hK hP hD hS 0 rfl rfl 2 (by decide) (ht _ k_1_116) (fun _ h9 => h9) rfl hin rfl (by decide +kernel) rfl rfl (Nat.le_of_ble_eq_true rfl) dX9_init_22 (fun H locs hP hD hS => ?_)
  have hP : va_P (dC, dI) cls [(q, .inr (9, [.ref q1, .ref q3, .ref q5, .int 0])), (q5, .inl (c6, 134, .inl (fun _ => 0)))] H := hP
  have hD : va_D A [(q, .inr (9, [.ref q1, .ref q3, .ref q5, .int 0])), (q5, .inl (c6, 134, .inl (fun _ => 0)))] := hD
  have hP := hP.sub (ws' := [(q, .inr (9, [.ref q1, .ref q3, .ref q5, .int 0]))]) [0] rfl
  have hD := hD.sub (ws' := [(q, .inr (9, [.ref q1, .ref q3, .ref q5, .int 0]))]) [0] (by decide) rfl
  exact W.vret hx hb hr (fun t ht9 hW => ⟨⟨([.ref q1, .ref q3, .ref q5, .int 0]), rfl, ⟨trivial, rfl, rfl⟩, by rw [ht9]; exact hP.sub [0] rfl, va_K.moved hW.alike (hK.sub [] rfl), hD.sub [0] (by decide) rfl⟩, hS.F ht9⟩) hS.2.2 dX9_init_25
set_option maxHeartbeats 4000000 in
set_option maxRecDepth 100000 in
theorem k9_30 (l : Launch) (dC : Nat → ClassId) (dI : Nat → Nat → Nat) (sz : Nat) (q : Nat)  : Met l yX9_init (Cond.code yX9_init cX9_init 2 none :: tb) ({ frames := 1, cells := 3, slots := 90, locals := 12 }) (pcw [.ref q, .int 30] (dC, dI) [(q, .inr (9, [.null, .null, .null, .int 0]))] [] sz) (va_Qv (fun (fs1 : List Value) => (True) ∧ (fs1.length = 4) ∧ (fs1[3]? = some (.int 0))) (bw (dC, dI) (va_A [(q, .inr (9, [.null, .null, .null, .int 0]))] sz) (fun (fs1 : List Value) => [(q, .inr (9, fs1))]) (fun (fs1 : List Value) => [])) (va_A [(q, .inr (9, [.null, .null, .null, .int 0]))] sz)) 3 90 (va_A [(q, .inr (9, [.null, .null, .null, .int 0]))] sz) := by
  refine Met.ofW (cc := cX9_init) (maxL := 2) (ret := none) (by decide) rfl ?_
  intro p e s m args below meth c s₁ B hml hv
  obtain ⟨rfl, hsz, hP, hK, hD0⟩ := hv
  have hx := B.exec
  have hb := B.bytes
  have hr := B.returns
  have hts := atoms_spec (ws := Cond.code yX9_init cX9_init 2 none :: tb) B.pre
  have ht : ∀ w ∈ tb, w.before _ s = true := fun w h => hts w (List.mem_cons_of_mem _ h)
  have hown : s.vm.findClass RX9 = some m.cls := findClass_of_methodNamed B.named
  have hlocks := B.notSynchronized
  have hin : meth.name = "<init>" := (name_of_methodNamed B.named B.method).1
  subst hsz
  have hD := hD0.self (sz := s.heap.size)
  generalize hAe : va_A [(q, .inr (9, [.null, .null, .null, .int 0]))] s.heap.size = A at hD ⊢
  have hA : ∀ q : Nat, s.heap.size ≤ q → A q := fun q h => by rw [← hAe]; exact Or.inr h
  have hS : va_S A s.heap s.heap [] := va_S.rf
  have hl := lv_entry ([.ref q, .int 30]) (n := 2) (Nat.le_of_ble_eq_true rfl)
  rw [lg_entry_eq]
  generalize (lg_sl ([.ref q, .int 30]) ++ List.replicate (2 - (lg_sl ([.ref q, .int 30])).length) Slot.unset).toArray = ls at hl ⊢
  have hl : lv_has ls 2 [(0, .ref q), (1, .int 30)] := hl
  have hP : va_P (dC, dI) cls [(q, .inr (9, [.null, .null, .null, .int 0]))] s.heap := hP
  refine lv_aload_n hx hb dX9_init_0 rfl (lv_at hl 0 rfl) ?_
  refine tk_o hx hb hown ht k_1_105 k_1_36 k_1_37 hml hl.1 dX9_init_1 (Nat.le_of_ble_eq_true rfl) (Nat.le_of_ble_eq_true rfl) ?_
  refine lv_aload_n hx hb dX9_init_4 rfl (lv_at hl 0 rfl) ?_
  refine lv_iload_n hx hb dX9_init_5 rfl (lv_at hl 1 rfl) ?_
  refine va_newa (atype := .int) (ty := .int) (N' := 30) (a0 := (30, .inl (fun _ => 0))) hx hb (ht _ k_1_139) rfl hK hP hD hS hA (fun _ => rfl) (by decide) (by decide) (Nat.le_of_ble_eq_true rfl) (Nat.le_of_ble_eq_true rfl) (Nat.le_of_ble_eq_true rfl) dX9_init_6 (fun q1 c2 H hK hP hD hS => ?_)
  have hK : va_K (dC, dI) cls [(c2, .int)] s := hK
  have hP : va_P (dC, dI) cls [(q, .inr (9, [.null, .null, .null, .int 0])), (q1, .inl (c2, 30, .inl (fun _ => 0)))] H := hP
  have hD : va_D A [(q, .inr (9, [.null, .null, .null, .int 0])), (q1, .inl (c2, 30, .inl (fun _ => 0)))] := hD
  refine W.widen (k := 1) (n := 30) (by omega) (by omega) ?_
  refine va_putF (D := (dC, dI)) (ci := 9) (v := .ref q1) (ty := .array .int) (C := RX9) (T := TX9) (N := 4) hx hb ht uX9 tyX9 tkX9 nmX9 hown hK hP hD hS 0 rfl rfl 0 (by decide) (ht _ k_1_106) (fun _ h9 => h9) rfl hin rfl (by decide +kernel) rfl rfl (Nat.le_of_ble_eq_true rfl) dX9_init_8 (fun H locs hP hD hS => ?_)
  have hP : va_P (dC, dI) cls [(q, .inr (9, [.ref q1, .null, .null, .int 0])), (q1, .inl (c2, 30, .inl (fun _ => 0)))] H := hP
  have hD : va_D A [(q, .inr (9, [.ref q1, .null, .null, .int 0])), (q1, .inl (c2, 30, .inl (fun _ => 0)))] := hD
  have hP := hP.sub (ws' := [(q, .inr (9, [.ref q1, .null, .null, .int 0]))]) [0] rfl
  have hD := hD.sub (ws' := [(q, .inr (9, [.ref q1, .null, .null, .int 0]))]) [0] (by decide) rfl
  refine lv_aload_n hx hb dX9_init_11 rfl (lv_at hl 0 rfl) ?_
  refine lv_iload_n hx hb dX9_init_12 rfl (lv_at hl 1 rfl) ?_
  refine va_newa (atype := .int) (ty := .int) (N' := 30) (a0 := (30, .inl (fun _ => 0))) hx hb (ht _ k_1_139) rfl hK hP hD hS hA (fun _ => rfl) (by decide) (by decide) (Nat.le_of_ble_eq_true rfl) (Nat.le_of_ble_eq_true rfl) (Nat.le_of_ble_eq_true rfl) dX9_init_13 (fun q3 c4 H hK hP hD hS => ?_)
  have hK : va_K (dC, dI) cls [(c2, .int), (c4, .int)] s := hK
  have hP : va_P (dC, dI) cls [(q, .inr (9, [.ref q1, .null, .null, .int 0])), (q3, .inl (c4, 30, .inl (fun _ => 0)))] H := hP
  have hD : va_D A [(q, .inr (9, [.ref q1, .null, .null, .int 0])), (q3, .inl (c4, 30, .inl (fun _ => 0)))] := hD
  refine W.widen (k := 2) (n := 60) (by omega) (by omega) ?_
  refine va_putF (D := (dC, dI)) (ci := 9) (v := .ref q3) (ty := .array .int) (C := RX9) (T := TX9) (N := 4) hx hb ht uX9 tyX9 tkX9 nmX9 hown hK hP hD hS 0 rfl rfl 1 (by decide) (ht _ k_1_111) (fun _ h9 => h9) rfl hin rfl (by decide +kernel) rfl rfl (Nat.le_of_ble_eq_true rfl) dX9_init_15 (fun H locs hP hD hS => ?_)
  have hP : va_P (dC, dI) cls [(q, .inr (9, [.ref q1, .ref q3, .null, .int 0])), (q3, .inl (c4, 30, .inl (fun _ => 0)))] H := hP
  have hD : va_D A [(q, .inr (9, [.ref q1, .ref q3, .null, .int 0])), (q3, .inl (c4, 30, .inl (fun _ => 0)))] := hD
  have hP := hP.sub (ws' := [(q, .inr (9, [.ref q1, .ref q3, .null, .int 0]))]) [0] rfl
  have hD := hD.sub (ws' := [(q, .inr (9, [.ref q1, .ref q3, .null, .int 0]))]) [0] (by decide) rfl
  refine lv_aload_n hx hb dX9_init_18 rfl (lv_at hl 0 rfl) ?_
  refine lv_iload_n hx hb dX9_init_19 rfl (lv_at hl 1 rfl) ?_
  refine va_newa (atype := .int) (ty := .int) (N' := 30) (a0 := (30, .inl (fun _ => 0))) hx hb (ht _ k_1_139) rfl hK hP hD hS hA (fun _ => rfl) (by decide) (by decide) (Nat.le_of_ble_eq_true rfl) (Nat.le_of_ble_eq_true rfl) (Nat.le_of_ble_eq_true rfl) dX9_init_20 (fun q5 c6 H hK hP hD hS => ?_)
  have hK : va_K (dC, dI) cls [(c2, .int), (c4, .int), (c6, .int)] s := hK
  have hP : va_P (dC, dI) cls [(q, .inr (9, [.ref q1, .ref q3, .null, .int 0])), (q5, .inl (c6, 30, .inl (fun _ => 0)))] H := hP
  have hD : va_D A [(q, .inr (9, [.ref q1, .ref q3, .null, .int 0])), (q5, .inl (c6, 30, .inl (fun _ => 0)))] := hD
  refine W.widen (k := 3) (n := 90) (by omega) (by omega) ?_
  refine va_putF (D := (dC, dI)) (ci := 9) (v := .ref q5) (ty := .array .int) (C := RX9) (T := TX9) (N := 4) hx hb ht uX9 tyX9 tkX9 nmX9 hown hK hP hD hS 0 rfl rfl 2 (by decide) (ht _ k_1_116) (fun _ h9 => h9) rfl hin rfl (by decide +kernel) rfl rfl (Nat.le_of_ble_eq_true rfl) dX9_init_22 (fun H locs hP hD hS => ?_)
  have hP : va_P (dC, dI) cls [(q, .inr (9, [.ref q1, .ref q3, .ref q5, .int 0])), (q5, .inl (c6, 30, .inl (fun _ => 0)))] H := hP
  have hD : va_D A [(q, .inr (9, [.ref q1, .ref q3, .ref q5, .int 0])), (q5, .inl (c6, 30, .inl (fun _ => 0)))] := hD
  have hP := hP.sub (ws' := [(q, .inr (9, [.ref q1, .ref q3, .ref q5, .int 0]))]) [0] rfl
  have hD := hD.sub (ws' := [(q, .inr (9, [.ref q1, .ref q3, .ref q5, .int 0]))]) [0] (by decide) rfl
  exact W.vret hx hb hr (fun t ht9 hW => ⟨⟨([.ref q1, .ref q3, .ref q5, .int 0]), rfl, ⟨trivial, rfl, rfl⟩, by rw [ht9]; exact hP.sub [0] rfl, va_K.moved hW.alike (hK.sub [] rfl), hD.sub [0] (by decide) rfl⟩, hS.F ht9⟩) hS.2.2 dX9_init_25
set_option maxHeartbeats 4000000 in
set_option maxRecDepth 100000 in
theorem k2 (l : Launch) (dC : Nat → ClassId) (dI : Nat → Nat → Nat) (sz : Nat) (q : Nat)  : Met l yX2_init (Cond.code yX2_init cX2_init 1 none :: tb) ({ frames := 1, cells := 2, slots := 49800, locals := 12 }) (pcw [.ref q] (dC, dI) [(q, .inr (2, [.null, .int 0, .null, .int 0, .int 0, .int 0, .int 0]))] [] sz) (va_Qv (fun (u : (List Value) × Nat × ClassId × Nat × ClassId × (Nat → Int32)) => match u with | (fs1, bk, cB, wt, cW, fw1) => (True) ∧ (fs1.length = 7) ∧ (fs1[0]? = some (.ref bk)) ∧ (fs1[1]? = some (.int 0)) ∧ (fs1[2]? = some (.ref wt)) ∧ (fs1[3]? = some (.int 0)) ∧ (fs1[4]? = some (.int 0)) ∧ (fs1[5]? = some (.int (-1)))) (bw (dC, dI) (va_A [(q, .inr (2, [.null, .int 0, .null, .int 0, .int 0, .int 0, .int 0]))] sz) (fun (u : (List Value) × Nat × ClassId × Nat × ClassId × (Nat → Int32)) => match u with | (fs1, bk, cB, wt, cW, fw1) => [(q, .inr (2, fs1)), (bk, .inl (cB, 25600, .inl (fun _ => 0))), (wt, .inl (cW, 24200, .inl fw1))]) (fun (u : (List Value) × Nat × ClassId × Nat × ClassId × (Nat → Int32)) => match u with | (fs1, bk, cB, wt, cW, fw1) => [(cB, .byte), (cW, .byte)])) (va_A [(q, .inr (2, [.null, .int 0, .null, .int 0, .int 0, .int 0, .int 0]))] sz)) 2 49800 (va_A [(q, .inr (2, [.null, .int 0, .null, .int 0, .int 0, .int 0, .int 0]))] sz) := by
  refine Met.ofW (cc := cX2_init) (maxL := 1) (ret := none) (by decide) rfl ?_
  intro p e s m args below meth c s₁ B hml hv
  obtain ⟨rfl, hsz, hP, hK, hD0⟩ := hv
  have hx := B.exec
  have hb := B.bytes
  have hr := B.returns
  have hts := atoms_spec (ws := Cond.code yX2_init cX2_init 1 none :: tb) B.pre
  have ht : ∀ w ∈ tb, w.before _ s = true := fun w h => hts w (List.mem_cons_of_mem _ h)
  have hown : s.vm.findClass RX2 = some m.cls := findClass_of_methodNamed B.named
  have hlocks := B.notSynchronized
  have hin : meth.name = "<init>" := (name_of_methodNamed B.named B.method).1
  subst hsz
  have hD := hD0.self (sz := s.heap.size)
  generalize hAe : va_A [(q, .inr (2, [.null, .int 0, .null, .int 0, .int 0, .int 0, .int 0]))] s.heap.size = A at hD ⊢
  have hA : ∀ q : Nat, s.heap.size ≤ q → A q := fun q h => by rw [← hAe]; exact Or.inr h
  have hS : va_S A s.heap s.heap [] := va_S.rf
  have hl := lv_entry ([.ref q]) (n := 1) (Nat.le_of_ble_eq_true rfl)
  rw [lg_entry_eq]
  generalize (lg_sl ([.ref q]) ++ List.replicate (1 - (lg_sl ([.ref q])).length) Slot.unset).toArray = ls at hl ⊢
  have hl : lv_has ls 1 [(0, .ref q)] := hl
  have hP : va_P (dC, dI) cls [(q, .inr (2, [.null, .int 0, .null, .int 0, .int 0, .int 0, .int 0]))] s.heap := hP
  refine lv_aload_n hx hb dX2_init_0 rfl (lv_at hl 0 rfl) ?_
  refine tk_o hx hb hown ht k_4_61 k_1_36 k_1_37 hml hl.1 dX2_init_1 (Nat.le_of_ble_eq_true rfl) (Nat.le_of_ble_eq_true rfl) ?_
  refine lv_aload_n hx hb dX2_init_4 rfl (lv_at hl 0 rfl) ?_
  refine lv_sipush (v := 25600) hx hb dX2_init_5 (by decide) ?_
  refine va_newa (atype := .byte) (ty := .byte) (N' := 25600) (a0 := (25600, .inl (fun _ => 0))) hx hb (ht _ k_1_137) rfl hK hP hD hS hA (fun _ => rfl) (by decide) (by decide) (Nat.le_of_ble_eq_true rfl) (Nat.le_of_ble_eq_true rfl) (Nat.le_of_ble_eq_true rfl) dX2_init_8 (fun q1 c2 H hK hP hD hS => ?_)
  have hK : va_K (dC, dI) cls [(c2, .byte)] s := hK
  have hP : va_P (dC, dI) cls [(q, .inr (2, [.null, .int 0, .null, .int 0, .int 0, .int 0, .int 0])), (q1, .inl (c2, 25600, .inl (fun _ => 0)))] H := hP
  have hD : va_D A [(q, .inr (2, [.null, .int 0, .null, .int 0, .int 0, .int 0, .int 0])), (q1, .inl (c2, 25600, .inl (fun _ => 0)))] := hD
  refine W.widen (k := 1) (n := 25600) (by omega) (by omega) ?_
  refine va_putF (D := (dC, dI)) (ci := 2) (v := .ref q1) (ty := .array .byte) (C := RX2) (T := TX2) (N := 7) hx hb ht uX2 tyX2 tkX2 nmX2 hown hK hP hD hS 0 rfl rfl 0 (by decide) (ht _ k_4_62) (fun _ h9 => h9) rfl hin rfl (by decide +kernel) rfl rfl (Nat.le_of_ble_eq_true rfl) dX2_init_10 (fun H locs hP hD hS => ?_)
  have hP : va_P (dC, dI) cls [(q, .inr (2, [.ref q1, .int 0, .null, .int 0, .int 0, .int 0, .int 0])), (q1, .inl (c2, 25600, .inl (fun _ => 0)))] H := hP
  have hD : va_D A [(q, .inr (2, [.ref q1, .int 0, .null, .int 0, .int 0, .int 0, .int 0])), (q1, .inl (c2, 25600, .inl (fun _ => 0)))] := hD
  refine lv_aload_n hx hb dX2_init_13 rfl (lv_at hl 0 rfl) ?_
  refine lv_sipush (v := 24200) hx hb dX2_init_14 (by decide) ?_
  refine va_newa (atype := .byte) (ty := .byte) (N' := 24200) (a0 := (24200, .inl (fun _ => 0))) hx hb (ht _ k_1_137) rfl hK hP hD hS hA (fun _ => rfl) (by decide) (by decide) (Nat.le_of_ble_eq_true rfl) (Nat.le_of_ble_eq_true rfl) (Nat.le_of_ble_eq_true rfl) dX2_init_17 (fun q3 c4 H hK hP hD hS => ?_)
  have hK : va_K (dC, dI) cls [(c2, .byte), (c4, .byte)] s := hK
  have hP : va_P (dC, dI) cls [(q, .inr (2, [.ref q1, .int 0, .null, .int 0, .int 0, .int 0, .int 0])), (q1, .inl (c2, 25600, .inl (fun _ => 0))), (q3, .inl (c4, 24200, .inl (fun _ => 0)))] H := hP
  have hD : va_D A [(q, .inr (2, [.ref q1, .int 0, .null, .int 0, .int 0, .int 0, .int 0])), (q1, .inl (c2, 25600, .inl (fun _ => 0))), (q3, .inl (c4, 24200, .inl (fun _ => 0)))] := hD
  refine W.widen (k := 2) (n := 49800) (by omega) (by omega) ?_
  refine va_putF (D := (dC, dI)) (ci := 2) (v := .ref q3) (ty := .array .byte) (C := RX2) (T := TX2) (N := 7) hx hb ht uX2 tyX2 tkX2 nmX2 hown hK hP hD hS 0 rfl rfl 2 (by decide) (ht _ k_4_66) (fun _ h9 => h9) rfl hin rfl (by decide +kernel) rfl rfl (Nat.le_of_ble_eq_true rfl) dX2_init_19 (fun H locs hP hD hS => ?_)
  have hP : va_P (dC, dI) cls [(q, .inr (2, [.ref q1, .int 0, .ref q3, .int 0, .int 0, .int 0, .int 0])), (q1, .inl (c2, 25600, .inl (fun _ => 0))), (q3, .inl (c4, 24200, .inl (fun _ => 0)))] H := hP
  have hD : va_D A [(q, .inr (2, [.ref q1, .int 0, .ref q3, .int 0, .int 0, .int 0, .int 0])), (q1, .inl (c2, 25600, .inl (fun _ => 0))), (q3, .inl (c4, 24200, .inl (fun _ => 0)))] := hD
  refine lv_aload_n hx hb dX2_init_22 rfl (lv_at hl 0 rfl) ?_
  refine lv_iconst (v := (-1)) hx hb dX2_init_23 (by decide) ?_
  refine va_put (D := (dC, dI)) (ci := 2) (v := .int (-1)) (ty := .int) (C := RX2) (T := TX2) (N := 7) hx hb ht uX2 tyX2 tkX2 nmX2 hown hK hP hD hS 0 rfl rfl 5 (by decide) (ht _ k_4_72) (fun _ h9 => h9) rfl (by decide +kernel) rfl rfl (Nat.le_of_ble_eq_true rfl) dX2_init_24 (fun H locs hP hD hS => ?_)
  have hP : va_P (dC, dI) cls [(q, .inr (2, [.ref q1, .int 0, .ref q3, .int 0, .int 0, .int (-1), .int 0])), (q1, .inl (c2, 25600, .inl (fun _ => 0))), (q3, .inl (c4, 24200, .inl (fun _ => 0)))] H := hP
  have hD : va_D A [(q, .inr (2, [.ref q1, .int 0, .ref q3, .int 0, .int 0, .int (-1), .int 0])), (q1, .inl (c2, 25600, .inl (fun _ => 0))), (q3, .inl (c4, 24200, .inl (fun _ => 0)))] := hD
  exact W.vret hx hb hr (fun t ht9 hW => ⟨⟨([.ref q1, .int 0, .ref q3, .int 0, .int 0, .int (-1), .int 0], q1, c2, q3, c4, (fun _ => 0)), rfl, ⟨trivial, rfl, rfl, rfl, rfl, rfl, rfl, rfl⟩, by rw [ht9]; exact hP.sub [0, 1, 2] rfl, va_K.moved hW.alike (hK.sub [0, 1] rfl), hD.sub [0, 1, 2] (by decide) rfl⟩, hS.F ht9⟩) hS.2.2 dX2_init_27
set_option maxHeartbeats 4000000 in
set_option maxRecDepth 100000 in
theorem k5 (l : Launch) (dC : Nat → ClassId) (dI : Nat → Nat → Nat) (sz : Nat) (q : Nat)  : Met l yX5_init (Cond.code yX5_init cX5_init 1 none :: tb) ({ frames := 1, cells := 10, slots := 537, locals := 12 }) (pcw [.ref q] (dC, dI) [(q, .inr (5, [.int 0, .null, .null, .null, .int 0, .null, .int 0, .null, .null, .null, .null, .int 0, .null, .null, .long 0]))] [] sz) (va_Qv (fun (u : (List Value) × Nat × ClassId × (Nat → Int32) × Nat × ClassId × (Nat → Int32) × Nat × ClassId × (Nat → Int32) × Nat × ClassId × (Nat → Int32) × Nat × ClassId × (Nat → Int32) × Nat × ClassId × (Nat → Int32) × Nat × ClassId × (Nat → Int64) × Nat × ClassId × (Nat → Int64)) => match u with | (fs1, lt, cL, fl, sz0, cS, f2, gs, cG, fg, ld, cD, fd, tr, cR, fr, rw, cE, fe, pa, cP, fp, pb, cQ, fq) => (True) ∧ (fs1.length = 15) ∧ (fs1[0]? = some (.int 0)) ∧ (fs1[1]? = some (.ref lt)) ∧ (fs1[2]? = some (.ref sz0)) ∧ (fs1[3]? = some (.ref gs)) ∧ (fs1[4]? = some (.int 0)) ∧ (fs1[5]? = some (.ref ld)) ∧ (fs1[9]? = some (.ref tr)) ∧ (fs1[10]? = some (.ref rw)) ∧ (fs1[11]? = some (.int 0)) ∧ (fs1[12]? = some (.ref pa)) ∧ (fs1[13]? = some (.ref pb))) (bw (dC, dI) (va_A [(q, .inr (5, [.int 0, .null, .null, .null, .int 0, .null, .int 0, .null, .null, .null, .null, .int 0, .null, .null, .long 0]))] sz) (fun (u : (List Value) × Nat × ClassId × (Nat → Int32) × Nat × ClassId × (Nat → Int32) × Nat × ClassId × (Nat → Int32) × Nat × ClassId × (Nat → Int32) × Nat × ClassId × (Nat → Int32) × Nat × ClassId × (Nat → Int32) × Nat × ClassId × (Nat → Int64) × Nat × ClassId × (Nat → Int64)) => match u with | (fs1, lt, cL, fl, sz0, cS, f2, gs, cG, fg, ld, cD, fd, tr, cR, fr, rw, cE, fe, pa, cP, fp, pb, cQ, fq) => [(q, .inr (5, fs1)), (lt, .inl (cL, 20, .inl fl)), (sz0, .inl (cS, 20, .inl f2)), (gs, .inl (cG, 20, .inl fg)), (ld, .inl (cD, 10, .inl fd)), (tr, .inl (cR, 10, .inl fr)), (rw, .inl (cE, 5, .inl fe)), (pa, .inl (cP, 6, .inr (.inl fp))), (pb, .inl (cQ, 6, .inr (.inl fq)))]) (fun (u : (List Value) × Nat × ClassId × (Nat → Int32) × Nat × ClassId × (Nat → Int32) × Nat × ClassId × (Nat → Int32) × Nat × ClassId × (Nat → Int32) × Nat × ClassId × (Nat → Int32) × Nat × ClassId × (Nat → Int32) × Nat × ClassId × (Nat → Int64) × Nat × ClassId × (Nat → Int64)) => match u with | (fs1, lt, cL, fl, sz0, cS, f2, gs, cG, fg, ld, cD, fd, tr, cR, fr, rw, cE, fe, pa, cP, fp, pb, cQ, fq) => [(cL, .int), (cS, .int), (cG, .int), (cD, .int), (cR, .int), (cE, .int), (cP, .long), (cQ, .long)])) (va_A [(q, .inr (5, [.int 0, .null, .null, .null, .int 0, .null, .int 0, .null, .null, .null, .null, .int 0, .null, .null, .long 0]))] sz)) 10 537 (va_A [(q, .inr (5, [.int 0, .null, .null, .null, .int 0, .null, .int 0, .null, .null, .null, .null, .int 0, .null, .null, .long 0]))] sz) := by
  refine Met.ofW (cc := cX5_init) (maxL := 1) (ret := none) (by decide) rfl ?_
  intro p e s m args below meth c s₁ B hml hv
  obtain ⟨rfl, hsz, hP, hK, hD0⟩ := hv
  have hx := B.exec
  have hb := B.bytes
  have hr := B.returns
  have hts := atoms_spec (ws := Cond.code yX5_init cX5_init 1 none :: tb) B.pre
  have ht : ∀ w ∈ tb, w.before _ s = true := fun w h => hts w (List.mem_cons_of_mem _ h)
  have hown : s.vm.findClass RX5 = some m.cls := findClass_of_methodNamed B.named
  have hlocks := B.notSynchronized
  have hin : meth.name = "<init>" := (name_of_methodNamed B.named B.method).1
  subst hsz
  have hD := hD0.self (sz := s.heap.size)
  generalize hAe : va_A [(q, .inr (5, [.int 0, .null, .null, .null, .int 0, .null, .int 0, .null, .null, .null, .null, .int 0, .null, .null, .long 0]))] s.heap.size = A at hD ⊢
  have hA : ∀ q : Nat, s.heap.size ≤ q → A q := fun q h => by rw [← hAe]; exact Or.inr h
  have hS : va_S A s.heap s.heap [] := va_S.rf
  have hl := lv_entry ([.ref q]) (n := 1) (Nat.le_of_ble_eq_true rfl)
  rw [lg_entry_eq]
  generalize (lg_sl ([.ref q]) ++ List.replicate (1 - (lg_sl ([.ref q])).length) Slot.unset).toArray = ls at hl ⊢
  have hl : lv_has ls 1 [(0, .ref q)] := hl
  have hP : va_P (dC, dI) cls [(q, .inr (5, [.int 0, .null, .null, .null, .int 0, .null, .int 0, .null, .null, .null, .null, .int 0, .null, .null, .long 0]))] s.heap := hP
  refine lv_aload_n hx hb dX5_init_0 rfl (lv_at hl 0 rfl) ?_
  refine tk_o hx hb hown ht k_4_6 k_1_36 k_1_37 hml hl.1 dX5_init_1 (Nat.le_of_ble_eq_true rfl) (Nat.le_of_ble_eq_true rfl) ?_
  refine lv_aload_n hx hb dX5_init_4 rfl (lv_at hl 0 rfl) ?_
  refine lv_bipush (v := 20) hx hb dX5_init_5 (by decide) ?_
  refine va_newa (atype := .int) (ty := .int) (N' := 20) (a0 := (20, .inl (fun _ => 0))) hx hb (ht _ k_1_139) rfl hK hP hD hS hA (fun _ => rfl) (by decide) (by decide) (Nat.le_of_ble_eq_true rfl) (Nat.le_of_ble_eq_true rfl) (Nat.le_of_ble_eq_true rfl) dX5_init_7 (fun q1 c2 H hK hP hD hS => ?_)
  have hK : va_K (dC, dI) cls [(c2, .int)] s := hK
  have hP : va_P (dC, dI) cls [(q, .inr (5, [.int 0, .null, .null, .null, .int 0, .null, .int 0, .null, .null, .null, .null, .int 0, .null, .null, .long 0])), (q1, .inl (c2, 20, .inl (fun _ => 0)))] H := hP
  have hD : va_D A [(q, .inr (5, [.int 0, .null, .null, .null, .int 0, .null, .int 0, .null, .null, .null, .null, .int 0, .null, .null, .long 0])), (q1, .inl (c2, 20, .inl (fun _ => 0)))] := hD
  refine W.widen (k := 1) (n := 20) (by omega) (by omega) ?_
  refine va_putF (D := (dC, dI)) (ci := 5) (v := .ref q1) (ty := .array .int) (C := RX5) (T := TX5) (N := 15) hx hb ht uX5 tyX5 tkX5 nmX5 hown hK hP hD hS 0 rfl rfl 1 (by decide) (ht _ k_4_9) (fun _ h9 => h9) rfl hin rfl (by decide +kernel) rfl rfl (Nat.le_of_ble_eq_true rfl) dX5_init_9 (fun H locs hP hD hS => ?_)
  have hP : va_P (dC, dI) cls [(q, .inr (5, [.int 0, .ref q1, .null, .null, .int 0, .null, .int 0, .null, .null, .null, .null, .int 0, .null, .null, .long 0])), (q1, .inl (c2, 20, .inl (fun _ => 0)))] H := hP
  have hD : va_D A [(q, .inr (5, [.int 0, .ref q1, .null, .null, .int 0, .null, .int 0, .null, .null, .null, .null, .int 0, .null, .null, .long 0])), (q1, .inl (c2, 20, .inl (fun _ => 0)))] := hD
  refine lv_aload_n hx hb dX5_init_12 rfl (lv_at hl 0 rfl) ?_
  refine lv_bipush (v := 20) hx hb dX5_init_13 (by decide) ?_
  refine va_newa (atype := .int) (ty := .int) (N' := 20) (a0 := (20, .inl (fun _ => 0))) hx hb (ht _ k_1_139) rfl hK hP hD hS hA (fun _ => rfl) (by decide) (by decide) (Nat.le_of_ble_eq_true rfl) (Nat.le_of_ble_eq_true rfl) (Nat.le_of_ble_eq_true rfl) dX5_init_15 (fun q3 c4 H hK hP hD hS => ?_)
  have hK : va_K (dC, dI) cls [(c2, .int), (c4, .int)] s := hK
  have hP : va_P (dC, dI) cls [(q, .inr (5, [.int 0, .ref q1, .null, .null, .int 0, .null, .int 0, .null, .null, .null, .null, .int 0, .null, .null, .long 0])), (q1, .inl (c2, 20, .inl (fun _ => 0))), (q3, .inl (c4, 20, .inl (fun _ => 0)))] H := hP
  have hD : va_D A [(q, .inr (5, [.int 0, .ref q1, .null, .null, .int 0, .null, .int 0, .null, .null, .null, .null, .int 0, .null, .null, .long 0])), (q1, .inl (c2, 20, .inl (fun _ => 0))), (q3, .inl (c4, 20, .inl (fun _ => 0)))] := hD
  refine W.widen (k := 2) (n := 40) (by omega) (by omega) ?_
  refine va_putF (D := (dC, dI)) (ci := 5) (v := .ref q3) (ty := .array .int) (C := RX5) (T := TX5) (N := 15) hx hb ht uX5 tyX5 tkX5 nmX5 hown hK hP hD hS 0 rfl rfl 2 (by decide) (ht _ k_4_10) (fun _ h9 => h9) rfl hin rfl (by decide +kernel) rfl rfl (Nat.le_of_ble_eq_true rfl) dX5_init_17 (fun H locs hP hD hS => ?_)
  have hP : va_P (dC, dI) cls [(q, .inr (5, [.int 0, .ref q1, .ref q3, .null, .int 0, .null, .int 0, .null, .null, .null, .null, .int 0, .null, .null, .long 0])), (q1, .inl (c2, 20, .inl (fun _ => 0))), (q3, .inl (c4, 20, .inl (fun _ => 0)))] H := hP
  have hD : va_D A [(q, .inr (5, [.int 0, .ref q1, .ref q3, .null, .int 0, .null, .int 0, .null, .null, .null, .null, .int 0, .null, .null, .long 0])), (q1, .inl (c2, 20, .inl (fun _ => 0))), (q3, .inl (c4, 20, .inl (fun _ => 0)))] := hD
  refine lv_aload_n hx hb dX5_init_20 rfl (lv_at hl 0 rfl) ?_
  refine lv_bipush (v := 20) hx hb dX5_init_21 (by decide) ?_
  refine va_newa (atype := .int) (ty := .int) (N' := 20) (a0 := (20, .inl (fun _ => 0))) hx hb (ht _ k_1_139) rfl hK hP hD hS hA (fun _ => rfl) (by decide) (by decide) (Nat.le_of_ble_eq_true rfl) (Nat.le_of_ble_eq_true rfl) (Nat.le_of_ble_eq_true rfl) dX5_init_23 (fun q5 c6 H hK hP hD hS => ?_)
  have hK : va_K (dC, dI) cls [(c2, .int), (c4, .int), (c6, .int)] s := hK
  have hP : va_P (dC, dI) cls [(q, .inr (5, [.int 0, .ref q1, .ref q3, .null, .int 0, .null, .int 0, .null, .null, .null, .null, .int 0, .null, .null, .long 0])), (q1, .inl (c2, 20, .inl (fun _ => 0))), (q3, .inl (c4, 20, .inl (fun _ => 0))), (q5, .inl (c6, 20, .inl (fun _ => 0)))] H := hP
  have hD : va_D A [(q, .inr (5, [.int 0, .ref q1, .ref q3, .null, .int 0, .null, .int 0, .null, .null, .null, .null, .int 0, .null, .null, .long 0])), (q1, .inl (c2, 20, .inl (fun _ => 0))), (q3, .inl (c4, 20, .inl (fun _ => 0))), (q5, .inl (c6, 20, .inl (fun _ => 0)))] := hD
  refine W.widen (k := 3) (n := 60) (by omega) (by omega) ?_
  refine va_putF (D := (dC, dI)) (ci := 5) (v := .ref q5) (ty := .array .int) (C := RX5) (T := TX5) (N := 15) hx hb ht uX5 tyX5 tkX5 nmX5 hown hK hP hD hS 0 rfl rfl 3 (by decide) (ht _ k_4_11) (fun _ h9 => h9) rfl hin rfl (by decide +kernel) rfl rfl (Nat.le_of_ble_eq_true rfl) dX5_init_25 (fun H locs hP hD hS => ?_)
  have hP : va_P (dC, dI) cls [(q, .inr (5, [.int 0, .ref q1, .ref q3, .ref q5, .int 0, .null, .int 0, .null, .null, .null, .null, .int 0, .null, .null, .long 0])), (q1, .inl (c2, 20, .inl (fun _ => 0))), (q3, .inl (c4, 20, .inl (fun _ => 0))), (q5, .inl (c6, 20, .inl (fun _ => 0)))] H := hP
  have hD : va_D A [(q, .inr (5, [.int 0, .ref q1, .ref q3, .ref q5, .int 0, .null, .int 0, .null, .null, .null, .null, .int 0, .null, .null, .long 0])), (q1, .inl (c2, 20, .inl (fun _ => 0))), (q3, .inl (c4, 20, .inl (fun _ => 0))), (q5, .inl (c6, 20, .inl (fun _ => 0)))] := hD
  refine lv_aload_n hx hb dX5_init_28 rfl (lv_at hl 0 rfl) ?_
  refine lv_bipush (v := 10) hx hb dX5_init_29 (by decide) ?_
  refine va_newa (atype := .int) (ty := .int) (N' := 10) (a0 := (10, .inl (fun _ => 0))) hx hb (ht _ k_1_139) rfl hK hP hD hS hA (fun _ => rfl) (by decide) (by decide) (Nat.le_of_ble_eq_true rfl) (Nat.le_of_ble_eq_true rfl) (Nat.le_of_ble_eq_true rfl) dX5_init_31 (fun q7 c8 H hK hP hD hS => ?_)
  have hK : va_K (dC, dI) cls [(c2, .int), (c4, .int), (c6, .int), (c8, .int)] s := hK
  have hP : va_P (dC, dI) cls [(q, .inr (5, [.int 0, .ref q1, .ref q3, .ref q5, .int 0, .null, .int 0, .null, .null, .null, .null, .int 0, .null, .null, .long 0])), (q1, .inl (c2, 20, .inl (fun _ => 0))), (q3, .inl (c4, 20, .inl (fun _ => 0))), (q5, .inl (c6, 20, .inl (fun _ => 0))), (q7, .inl (c8, 10, .inl (fun _ => 0)))] H := hP
  have hD : va_D A [(q, .inr (5, [.int 0, .ref q1, .ref q3, .ref q5, .int 0, .null, .int 0, .null, .null, .null, .null, .int 0, .null, .null, .long 0])), (q1, .inl (c2, 20, .inl (fun _ => 0))), (q3, .inl (c4, 20, .inl (fun _ => 0))), (q5, .inl (c6, 20, .inl (fun _ => 0))), (q7, .inl (c8, 10, .inl (fun _ => 0)))] := hD
  refine W.widen (k := 4) (n := 70) (by omega) (by omega) ?_
  refine va_putF (D := (dC, dI)) (ci := 5) (v := .ref q7) (ty := .array .int) (C := RX5) (T := TX5) (N := 15) hx hb ht uX5 tyX5 tkX5 nmX5 hown hK hP hD hS 0 rfl rfl 5 (by decide) (ht _ k_4_13) (fun _ h9 => h9) rfl hin rfl (by decide +kernel) rfl rfl (Nat.le_of_ble_eq_true rfl) dX5_init_33 (fun H locs hP hD hS => ?_)
  have hP : va_P (dC, dI) cls [(q, .inr (5, [.int 0, .ref q1, .ref q3, .ref q5, .int 0, .ref q7, .int 0, .null, .null, .null, .null, .int 0, .null, .null, .long 0])), (q1, .inl (c2, 20, .inl (fun _ => 0))), (q3, .inl (c4, 20, .inl (fun _ => 0))), (q5, .inl (c6, 20, .inl (fun _ => 0))), (q7, .inl (c8, 10, .inl (fun _ => 0)))] H := hP
  have hD : va_D A [(q, .inr (5, [.int 0, .ref q1, .ref q3, .ref q5, .int 0, .ref q7, .int 0, .null, .null, .null, .null, .int 0, .null, .null, .long 0])), (q1, .inl (c2, 20, .inl (fun _ => 0))), (q3, .inl (c4, 20, .inl (fun _ => 0))), (q5, .inl (c6, 20, .inl (fun _ => 0))), (q7, .inl (c8, 10, .inl (fun _ => 0)))] := hD
  refine lv_aload_n hx hb dX5_init_36 rfl (lv_at hl 0 rfl) ?_
  refine lv_sipush (v := 220) hx hb dX5_init_37 (by decide) ?_
  refine va_newa (atype := .int) (ty := .int) (N' := 220) (a0 := (220, .inl (fun _ => 0))) hx hb (ht _ k_1_139) rfl hK hP hD hS hA (fun _ => rfl) (by decide) (by decide) (Nat.le_of_ble_eq_true rfl) (Nat.le_of_ble_eq_true rfl) (Nat.le_of_ble_eq_true rfl) dX5_init_40 (fun q9 c10 H hK hP hD hS => ?_)
  have hK : va_K (dC, dI) cls [(c2, .int), (c4, .int), (c6, .int), (c8, .int), (c10, .int)] s := hK
  have hP : va_P (dC, dI) cls [(q, .inr (5, [.int 0, .ref q1, .ref q3, .ref q5, .int 0, .ref q7, .int 0, .null, .null, .null, .null, .int 0, .null, .null, .long 0])), (q1, .inl (c2, 20, .inl (fun _ => 0))), (q3, .inl (c4, 20, .inl (fun _ => 0))), (q5, .inl (c6, 20, .inl (fun _ => 0))), (q7, .inl (c8, 10, .inl (fun _ => 0))), (q9, .inl (c10, 220, .inl (fun _ => 0)))] H := hP
  have hD : va_D A [(q, .inr (5, [.int 0, .ref q1, .ref q3, .ref q5, .int 0, .ref q7, .int 0, .null, .null, .null, .null, .int 0, .null, .null, .long 0])), (q1, .inl (c2, 20, .inl (fun _ => 0))), (q3, .inl (c4, 20, .inl (fun _ => 0))), (q5, .inl (c6, 20, .inl (fun _ => 0))), (q7, .inl (c8, 10, .inl (fun _ => 0))), (q9, .inl (c10, 220, .inl (fun _ => 0)))] := hD
  refine W.widen (k := 5) (n := 290) (by omega) (by omega) ?_
  refine va_putF (D := (dC, dI)) (ci := 5) (v := .ref q9) (ty := .array .int) (C := RX5) (T := TX5) (N := 15) hx hb ht uX5 tyX5 tkX5 nmX5 hown hK hP hD hS 0 rfl rfl 7 (by decide) (ht _ k_4_15) (fun _ h9 => h9) rfl hin rfl (by decide +kernel) rfl rfl (Nat.le_of_ble_eq_true rfl) dX5_init_42 (fun H locs hP hD hS => ?_)
  have hP : va_P (dC, dI) cls [(q, .inr (5, [.int 0, .ref q1, .ref q3, .ref q5, .int 0, .ref q7, .int 0, .ref q9, .null, .null, .null, .int 0, .null, .null, .long 0])), (q1, .inl (c2, 20, .inl (fun _ => 0))), (q3, .inl (c4, 20, .inl (fun _ => 0))), (q5, .inl (c6, 20, .inl (fun _ => 0))), (q7, .inl (c8, 10, .inl (fun _ => 0))), (q9, .inl (c10, 220, .inl (fun _ => 0)))] H := hP
  have hD : va_D A [(q, .inr (5, [.int 0, .ref q1, .ref q3, .ref q5, .int 0, .ref q7, .int 0, .ref q9, .null, .null, .null, .int 0, .null, .null, .long 0])), (q1, .inl (c2, 20, .inl (fun _ => 0))), (q3, .inl (c4, 20, .inl (fun _ => 0))), (q5, .inl (c6, 20, .inl (fun _ => 0))), (q7, .inl (c8, 10, .inl (fun _ => 0))), (q9, .inl (c10, 220, .inl (fun _ => 0)))] := hD
  have hP := hP.sub (ws' := [(q, .inr (5, [.int 0, .ref q1, .ref q3, .ref q5, .int 0, .ref q7, .int 0, .ref q9, .null, .null, .null, .int 0, .null, .null, .long 0])), (q1, .inl (c2, 20, .inl (fun _ => 0))), (q3, .inl (c4, 20, .inl (fun _ => 0))), (q5, .inl (c6, 20, .inl (fun _ => 0))), (q7, .inl (c8, 10, .inl (fun _ => 0)))]) [0, 1, 2, 3, 4] rfl
  have hD := hD.sub (ws' := [(q, .inr (5, [.int 0, .ref q1, .ref q3, .ref q5, .int 0, .ref q7, .int 0, .ref q9, .null, .null, .null, .int 0, .null, .null, .long 0])), (q1, .inl (c2, 20, .inl (fun _ => 0))), (q3, .inl (c4, 20, .inl (fun _ => 0))), (q5, .inl (c6, 20, .inl (fun _ => 0))), (q7, .inl (c8, 10, .inl (fun _ => 0)))]) [0, 1, 2, 3, 4] (by decide) rfl
  refine lv_aload_n hx hb dX5_init_45 rfl (lv_at hl 0 rfl) ?_
  refine lv_sipush (v := 220) hx hb dX5_init_46 (by decide) ?_
  refine va_newa (atype := .int) (ty := .int) (N' := 220) (a0 := (220, .inl (fun _ => 0))) hx hb (ht _ k_1_139) rfl hK hP hD hS hA (fun _ => rfl) (by decide) (by decide) (Nat.le_of_ble_eq_true rfl) (Nat.le_of_ble_eq_true rfl) (Nat.le_of_ble_eq_true rfl) dX5_init_49 (fun q11 c12 H hK hP hD hS => ?_)
  have hK : va_K (dC, dI) cls [(c2, .int), (c4, .int), (c6, .int), (c8, .int), (c10, .int), (c12, .int)] s := hK
  have hP : va_P (dC, dI) cls [(q, .inr (5, [.int 0, .ref q1, .ref q3, .ref q5, .int 0, .ref q7, .int 0, .ref q9, .null, .null, .null, .int 0, .null, .null, .long 0])), (q1, .inl (c2, 20, .inl (fun _ => 0))), (q3, .inl (c4, 20, .inl (fun _ => 0))), (q5, .inl (c6, 20, .inl (fun _ => 0))), (q7, .inl (c8, 10, .inl (fun _ => 0))), (q11, .inl (c12, 220, .inl (fun _ => 0)))] H := hP
  have hD : va_D A [(q, .inr (5, [.int 0, .ref q1, .ref q3, .ref q5, .int 0, .ref q7, .int 0, .ref q9, .null, .null, .null, .int 0, .null, .null, .long 0])), (q1, .inl (c2, 20, .inl (fun _ => 0))), (q3, .inl (c4, 20, .inl (fun _ => 0))), (q5, .inl (c6, 20, .inl (fun _ => 0))), (q7, .inl (c8, 10, .inl (fun _ => 0))), (q11, .inl (c12, 220, .inl (fun _ => 0)))] := hD
  refine W.widen (k := 6) (n := 510) (by omega) (by omega) ?_
  refine va_putF (D := (dC, dI)) (ci := 5) (v := .ref q11) (ty := .array .int) (C := RX5) (T := TX5) (N := 15) hx hb ht uX5 tyX5 tkX5 nmX5 hown hK hP hD hS 0 rfl rfl 8 (by decide) (ht _ k_4_16) (fun _ h9 => h9) rfl hin rfl (by decide +kernel) rfl rfl (Nat.le_of_ble_eq_true rfl) dX5_init_51 (fun H locs hP hD hS => ?_)
  have hP : va_P (dC, dI) cls [(q, .inr (5, [.int 0, .ref q1, .ref q3, .ref q5, .int 0, .ref q7, .int 0, .ref q9, .ref q11, .null, .null, .int 0, .null, .null, .long 0])), (q1, .inl (c2, 20, .inl (fun _ => 0))), (q3, .inl (c4, 20, .inl (fun _ => 0))), (q5, .inl (c6, 20, .inl (fun _ => 0))), (q7, .inl (c8, 10, .inl (fun _ => 0))), (q11, .inl (c12, 220, .inl (fun _ => 0)))] H := hP
  have hD : va_D A [(q, .inr (5, [.int 0, .ref q1, .ref q3, .ref q5, .int 0, .ref q7, .int 0, .ref q9, .ref q11, .null, .null, .int 0, .null, .null, .long 0])), (q1, .inl (c2, 20, .inl (fun _ => 0))), (q3, .inl (c4, 20, .inl (fun _ => 0))), (q5, .inl (c6, 20, .inl (fun _ => 0))), (q7, .inl (c8, 10, .inl (fun _ => 0))), (q11, .inl (c12, 220, .inl (fun _ => 0)))] := hD
  have hP := hP.sub (ws' := [(q, .inr (5, [.int 0, .ref q1, .ref q3, .ref q5, .int 0, .ref q7, .int 0, .ref q9, .ref q11, .null, .null, .int 0, .null, .null, .long 0])), (q1, .inl (c2, 20, .inl (fun _ => 0))), (q3, .inl (c4, 20, .inl (fun _ => 0))), (q5, .inl (c6, 20, .inl (fun _ => 0))), (q7, .inl (c8, 10, .inl (fun _ => 0)))]) [0, 1, 2, 3, 4] rfl
  have hD := hD.sub (ws' := [(q, .inr (5, [.int 0, .ref q1, .ref q3, .ref q5, .int 0, .ref q7, .int 0, .ref q9, .ref q11, .null, .null, .int 0, .null, .null, .long 0])), (q1, .inl (c2, 20, .inl (fun _ => 0))), (q3, .inl (c4, 20, .inl (fun _ => 0))), (q5, .inl (c6, 20, .inl (fun _ => 0))), (q7, .inl (c8, 10, .inl (fun _ => 0)))]) [0, 1, 2, 3, 4] (by decide) rfl
  refine lv_aload_n hx hb dX5_init_54 rfl (lv_at hl 0 rfl) ?_
  refine lv_bipush (v := 10) hx hb dX5_init_55 (by decide) ?_
  refine va_newa (atype := .int) (ty := .int) (N' := 10) (a0 := (10, .inl (fun _ => 0))) hx hb (ht _ k_1_139) rfl hK hP hD hS hA (fun _ => rfl) (by decide) (by decide) (Nat.le_of_ble_eq_true rfl) (Nat.le_of_ble_eq_true rfl) (Nat.le_of_ble_eq_true rfl) dX5_init_57 (fun q13 c14 H hK hP hD hS => ?_)
  have hK : va_K (dC, dI) cls [(c2, .int), (c4, .int), (c6, .int), (c8, .int), (c10, .int), (c12, .int), (c14, .int)] s := hK
  have hP : va_P (dC, dI) cls [(q, .inr (5, [.int 0, .ref q1, .ref q3, .ref q5, .int 0, .ref q7, .int 0, .ref q9, .ref q11, .null, .null, .int 0, .null, .null, .long 0])), (q1, .inl (c2, 20, .inl (fun _ => 0))), (q3, .inl (c4, 20, .inl (fun _ => 0))), (q5, .inl (c6, 20, .inl (fun _ => 0))), (q7, .inl (c8, 10, .inl (fun _ => 0))), (q13, .inl (c14, 10, .inl (fun _ => 0)))] H := hP
  have hD : va_D A [(q, .inr (5, [.int 0, .ref q1, .ref q3, .ref q5, .int 0, .ref q7, .int 0, .ref q9, .ref q11, .null, .null, .int 0, .null, .null, .long 0])), (q1, .inl (c2, 20, .inl (fun _ => 0))), (q3, .inl (c4, 20, .inl (fun _ => 0))), (q5, .inl (c6, 20, .inl (fun _ => 0))), (q7, .inl (c8, 10, .inl (fun _ => 0))), (q13, .inl (c14, 10, .inl (fun _ => 0)))] := hD
  refine W.widen (k := 7) (n := 520) (by omega) (by omega) ?_
  refine va_putF (D := (dC, dI)) (ci := 5) (v := .ref q13) (ty := .array .int) (C := RX5) (T := TX5) (N := 15) hx hb ht uX5 tyX5 tkX5 nmX5 hown hK hP hD hS 0 rfl rfl 9 (by decide) (ht _ k_4_17) (fun _ h9 => h9) rfl hin rfl (by decide +kernel) rfl rfl (Nat.le_of_ble_eq_true rfl) dX5_init_59 (fun H locs hP hD hS => ?_)
  have hP : va_P (dC, dI) cls [(q, .inr (5, [.int 0, .ref q1, .ref q3, .ref q5, .int 0, .ref q7, .int 0, .ref q9, .ref q11, .ref q13, .null, .int 0, .null, .null, .long 0])), (q1, .inl (c2, 20, .inl (fun _ => 0))), (q3, .inl (c4, 20, .inl (fun _ => 0))), (q5, .inl (c6, 20, .inl (fun _ => 0))), (q7, .inl (c8, 10, .inl (fun _ => 0))), (q13, .inl (c14, 10, .inl (fun _ => 0)))] H := hP
  have hD : va_D A [(q, .inr (5, [.int 0, .ref q1, .ref q3, .ref q5, .int 0, .ref q7, .int 0, .ref q9, .ref q11, .ref q13, .null, .int 0, .null, .null, .long 0])), (q1, .inl (c2, 20, .inl (fun _ => 0))), (q3, .inl (c4, 20, .inl (fun _ => 0))), (q5, .inl (c6, 20, .inl (fun _ => 0))), (q7, .inl (c8, 10, .inl (fun _ => 0))), (q13, .inl (c14, 10, .inl (fun _ => 0)))] := hD
  refine lv_aload_n hx hb dX5_init_62 rfl (lv_at hl 0 rfl) ?_
  refine lv_iconst (v := 5) hx hb dX5_init_63 (by decide) ?_
  refine va_newa (atype := .int) (ty := .int) (N' := 5) (a0 := (5, .inl (fun _ => 0))) hx hb (ht _ k_1_139) rfl hK hP hD hS hA (fun _ => rfl) (by decide) (by decide) (Nat.le_of_ble_eq_true rfl) (Nat.le_of_ble_eq_true rfl) (Nat.le_of_ble_eq_true rfl) dX5_init_64 (fun q15 c16 H hK hP hD hS => ?_)
  have hK : va_K (dC, dI) cls [(c2, .int), (c4, .int), (c6, .int), (c8, .int), (c10, .int), (c12, .int), (c14, .int), (c16, .int)] s := hK
  have hP : va_P (dC, dI) cls [(q, .inr (5, [.int 0, .ref q1, .ref q3, .ref q5, .int 0, .ref q7, .int 0, .ref q9, .ref q11, .ref q13, .null, .int 0, .null, .null, .long 0])), (q1, .inl (c2, 20, .inl (fun _ => 0))), (q3, .inl (c4, 20, .inl (fun _ => 0))), (q5, .inl (c6, 20, .inl (fun _ => 0))), (q7, .inl (c8, 10, .inl (fun _ => 0))), (q13, .inl (c14, 10, .inl (fun _ => 0))), (q15, .inl (c16, 5, .inl (fun _ => 0)))] H := hP
  have hD : va_D A [(q, .inr (5, [.int 0, .ref q1, .ref q3, .ref q5, .int 0, .ref q7, .int 0, .ref q9, .ref q11, .ref q13, .null, .int 0, .null, .null, .long 0])), (q1, .inl (c2, 20, .inl (fun _ => 0))), (q3, .inl (c4, 20, .inl (fun _ => 0))), (q5, .inl (c6, 20, .inl (fun _ => 0))), (q7, .inl (c8, 10, .inl (fun _ => 0))), (q13, .inl (c14, 10, .inl (fun _ => 0))), (q15, .inl (c16, 5, .inl (fun _ => 0)))] := hD
  refine W.widen (k := 8) (n := 525) (by omega) (by omega) ?_
  refine va_putF (D := (dC, dI)) (ci := 5) (v := .ref q15) (ty := .array .int) (C := RX5) (T := TX5) (N := 15) hx hb ht uX5 tyX5 tkX5 nmX5 hown hK hP hD hS 0 rfl rfl 10 (by decide) (ht _ k_4_18) (fun _ h9 => h9) rfl hin rfl (by decide +kernel) rfl rfl (Nat.le_of_ble_eq_true rfl) dX5_init_66 (fun H locs hP hD hS => ?_)
  have hP : va_P (dC, dI) cls [(q, .inr (5, [.int 0, .ref q1, .ref q3, .ref q5, .int 0, .ref q7, .int 0, .ref q9, .ref q11, .ref q13, .ref q15, .int 0, .null, .null, .long 0])), (q1, .inl (c2, 20, .inl (fun _ => 0))), (q3, .inl (c4, 20, .inl (fun _ => 0))), (q5, .inl (c6, 20, .inl (fun _ => 0))), (q7, .inl (c8, 10, .inl (fun _ => 0))), (q13, .inl (c14, 10, .inl (fun _ => 0))), (q15, .inl (c16, 5, .inl (fun _ => 0)))] H := hP
  have hD : va_D A [(q, .inr (5, [.int 0, .ref q1, .ref q3, .ref q5, .int 0, .ref q7, .int 0, .ref q9, .ref q11, .ref q13, .ref q15, .int 0, .null, .null, .long 0])), (q1, .inl (c2, 20, .inl (fun _ => 0))), (q3, .inl (c4, 20, .inl (fun _ => 0))), (q5, .inl (c6, 20, .inl (fun _ => 0))), (q7, .inl (c8, 10, .inl (fun _ => 0))), (q13, .inl (c14, 10, .inl (fun _ => 0))), (q15, .inl (c16, 5, .inl (fun _ => 0)))] := hD
  refine lv_aload_n hx hb dX5_init_69 rfl (lv_at hl 0 rfl) ?_
  refine lv_bipush (v := 6) hx hb dX5_init_70 (by decide) ?_
  refine va_newa (atype := .long) (ty := .long) (N' := 6) (a0 := (6, .inr (.inl (fun _ => 0)))) hx hb (ht _ k_1_138) rfl hK hP hD hS hA (fun _ => rfl) (by decide) (by decide) (Nat.le_of_ble_eq_true rfl) (Nat.le_of_ble_eq_true rfl) (Nat.le_of_ble_eq_true rfl) dX5_init_72 (fun q17 c18 H hK hP hD hS => ?_)
  have hK : va_K (dC, dI) cls [(c2, .int), (c4, .int), (c6, .int), (c8, .int), (c10, .int), (c12, .int), (c14, .int), (c16, .int), (c18, .long)] s := hK
  have hP : va_P (dC, dI) cls [(q, .inr (5, [.int 0, .ref q1, .ref q3, .ref q5, .int 0, .ref q7, .int 0, .ref q9, .ref q11, .ref q13, .ref q15, .int 0, .null, .null, .long 0])), (q1, .inl (c2, 20, .inl (fun _ => 0))), (q3, .inl (c4, 20, .inl (fun _ => 0))), (q5, .inl (c6, 20, .inl (fun _ => 0))), (q7, .inl (c8, 10, .inl (fun _ => 0))), (q13, .inl (c14, 10, .inl (fun _ => 0))), (q15, .inl (c16, 5, .inl (fun _ => 0))), (q17, .inl (c18, 6, .inr (.inl (fun _ => 0))))] H := hP
  have hD : va_D A [(q, .inr (5, [.int 0, .ref q1, .ref q3, .ref q5, .int 0, .ref q7, .int 0, .ref q9, .ref q11, .ref q13, .ref q15, .int 0, .null, .null, .long 0])), (q1, .inl (c2, 20, .inl (fun _ => 0))), (q3, .inl (c4, 20, .inl (fun _ => 0))), (q5, .inl (c6, 20, .inl (fun _ => 0))), (q7, .inl (c8, 10, .inl (fun _ => 0))), (q13, .inl (c14, 10, .inl (fun _ => 0))), (q15, .inl (c16, 5, .inl (fun _ => 0))), (q17, .inl (c18, 6, .inr (.inl (fun _ => 0))))] := hD
  refine W.widen (k := 9) (n := 531) (by omega) (by omega) ?_
  refine va_putF (D := (dC, dI)) (ci := 5) (v := .ref q17) (ty := .array .long) (C := RX5) (T := TX5) (N := 15) hx hb ht uX5 tyX5 tkX5 nmX5 hown hK hP hD hS 0 rfl rfl 12 (by decide) (ht _ k_4_22) (fun _ h9 => h9) rfl hin rfl (by decide +kernel) rfl rfl (Nat.le_of_ble_eq_true rfl) dX5_init_74 (fun H locs hP hD hS => ?_)
  have hP : va_P (dC, dI) cls [(q, .inr (5, [.int 0, .ref q1, .ref q3, .ref q5, .int 0, .ref q7, .int 0, .ref q9, .ref q11, .ref q13, .ref q15, .int 0, .ref q17, .null, .long 0])), (q1, .inl (c2, 20, .inl (fun _ => 0))), (q3, .inl (c4, 20, .inl (fun _ => 0))), (q5, .inl (c6, 20, .inl (fun _ => 0))), (q7, .inl (c8, 10, .inl (fun _ => 0))), (q13, .inl (c14, 10, .inl (fun _ => 0))), (q15, .inl (c16, 5, .inl (fun _ => 0))), (q17, .inl (c18, 6, .inr (.inl (fun _ => 0))))] H := hP
  have hD : va_D A [(q, .inr (5, [.int 0, .ref q1, .ref q3, .ref q5, .int 0, .ref q7, .int 0, .ref q9, .ref q11, .ref q13, .ref q15, .int 0, .ref q17, .null, .long 0])), (q1, .inl (c2, 20, .inl (fun _ => 0))), (q3, .inl (c4, 20, .inl (fun _ => 0))), (q5, .inl (c6, 20, .inl (fun _ => 0))), (q7, .inl (c8, 10, .inl (fun _ => 0))), (q13, .inl (c14, 10, .inl (fun _ => 0))), (q15, .inl (c16, 5, .inl (fun _ => 0))), (q17, .inl (c18, 6, .inr (.inl (fun _ => 0))))] := hD
  refine lv_aload_n hx hb dX5_init_77 rfl (lv_at hl 0 rfl) ?_
  refine lv_bipush (v := 6) hx hb dX5_init_78 (by decide) ?_
  refine va_newa (atype := .long) (ty := .long) (N' := 6) (a0 := (6, .inr (.inl (fun _ => 0)))) hx hb (ht _ k_1_138) rfl hK hP hD hS hA (fun _ => rfl) (by decide) (by decide) (Nat.le_of_ble_eq_true rfl) (Nat.le_of_ble_eq_true rfl) (Nat.le_of_ble_eq_true rfl) dX5_init_80 (fun q19 c20 H hK hP hD hS => ?_)
  have hK : va_K (dC, dI) cls [(c2, .int), (c4, .int), (c6, .int), (c8, .int), (c10, .int), (c12, .int), (c14, .int), (c16, .int), (c18, .long), (c20, .long)] s := hK
  have hP : va_P (dC, dI) cls [(q, .inr (5, [.int 0, .ref q1, .ref q3, .ref q5, .int 0, .ref q7, .int 0, .ref q9, .ref q11, .ref q13, .ref q15, .int 0, .ref q17, .null, .long 0])), (q1, .inl (c2, 20, .inl (fun _ => 0))), (q3, .inl (c4, 20, .inl (fun _ => 0))), (q5, .inl (c6, 20, .inl (fun _ => 0))), (q7, .inl (c8, 10, .inl (fun _ => 0))), (q13, .inl (c14, 10, .inl (fun _ => 0))), (q15, .inl (c16, 5, .inl (fun _ => 0))), (q17, .inl (c18, 6, .inr (.inl (fun _ => 0)))), (q19, .inl (c20, 6, .inr (.inl (fun _ => 0))))] H := hP
  have hD : va_D A [(q, .inr (5, [.int 0, .ref q1, .ref q3, .ref q5, .int 0, .ref q7, .int 0, .ref q9, .ref q11, .ref q13, .ref q15, .int 0, .ref q17, .null, .long 0])), (q1, .inl (c2, 20, .inl (fun _ => 0))), (q3, .inl (c4, 20, .inl (fun _ => 0))), (q5, .inl (c6, 20, .inl (fun _ => 0))), (q7, .inl (c8, 10, .inl (fun _ => 0))), (q13, .inl (c14, 10, .inl (fun _ => 0))), (q15, .inl (c16, 5, .inl (fun _ => 0))), (q17, .inl (c18, 6, .inr (.inl (fun _ => 0)))), (q19, .inl (c20, 6, .inr (.inl (fun _ => 0))))] := hD
  refine W.widen (k := 10) (n := 537) (by omega) (by omega) ?_
  refine va_putF (D := (dC, dI)) (ci := 5) (v := .ref q19) (ty := .array .long) (C := RX5) (T := TX5) (N := 15) hx hb ht uX5 tyX5 tkX5 nmX5 hown hK hP hD hS 0 rfl rfl 13 (by decide) (ht _ k_4_23) (fun _ h9 => h9) rfl hin rfl (by decide +kernel) rfl rfl (Nat.le_of_ble_eq_true rfl) dX5_init_82 (fun H locs hP hD hS => ?_)
  have hP : va_P (dC, dI) cls [(q, .inr (5, [.int 0, .ref q1, .ref q3, .ref q5, .int 0, .ref q7, .int 0, .ref q9, .ref q11, .ref q13, .ref q15, .int 0, .ref q17, .ref q19, .long 0])), (q1, .inl (c2, 20, .inl (fun _ => 0))), (q3, .inl (c4, 20, .inl (fun _ => 0))), (q5, .inl (c6, 20, .inl (fun _ => 0))), (q7, .inl (c8, 10, .inl (fun _ => 0))), (q13, .inl (c14, 10, .inl (fun _ => 0))), (q15, .inl (c16, 5, .inl (fun _ => 0))), (q17, .inl (c18, 6, .inr (.inl (fun _ => 0)))), (q19, .inl (c20, 6, .inr (.inl (fun _ => 0))))] H := hP
  have hD : va_D A [(q, .inr (5, [.int 0, .ref q1, .ref q3, .ref q5, .int 0, .ref q7, .int 0, .ref q9, .ref q11, .ref q13, .ref q15, .int 0, .ref q17, .ref q19, .long 0])), (q1, .inl (c2, 20, .inl (fun _ => 0))), (q3, .inl (c4, 20, .inl (fun _ => 0))), (q5, .inl (c6, 20, .inl (fun _ => 0))), (q7, .inl (c8, 10, .inl (fun _ => 0))), (q13, .inl (c14, 10, .inl (fun _ => 0))), (q15, .inl (c16, 5, .inl (fun _ => 0))), (q17, .inl (c18, 6, .inr (.inl (fun _ => 0)))), (q19, .inl (c20, 6, .inr (.inl (fun _ => 0))))] := hD
  exact W.vret hx hb hr (fun t ht9 hW => ⟨⟨([.int 0, .ref q1, .ref q3, .ref q5, .int 0, .ref q7, .int 0, .ref q9, .ref q11, .ref q13, .ref q15, .int 0, .ref q17, .ref q19, .long 0], q1, c2, (fun _ => 0), q3, c4, (fun _ => 0), q5, c6, (fun _ => 0), q7, c8, (fun _ => 0), q13, c14, (fun _ => 0), q15, c16, (fun _ => 0), q17, c18, (fun _ => 0), q19, c20, (fun _ => 0)), rfl, ⟨trivial, rfl, rfl, rfl, rfl, rfl, rfl, rfl, rfl, rfl, rfl, rfl, rfl⟩, by rw [ht9]; exact hP.sub [0, 1, 2, 3, 4, 5, 6, 7, 8] rfl, va_K.moved hW.alike (hK.sub [0, 1, 2, 3, 6, 7, 8, 9] rfl), hD.sub [0, 1, 2, 3, 4, 5, 6, 7, 8] (by decide) rfl⟩, hS.F ht9⟩) hS.2.2 dX5_init_85
set_option maxHeartbeats 4000000 in
set_option maxRecDepth 100000 in
theorem k10 (l : Launch) (dC : Nat → ClassId) (dI : Nat → Nat → Nat) (sz : Nat) (q : Nat)  : Met l yX10_init (Cond.code yX10_init cX10_init 1 none :: tb) ({ frames := 1, cells := 15, slots := 9968, locals := 12 }) (pcw [.ref q] (dC, dI) [(q, .inr (10, [.int 0, .null, .null, .null, .null, .int 0, .null, .null, .int 0, .null, .null, .null, .null, .null, .null, .null, .int 0, .int 0, .int 0, .null, .null]))] [] sz) (va_Qv (fun (fs1 : List Value) => (True) ∧ (fs1.length = 21) ∧ (fs1[0]? = some (.int 0)) ∧ (fs1[18]? = some (.int 0))) (bw (dC, dI) (va_A [(q, .inr (10, [.int 0, .null, .null, .null, .null, .int 0, .null, .null, .int 0, .null, .null, .null, .null, .null, .null, .null, .int 0, .int 0, .int 0, .null, .null]))] sz) (fun (fs1 : List Value) => [(q, .inr (10, fs1))]) (fun (fs1 : List Value) => [])) (va_A [(q, .inr (10, [.int 0, .null, .null, .null, .null, .int 0, .null, .null, .int 0, .null, .null, .null, .null, .null, .null, .null, .int 0, .int 0, .int 0, .null, .null]))] sz)) 15 9968 (va_A [(q, .inr (10, [.int 0, .null, .null, .null, .null, .int 0, .null, .null, .int 0, .null, .null, .null, .null, .null, .null, .null, .int 0, .int 0, .int 0, .null, .null]))] sz) := by
  refine Met.ofW (cc := cX10_init) (maxL := 1) (ret := none) (by decide) rfl ?_
  intro p e s m args below meth c s₁ B hml hv
  obtain ⟨rfl, hsz, hP, hK, hD0⟩ := hv
  have hx := B.exec
  have hb := B.bytes
  have hr := B.returns
  have hts := atoms_spec (ws := Cond.code yX10_init cX10_init 1 none :: tb) B.pre
  have ht : ∀ w ∈ tb, w.before _ s = true := fun w h => hts w (List.mem_cons_of_mem _ h)
  have hown : s.vm.findClass RX10 = some m.cls := findClass_of_methodNamed B.named
  have hlocks := B.notSynchronized
  have hin : meth.name = "<init>" := (name_of_methodNamed B.named B.method).1
  subst hsz
  have hD := hD0.self (sz := s.heap.size)
  generalize hAe : va_A [(q, .inr (10, [.int 0, .null, .null, .null, .null, .int 0, .null, .null, .int 0, .null, .null, .null, .null, .null, .null, .null, .int 0, .int 0, .int 0, .null, .null]))] s.heap.size = A at hD ⊢
  have hA : ∀ q : Nat, s.heap.size ≤ q → A q := fun q h => by rw [← hAe]; exact Or.inr h
  have hS : va_S A s.heap s.heap [] := va_S.rf
  have hl := lv_entry ([.ref q]) (n := 1) (Nat.le_of_ble_eq_true rfl)
  rw [lg_entry_eq]
  generalize (lg_sl ([.ref q]) ++ List.replicate (1 - (lg_sl ([.ref q])).length) Slot.unset).toArray = ls at hl ⊢
  have hl : lv_has ls 1 [(0, .ref q)] := hl
  have hP : va_P (dC, dI) cls [(q, .inr (10, [.int 0, .null, .null, .null, .null, .int 0, .null, .null, .int 0, .null, .null, .null, .null, .null, .null, .null, .int 0, .int 0, .int 0, .null, .null]))] s.heap := hP
  refine lv_aload_n hx hb dX10_init_0 rfl (lv_at hl 0 rfl) ?_
  refine tk_o hx hb hown ht k_3_174 k_1_36 k_1_37 hml hl.1 dX10_init_1 (Nat.le_of_ble_eq_true rfl) (Nat.le_of_ble_eq_true rfl) ?_
  refine lv_aload_n hx hb dX10_init_4 rfl (lv_at hl 0 rfl) ?_
  refine lv_bipush (v := 80) hx hb dX10_init_5 (by decide) ?_
  refine va_newa (atype := .byte) (ty := .byte) (N' := 80) (a0 := (80, .inl (fun _ => 0))) hx hb (ht _ k_1_137) rfl hK hP hD hS hA (fun _ => rfl) (by decide) (by decide) (Nat.le_of_ble_eq_true rfl) (Nat.le_of_ble_eq_true rfl) (Nat.le_of_ble_eq_true rfl) dX10_init_7 (fun q1 c2 H hK hP hD hS => ?_)
  have hK : va_K (dC, dI) cls [(c2, .byte)] s := hK
  have hP : va_P (dC, dI) cls [(q, .inr (10, [.int 0, .null, .null, .null, .null, .int 0, .null, .null, .int 0, .null, .null, .null, .null, .null, .null, .null, .int 0, .int 0, .int 0, .null, .null])), (q1, .inl (c2, 80, .inl (fun _ => 0)))] H := hP
  have hD : va_D A [(q, .inr (10, [.int 0, .null, .null, .null, .null, .int 0, .null, .null, .int 0, .null, .null, .null, .null, .null, .null, .null, .int 0, .int 0, .int 0, .null, .null])), (q1, .inl (c2, 80, .inl (fun _ => 0)))] := hD
  refine W.widen (k := 1) (n := 80) (by omega) (by omega) ?_
  refine va_putF (D := (dC, dI)) (ci := 10) (v := .ref q1) (ty := .array .byte) (C := RX10) (T := TX10) (N := 21) hx hb ht uX10 tyX10 tkX10 nmX10 hown hK hP hD hS 0 rfl rfl 1 (by decide) (ht _ k_3_177) (fun _ h9 => h9) rfl hin rfl (by decide +kernel) rfl rfl (Nat.le_of_ble_eq_true rfl) dX10_init_9 (fun H locs hP hD hS => ?_)
  have hP : va_P (dC, dI) cls [(q, .inr (10, [.int 0, .ref q1, .null, .null, .null, .int 0, .null, .null, .int 0, .null, .null, .null, .null, .null, .null, .null, .int 0, .int 0, .int 0, .null, .null])), (q1, .inl (c2, 80, .inl (fun _ => 0)))] H := hP
  have hD : va_D A [(q, .inr (10, [.int 0, .ref q1, .null, .null, .null, .int 0, .null, .null, .int 0, .null, .null, .null, .null, .null, .null, .null, .int 0, .int 0, .int 0, .null, .null])), (q1, .inl (c2, 80, .inl (fun _ => 0)))] := hD
  have hP := hP.sub (ws' := [(q, .inr (10, [.int 0, .ref q1, .null, .null, .null, .int 0, .null, .null, .int 0, .null, .null, .null, .null, .null, .null, .null, .int 0, .int 0, .int 0, .null, .null]))]) [0] rfl
  have hD := hD.sub (ws' := [(q, .inr (10, [.int 0, .ref q1, .null, .null, .null, .int 0, .null, .null, .int 0, .null, .null, .null, .null, .null, .null, .null, .int 0, .int 0, .int 0, .null, .null]))]) [0] (by decide) rfl
  refine lv_aload_n hx hb dX10_init_12 rfl (lv_at hl 0 rfl) ?_
  refine lv_bipush (v := 80) hx hb dX10_init_13 (by decide) ?_
  refine va_newa (atype := .byte) (ty := .byte) (N' := 80) (a0 := (80, .inl (fun _ => 0))) hx hb (ht _ k_1_137) rfl hK hP hD hS hA (fun _ => rfl) (by decide) (by decide) (Nat.le_of_ble_eq_true rfl) (Nat.le_of_ble_eq_true rfl) (Nat.le_of_ble_eq_true rfl) dX10_init_15 (fun q3 c4 H hK hP hD hS => ?_)
  have hK : va_K (dC, dI) cls [(c2, .byte), (c4, .byte)] s := hK
  have hP : va_P (dC, dI) cls [(q, .inr (10, [.int 0, .ref q1, .null, .null, .null, .int 0, .null, .null, .int 0, .null, .null, .null, .null, .null, .null, .null, .int 0, .int 0, .int 0, .null, .null])), (q3, .inl (c4, 80, .inl (fun _ => 0)))] H := hP
  have hD : va_D A [(q, .inr (10, [.int 0, .ref q1, .null, .null, .null, .int 0, .null, .null, .int 0, .null, .null, .null, .null, .null, .null, .null, .int 0, .int 0, .int 0, .null, .null])), (q3, .inl (c4, 80, .inl (fun _ => 0)))] := hD
  refine W.widen (k := 2) (n := 160) (by omega) (by omega) ?_
  refine va_putF (D := (dC, dI)) (ci := 10) (v := .ref q3) (ty := .array .byte) (C := RX10) (T := TX10) (N := 21) hx hb ht uX10 tyX10 tkX10 nmX10 hown hK hP hD hS 0 rfl rfl 2 (by decide) (ht _ k_3_178) (fun _ h9 => h9) rfl hin rfl (by decide +kernel) rfl rfl (Nat.le_of_ble_eq_true rfl) dX10_init_17 (fun H locs hP hD hS => ?_)
  have hP : va_P (dC, dI) cls [(q, .inr (10, [.int 0, .ref q1, .ref q3, .null, .null, .int 0, .null, .null, .int 0, .null, .null, .null, .null, .null, .null, .null, .int 0, .int 0, .int 0, .null, .null])), (q3, .inl (c4, 80, .inl (fun _ => 0)))] H := hP
  have hD : va_D A [(q, .inr (10, [.int 0, .ref q1, .ref q3, .null, .null, .int 0, .null, .null, .int 0, .null, .null, .null, .null, .null, .null, .null, .int 0, .int 0, .int 0, .null, .null])), (q3, .inl (c4, 80, .inl (fun _ => 0)))] := hD
  have hP := hP.sub (ws' := [(q, .inr (10, [.int 0, .ref q1, .ref q3, .null, .null, .int 0, .null, .null, .int 0, .null, .null, .null, .null, .null, .null, .null, .int 0, .int 0, .int 0, .null, .null]))]) [0] rfl
  have hD := hD.sub (ws' := [(q, .inr (10, [.int 0, .ref q1, .ref q3, .null, .null, .int 0, .null, .null, .int 0, .null, .null, .null, .null, .null, .null, .null, .int 0, .int 0, .int 0, .null, .null]))]) [0] (by decide) rfl
  refine lv_aload_n hx hb dX10_init_20 rfl (lv_at hl 0 rfl) ?_
  refine lv_bipush (v := 8) hx hb dX10_init_21 (by decide) ?_
  refine va_newa (atype := .int) (ty := .int) (N' := 8) (a0 := (8, .inl (fun _ => 0))) hx hb (ht _ k_1_139) rfl hK hP hD hS hA (fun _ => rfl) (by decide) (by decide) (Nat.le_of_ble_eq_true rfl) (Nat.le_of_ble_eq_true rfl) (Nat.le_of_ble_eq_true rfl) dX10_init_23 (fun q5 c6 H hK hP hD hS => ?_)
  have hK : va_K (dC, dI) cls [(c2, .byte), (c4, .byte), (c6, .int)] s := hK
  have hP : va_P (dC, dI) cls [(q, .inr (10, [.int 0, .ref q1, .ref q3, .null, .null, .int 0, .null, .null, .int 0, .null, .null, .null, .null, .null, .null, .null, .int 0, .int 0, .int 0, .null, .null])), (q5, .inl (c6, 8, .inl (fun _ => 0)))] H := hP
  have hD : va_D A [(q, .inr (10, [.int 0, .ref q1, .ref q3, .null, .null, .int 0, .null, .null, .int 0, .null, .null, .null, .null, .null, .null, .null, .int 0, .int 0, .int 0, .null, .null])), (q5, .inl (c6, 8, .inl (fun _ => 0)))] := hD
  refine W.widen (k := 3) (n := 168) (by omega) (by omega) ?_
  refine va_putF (D := (dC, dI)) (ci := 10) (v := .ref q5) (ty := .array .int) (C := RX10) (T := TX10) (N := 21) hx hb ht uX10 tyX10 tkX10 nmX10 hown hK hP hD hS 0 rfl rfl 3 (by decide) (ht _ k_3_179) (fun _ h9 => h9) rfl hin rfl (by decide +kernel) rfl rfl (Nat.le_of_ble_eq_true rfl) dX10_init_25 (fun H locs hP hD hS => ?_)
  have hP : va_P (dC, dI) cls [(q, .inr (10, [.int 0, .ref q1, .ref q3, .ref q5, .null, .int 0, .null, .null, .int 0, .null, .null, .null, .null, .null, .null, .null, .int 0, .int 0, .int 0, .null, .null])), (q5, .inl (c6, 8, .inl (fun _ => 0)))] H := hP
  have hD : va_D A [(q, .inr (10, [.int 0, .ref q1, .ref q3, .ref q5, .null, .int 0, .null, .null, .int 0, .null, .null, .null, .null, .null, .null, .null, .int 0, .int 0, .int 0, .null, .null])), (q5, .inl (c6, 8, .inl (fun _ => 0)))] := hD
  have hP := hP.sub (ws' := [(q, .inr (10, [.int 0, .ref q1, .ref q3, .ref q5, .null, .int 0, .null, .null, .int 0, .null, .null, .null, .null, .null, .null, .null, .int 0, .int 0, .int 0, .null, .null]))]) [0] rfl
  have hD := hD.sub (ws' := [(q, .inr (10, [.int 0, .ref q1, .ref q3, .ref q5, .null, .int 0, .null, .null, .int 0, .null, .null, .null, .null, .null, .null, .null, .int 0, .int 0, .int 0, .null, .null]))]) [0] (by decide) rfl
  refine lv_aload_n hx hb dX10_init_28 rfl (lv_at hl 0 rfl) ?_
  refine lv_bipush (v := 8) hx hb dX10_init_29 (by decide) ?_
  refine va_newa (atype := .int) (ty := .int) (N' := 8) (a0 := (8, .inl (fun _ => 0))) hx hb (ht _ k_1_139) rfl hK hP hD hS hA (fun _ => rfl) (by decide) (by decide) (Nat.le_of_ble_eq_true rfl) (Nat.le_of_ble_eq_true rfl) (Nat.le_of_ble_eq_true rfl) dX10_init_31 (fun q7 c8 H hK hP hD hS => ?_)
  have hK : va_K (dC, dI) cls [(c2, .byte), (c4, .byte), (c6, .int), (c8, .int)] s := hK
  have hP : va_P (dC, dI) cls [(q, .inr (10, [.int 0, .ref q1, .ref q3, .ref q5, .null, .int 0, .null, .null, .int 0, .null, .null, .null, .null, .null, .null, .null, .int 0, .int 0, .int 0, .null, .null])), (q7, .inl (c8, 8, .inl (fun _ => 0)))] H := hP
  have hD : va_D A [(q, .inr (10, [.int 0, .ref q1, .ref q3, .ref q5, .null, .int 0, .null, .null, .int 0, .null, .null, .null, .null, .null, .null, .null, .int 0, .int 0, .int 0, .null, .null])), (q7, .inl (c8, 8, .inl (fun _ => 0)))] := hD
  refine W.widen (k := 4) (n := 176) (by omega) (by omega) ?_
  refine va_putF (D := (dC, dI)) (ci := 10) (v := .ref q7) (ty := .array .int) (C := RX10) (T := TX10) (N := 21) hx hb ht uX10 tyX10 tkX10 nmX10 hown hK hP hD hS 0 rfl rfl 4 (by decide) (ht _ k_3_180) (fun _ h9 => h9) rfl hin rfl (by decide +kernel) rfl rfl (Nat.le_of_ble_eq_true rfl) dX10_init_33 (fun H locs hP hD hS => ?_)
  have hP : va_P (dC, dI) cls [(q, .inr (10, [.int 0, .ref q1, .ref q3, .ref q5, .ref q7, .int 0, .null, .null, .int 0, .null, .null, .null, .null, .null, .null, .null, .int 0, .int 0, .int 0, .null, .null])), (q7, .inl (c8, 8, .inl (fun _ => 0)))] H := hP
  have hD : va_D A [(q, .inr (10, [.int 0, .ref q1, .ref q3, .ref q5, .ref q7, .int 0, .null, .null, .int 0, .null, .null, .null, .null, .null, .null, .null, .int 0, .int 0, .int 0, .null, .null])), (q7, .inl (c8, 8, .inl (fun _ => 0)))] := hD
  have hP := hP.sub (ws' := [(q, .inr (10, [.int 0, .ref q1, .ref q3, .ref q5, .ref q7, .int 0, .null, .null, .int 0, .null, .null, .null, .null, .null, .null, .null, .int 0, .int 0, .int 0, .null, .null]))]) [0] rfl
  have hD := hD.sub (ws' := [(q, .inr (10, [.int 0, .ref q1, .ref q3, .ref q5, .ref q7, .int 0, .null, .null, .int 0, .null, .null, .null, .null, .null, .null, .null, .int 0, .int 0, .int 0, .null, .null]))]) [0] (by decide) rfl
  refine lv_aload_n hx hb dX10_init_36 rfl (lv_at hl 0 rfl) ?_
  refine lv_bipush (v := 42) hx hb dX10_init_37 (by decide) ?_
  refine va_newa (atype := .int) (ty := .int) (N' := 42) (a0 := (42, .inl (fun _ => 0))) hx hb (ht _ k_1_139) rfl hK hP hD hS hA (fun _ => rfl) (by decide) (by decide) (Nat.le_of_ble_eq_true rfl) (Nat.le_of_ble_eq_true rfl) (Nat.le_of_ble_eq_true rfl) dX10_init_39 (fun q9 c10 H hK hP hD hS => ?_)
  have hK : va_K (dC, dI) cls [(c2, .byte), (c4, .byte), (c6, .int), (c8, .int), (c10, .int)] s := hK
  have hP : va_P (dC, dI) cls [(q, .inr (10, [.int 0, .ref q1, .ref q3, .ref q5, .ref q7, .int 0, .null, .null, .int 0, .null, .null, .null, .null, .null, .null, .null, .int 0, .int 0, .int 0, .null, .null])), (q9, .inl (c10, 42, .inl (fun _ => 0)))] H := hP
  have hD : va_D A [(q, .inr (10, [.int 0, .ref q1, .ref q3, .ref q5, .ref q7, .int 0, .null, .null, .int 0, .null, .null, .null, .null, .null, .null, .null, .int 0, .int 0, .int 0, .null, .null])), (q9, .inl (c10, 42, .inl (fun _ => 0)))] := hD
  refine W.widen (k := 5) (n := 218) (by omega) (by omega) ?_
  refine va_putF (D := (dC, dI)) (ci := 10) (v := .ref q9) (ty := .array .int) (C := RX10) (T := TX10) (N := 21) hx hb ht uX10 tyX10 tkX10 nmX10 hown hK hP hD hS 0 rfl rfl 6 (by decide) (ht _ k_3_182) (fun _ h9 => h9) rfl hin rfl (by decide +kernel) rfl rfl (Nat.le_of_ble_eq_true rfl) dX10_init_41 (fun H locs hP hD hS => ?_)
  have hP : va_P (dC, dI) cls [(q, .inr (10, [.int 0, .ref q1, .ref q3, .ref q5, .ref q7, .int 0, .ref q9, .null, .int 0, .null, .null, .null, .null, .null, .null, .null, .int 0, .int 0, .int 0, .null, .null])), (q9, .inl (c10, 42, .inl (fun _ => 0)))] H := hP
  have hD : va_D A [(q, .inr (10, [.int 0, .ref q1, .ref q3, .ref q5, .ref q7, .int 0, .ref q9, .null, .int 0, .null, .null, .null, .null, .null, .null, .null, .int 0, .int 0, .int 0, .null, .null])), (q9, .inl (c10, 42, .inl (fun _ => 0)))] := hD
  have hP := hP.sub (ws' := [(q, .inr (10, [.int 0, .ref q1, .ref q3, .ref q5, .ref q7, .int 0, .ref q9, .null, .int 0, .null, .null, .null, .null, .null, .null, .null, .int 0, .int 0, .int 0, .null, .null]))]) [0] rfl
  have hD := hD.sub (ws' := [(q, .inr (10, [.int 0, .ref q1, .ref q3, .ref q5, .ref q7, .int 0, .ref q9, .null, .int 0, .null, .null, .null, .null, .null, .null, .null, .int 0, .int 0, .int 0, .null, .null]))]) [0] (by decide) rfl
  refine lv_aload_n hx hb dX10_init_44 rfl (lv_at hl 0 rfl) ?_
  refine lv_sipush (v := 336) hx hb dX10_init_45 (by decide) ?_
  refine va_newa (atype := .int) (ty := .int) (N' := 336) (a0 := (336, .inl (fun _ => 0))) hx hb (ht _ k_1_139) rfl hK hP hD hS hA (fun _ => rfl) (by decide) (by decide) (Nat.le_of_ble_eq_true rfl) (Nat.le_of_ble_eq_true rfl) (Nat.le_of_ble_eq_true rfl) dX10_init_48 (fun q11 c12 H hK hP hD hS => ?_)
  have hK : va_K (dC, dI) cls [(c2, .byte), (c4, .byte), (c6, .int), (c8, .int), (c10, .int), (c12, .int)] s := hK
  have hP : va_P (dC, dI) cls [(q, .inr (10, [.int 0, .ref q1, .ref q3, .ref q5, .ref q7, .int 0, .ref q9, .null, .int 0, .null, .null, .null, .null, .null, .null, .null, .int 0, .int 0, .int 0, .null, .null])), (q11, .inl (c12, 336, .inl (fun _ => 0)))] H := hP
  have hD : va_D A [(q, .inr (10, [.int 0, .ref q1, .ref q3, .ref q5, .ref q7, .int 0, .ref q9, .null, .int 0, .null, .null, .null, .null, .null, .null, .null, .int 0, .int 0, .int 0, .null, .null])), (q11, .inl (c12, 336, .inl (fun _ => 0)))] := hD
  refine W.widen (k := 6) (n := 554) (by omega) (by omega) ?_
  refine va_putF (D := (dC, dI)) (ci := 10) (v := .ref q11) (ty := .array .int) (C := RX10) (T := TX10) (N := 21) hx hb ht uX10 tyX10 tkX10 nmX10 hown hK hP hD hS 0 rfl rfl 7 (by decide) (ht _ k_3_183) (fun _ h9 => h9) rfl hin rfl (by decide +kernel) rfl rfl (Nat.le_of_ble_eq_true rfl) dX10_init_50 (fun H locs hP hD hS => ?_)
  have hP : va_P (dC, dI) cls [(q, .inr (10, [.int 0, .ref q1, .ref q3, .ref q5, .ref q7, .int 0, .ref q9, .ref q11, .int 0, .null, .null, .null, .null, .null, .null, .null, .int 0, .int 0, .int 0, .null, .null])), (q11, .inl (c12, 336, .inl (fun _ => 0)))] H := hP
  have hD : va_D A [(q, .inr (10, [.int 0, .ref q1, .ref q3, .ref q5, .ref q7, .int 0, .ref q9, .ref q11, .int 0, .null, .null, .null, .null, .null, .null, .null, .int 0, .int 0, .int 0, .null, .null])), (q11, .inl (c12, 336, .inl (fun _ => 0)))] := hD
  have hP := hP.sub (ws' := [(q, .inr (10, [.int 0, .ref q1, .ref q3, .ref q5, .ref q7, .int 0, .ref q9, .ref q11, .int 0, .null, .null, .null, .null, .null, .null, .null, .int 0, .int 0, .int 0, .null, .null]))]) [0] rfl
  have hD := hD.sub (ws' := [(q, .inr (10, [.int 0, .ref q1, .ref q3, .ref q5, .ref q7, .int 0, .ref q9, .ref q11, .int 0, .null, .null, .null, .null, .null, .null, .null, .int 0, .int 0, .int 0, .null, .null]))]) [0] (by decide) rfl
  refine lv_aload_n hx hb dX10_init_53 rfl (lv_at hl 0 rfl) ?_
  refine lv_sipush (v := 401) hx hb dX10_init_54 (by decide) ?_
  refine va_newa (atype := .int) (ty := .int) (N' := 401) (a0 := (401, .inl (fun _ => 0))) hx hb (ht _ k_1_139) rfl hK hP hD hS hA (fun _ => rfl) (by decide) (by decide) (Nat.le_of_ble_eq_true rfl) (Nat.le_of_ble_eq_true rfl) (Nat.le_of_ble_eq_true rfl) dX10_init_57 (fun q13 c14 H hK hP hD hS => ?_)
  have hK : va_K (dC, dI) cls [(c2, .byte), (c4, .byte), (c6, .int), (c8, .int), (c10, .int), (c12, .int), (c14, .int)] s := hK
  have hP : va_P (dC, dI) cls [(q, .inr (10, [.int 0, .ref q1, .ref q3, .ref q5, .ref q7, .int 0, .ref q9, .ref q11, .int 0, .null, .null, .null, .null, .null, .null, .null, .int 0, .int 0, .int 0, .null, .null])), (q13, .inl (c14, 401, .inl (fun _ => 0)))] H := hP
  have hD : va_D A [(q, .inr (10, [.int 0, .ref q1, .ref q3, .ref q5, .ref q7, .int 0, .ref q9, .ref q11, .int 0, .null, .null, .null, .null, .null, .null, .null, .int 0, .int 0, .int 0, .null, .null])), (q13, .inl (c14, 401, .inl (fun _ => 0)))] := hD
  refine W.widen (k := 7) (n := 955) (by omega) (by omega) ?_
  refine va_putF (D := (dC, dI)) (ci := 10) (v := .ref q13) (ty := .array .int) (C := RX10) (T := TX10) (N := 21) hx hb ht uX10 tyX10 tkX10 nmX10 hown hK hP hD hS 0 rfl rfl 9 (by decide) (ht _ k_3_185) (fun _ h9 => h9) rfl hin rfl (by decide +kernel) rfl rfl (Nat.le_of_ble_eq_true rfl) dX10_init_59 (fun H locs hP hD hS => ?_)
  have hP : va_P (dC, dI) cls [(q, .inr (10, [.int 0, .ref q1, .ref q3, .ref q5, .ref q7, .int 0, .ref q9, .ref q11, .int 0, .ref q13, .null, .null, .null, .null, .null, .null, .int 0, .int 0, .int 0, .null, .null])), (q13, .inl (c14, 401, .inl (fun _ => 0)))] H := hP
  have hD : va_D A [(q, .inr (10, [.int 0, .ref q1, .ref q3, .ref q5, .ref q7, .int 0, .ref q9, .ref q11, .int 0, .ref q13, .null, .null, .null, .null, .null, .null, .int 0, .int 0, .int 0, .null, .null])), (q13, .inl (c14, 401, .inl (fun _ => 0)))] := hD
  have hP := hP.sub (ws' := [(q, .inr (10, [.int 0, .ref q1, .ref q3, .ref q5, .ref q7, .int 0, .ref q9, .ref q11, .int 0, .ref q13, .null, .null, .null, .null, .null, .null, .int 0, .int 0, .int 0, .null, .null]))]) [0] rfl
  have hD := hD.sub (ws' := [(q, .inr (10, [.int 0, .ref q1, .ref q3, .ref q5, .ref q7, .int 0, .ref q9, .ref q11, .int 0, .ref q13, .null, .null, .null, .null, .null, .null, .int 0, .int 0, .int 0, .null, .null]))]) [0] (by decide) rfl
  refine lv_aload_n hx hb dX10_init_62 rfl (lv_at hl 0 rfl) ?_
  refine lv_sipush (v := 401) hx hb dX10_init_63 (by decide) ?_
  refine va_newa (atype := .int) (ty := .int) (N' := 401) (a0 := (401, .inl (fun _ => 0))) hx hb (ht _ k_1_139) rfl hK hP hD hS hA (fun _ => rfl) (by decide) (by decide) (Nat.le_of_ble_eq_true rfl) (Nat.le_of_ble_eq_true rfl) (Nat.le_of_ble_eq_true rfl) dX10_init_66 (fun q15 c16 H hK hP hD hS => ?_)
  have hK : va_K (dC, dI) cls [(c2, .byte), (c4, .byte), (c6, .int), (c8, .int), (c10, .int), (c12, .int), (c14, .int), (c16, .int)] s := hK
  have hP : va_P (dC, dI) cls [(q, .inr (10, [.int 0, .ref q1, .ref q3, .ref q5, .ref q7, .int 0, .ref q9, .ref q11, .int 0, .ref q13, .null, .null, .null, .null, .null, .null, .int 0, .int 0, .int 0, .null, .null])), (q15, .inl (c16, 401, .inl (fun _ => 0)))] H := hP
  have hD : va_D A [(q, .inr (10, [.int 0, .ref q1, .ref q3, .ref q5, .ref q7, .int 0, .ref q9, .ref q11, .int 0, .ref q13, .null, .null, .null, .null, .null, .null, .int 0, .int 0, .int 0, .null, .null])), (q15, .inl (c16, 401, .inl (fun _ => 0)))] := hD
  refine W.widen (k := 8) (n := 1356) (by omega) (by omega) ?_
  refine va_putF (D := (dC, dI)) (ci := 10) (v := .ref q15) (ty := .array .int) (C := RX10) (T := TX10) (N := 21) hx hb ht uX10 tyX10 tkX10 nmX10 hown hK hP hD hS 0 rfl rfl 10 (by decide) (ht _ k_3_186) (fun _ h9 => h9) rfl hin rfl (by decide +kernel) rfl rfl (Nat.le_of_ble_eq_true rfl) dX10_init_68 (fun H locs hP hD hS => ?_)
  have hP : va_P (dC, dI) cls [(q, .inr (10, [.int 0, .ref q1, .ref q3, .ref q5, .ref q7, .int 0, .ref q9, .ref q11, .int 0, .ref q13, .ref q15, .null, .null, .null, .null, .null, .int 0, .int 0, .int 0, .null, .null])), (q15, .inl (c16, 401, .inl (fun _ => 0)))] H := hP
  have hD : va_D A [(q, .inr (10, [.int 0, .ref q1, .ref q3, .ref q5, .ref q7, .int 0, .ref q9, .ref q11, .int 0, .ref q13, .ref q15, .null, .null, .null, .null, .null, .int 0, .int 0, .int 0, .null, .null])), (q15, .inl (c16, 401, .inl (fun _ => 0)))] := hD
  have hP := hP.sub (ws' := [(q, .inr (10, [.int 0, .ref q1, .ref q3, .ref q5, .ref q7, .int 0, .ref q9, .ref q11, .int 0, .ref q13, .ref q15, .null, .null, .null, .null, .null, .int 0, .int 0, .int 0, .null, .null]))]) [0] rfl
  have hD := hD.sub (ws' := [(q, .inr (10, [.int 0, .ref q1, .ref q3, .ref q5, .ref q7, .int 0, .ref q9, .ref q11, .int 0, .ref q13, .ref q15, .null, .null, .null, .null, .null, .int 0, .int 0, .int 0, .null, .null]))]) [0] (by decide) rfl
  refine lv_aload_n hx hb dX10_init_71 rfl (lv_at hl 0 rfl) ?_
  refine lv_sipush (v := 1024) hx hb dX10_init_72 (by decide) ?_
  refine va_newa (atype := .int) (ty := .int) (N' := 1024) (a0 := (1024, .inl (fun _ => 0))) hx hb (ht _ k_1_139) rfl hK hP hD hS hA (fun _ => rfl) (by decide) (by decide) (Nat.le_of_ble_eq_true rfl) (Nat.le_of_ble_eq_true rfl) (Nat.le_of_ble_eq_true rfl) dX10_init_75 (fun q17 c18 H hK hP hD hS => ?_)
  have hK : va_K (dC, dI) cls [(c2, .byte), (c4, .byte), (c6, .int), (c8, .int), (c10, .int), (c12, .int), (c14, .int), (c16, .int), (c18, .int)] s := hK
  have hP : va_P (dC, dI) cls [(q, .inr (10, [.int 0, .ref q1, .ref q3, .ref q5, .ref q7, .int 0, .ref q9, .ref q11, .int 0, .ref q13, .ref q15, .null, .null, .null, .null, .null, .int 0, .int 0, .int 0, .null, .null])), (q17, .inl (c18, 1024, .inl (fun _ => 0)))] H := hP
  have hD : va_D A [(q, .inr (10, [.int 0, .ref q1, .ref q3, .ref q5, .ref q7, .int 0, .ref q9, .ref q11, .int 0, .ref q13, .ref q15, .null, .null, .null, .null, .null, .int 0, .int 0, .int 0, .null, .null])), (q17, .inl (c18, 1024, .inl (fun _ => 0)))] := hD
  refine W.widen (k := 9) (n := 2380) (by omega) (by omega) ?_
  refine va_putF (D := (dC, dI)) (ci := 10) (v := .ref q17) (ty := .array .int) (C := RX10) (T := TX10) (N := 21) hx hb ht uX10 tyX10 tkX10 nmX10 hown hK hP hD hS 0 rfl rfl 11 (by decide) (ht _ k_3_187) (fun _ h9 => h9) rfl hin rfl (by decide +kernel) rfl rfl (Nat.le_of_ble_eq_true rfl) dX10_init_77 (fun H locs hP hD hS => ?_)
  have hP : va_P (dC, dI) cls [(q, .inr (10, [.int 0, .ref q1, .ref q3, .ref q5, .ref q7, .int 0, .ref q9, .ref q11, .int 0, .ref q13, .ref q15, .ref q17, .null, .null, .null, .null, .int 0, .int 0, .int 0, .null, .null])), (q17, .inl (c18, 1024, .inl (fun _ => 0)))] H := hP
  have hD : va_D A [(q, .inr (10, [.int 0, .ref q1, .ref q3, .ref q5, .ref q7, .int 0, .ref q9, .ref q11, .int 0, .ref q13, .ref q15, .ref q17, .null, .null, .null, .null, .int 0, .int 0, .int 0, .null, .null])), (q17, .inl (c18, 1024, .inl (fun _ => 0)))] := hD
  have hP := hP.sub (ws' := [(q, .inr (10, [.int 0, .ref q1, .ref q3, .ref q5, .ref q7, .int 0, .ref q9, .ref q11, .int 0, .ref q13, .ref q15, .ref q17, .null, .null, .null, .null, .int 0, .int 0, .int 0, .null, .null]))]) [0] rfl
  have hD := hD.sub (ws' := [(q, .inr (10, [.int 0, .ref q1, .ref q3, .ref q5, .ref q7, .int 0, .ref q9, .ref q11, .int 0, .ref q13, .ref q15, .ref q17, .null, .null, .null, .null, .int 0, .int 0, .int 0, .null, .null]))]) [0] (by decide) rfl
  refine lv_aload_n hx hb dX10_init_80 rfl (lv_at hl 0 rfl) ?_
  refine lv_sipush (v := 1767) hx hb dX10_init_81 (by decide) ?_
  refine va_newa (atype := .int) (ty := .int) (N' := 1767) (a0 := (1767, .inl (fun _ => 0))) hx hb (ht _ k_1_139) rfl hK hP hD hS hA (fun _ => rfl) (by decide) (by decide) (Nat.le_of_ble_eq_true rfl) (Nat.le_of_ble_eq_true rfl) (Nat.le_of_ble_eq_true rfl) dX10_init_84 (fun q19 c20 H hK hP hD hS => ?_)
  have hK : va_K (dC, dI) cls [(c2, .byte), (c4, .byte), (c6, .int), (c8, .int), (c10, .int), (c12, .int), (c14, .int), (c16, .int), (c18, .int), (c20, .int)] s := hK
  have hP : va_P (dC, dI) cls [(q, .inr (10, [.int 0, .ref q1, .ref q3, .ref q5, .ref q7, .int 0, .ref q9, .ref q11, .int 0, .ref q13, .ref q15, .ref q17, .null, .null, .null, .null, .int 0, .int 0, .int 0, .null, .null])), (q19, .inl (c20, 1767, .inl (fun _ => 0)))] H := hP
  have hD : va_D A [(q, .inr (10, [.int 0, .ref q1, .ref q3, .ref q5, .ref q7, .int 0, .ref q9, .ref q11, .int 0, .ref q13, .ref q15, .ref q17, .null, .null, .null, .null, .int 0, .int 0, .int 0, .null, .null])), (q19, .inl (c20, 1767, .inl (fun _ => 0)))] := hD
  refine W.widen (k := 10) (n := 4147) (by omega) (by omega) ?_
  refine va_putF (D := (dC, dI)) (ci := 10) (v := .ref q19) (ty := .array .int) (C := RX10) (T := TX10) (N := 21) hx hb ht uX10 tyX10 tkX10 nmX10 hown hK hP hD hS 0 rfl rfl 12 (by decide) (ht _ k_3_188) (fun _ h9 => h9) rfl hin rfl (by decide +kernel) rfl rfl (Nat.le_of_ble_eq_true rfl) dX10_init_86 (fun H locs hP hD hS => ?_)
  have hP : va_P (dC, dI) cls [(q, .inr (10, [.int 0, .ref q1, .ref q3, .ref q5, .ref q7, .int 0, .ref q9, .ref q11, .int 0, .ref q13, .ref q15, .ref q17, .ref q19, .null, .null, .null, .int 0, .int 0, .int 0, .null, .null])), (q19, .inl (c20, 1767, .inl (fun _ => 0)))] H := hP
  have hD : va_D A [(q, .inr (10, [.int 0, .ref q1, .ref q3, .ref q5, .ref q7, .int 0, .ref q9, .ref q11, .int 0, .ref q13, .ref q15, .ref q17, .ref q19, .null, .null, .null, .int 0, .int 0, .int 0, .null, .null])), (q19, .inl (c20, 1767, .inl (fun _ => 0)))] := hD
  have hP := hP.sub (ws' := [(q, .inr (10, [.int 0, .ref q1, .ref q3, .ref q5, .ref q7, .int 0, .ref q9, .ref q11, .int 0, .ref q13, .ref q15, .ref q17, .ref q19, .null, .null, .null, .int 0, .int 0, .int 0, .null, .null]))]) [0] rfl
  have hD := hD.sub (ws' := [(q, .inr (10, [.int 0, .ref q1, .ref q3, .ref q5, .ref q7, .int 0, .ref q9, .ref q11, .int 0, .ref q13, .ref q15, .ref q17, .ref q19, .null, .null, .null, .int 0, .int 0, .int 0, .null, .null]))]) [0] (by decide) rfl
  refine lv_aload_n hx hb dX10_init_89 rfl (lv_at hl 0 rfl) ?_
  refine lv_sipush (v := 1767) hx hb dX10_init_90 (by decide) ?_
  refine va_newa (atype := .int) (ty := .int) (N' := 1767) (a0 := (1767, .inl (fun _ => 0))) hx hb (ht _ k_1_139) rfl hK hP hD hS hA (fun _ => rfl) (by decide) (by decide) (Nat.le_of_ble_eq_true rfl) (Nat.le_of_ble_eq_true rfl) (Nat.le_of_ble_eq_true rfl) dX10_init_93 (fun q21 c22 H hK hP hD hS => ?_)
  have hK : va_K (dC, dI) cls [(c2, .byte), (c4, .byte), (c6, .int), (c8, .int), (c10, .int), (c12, .int), (c14, .int), (c16, .int), (c18, .int), (c20, .int), (c22, .int)] s := hK
  have hP : va_P (dC, dI) cls [(q, .inr (10, [.int 0, .ref q1, .ref q3, .ref q5, .ref q7, .int 0, .ref q9, .ref q11, .int 0, .ref q13, .ref q15, .ref q17, .ref q19, .null, .null, .null, .int 0, .int 0, .int 0, .null, .null])), (q21, .inl (c22, 1767, .inl (fun _ => 0)))] H := hP
  have hD : va_D A [(q, .inr (10, [.int 0, .ref q1, .ref q3, .ref q5, .ref q7, .int 0, .ref q9, .ref q11, .int 0, .ref q13, .ref q15, .ref q17, .ref q19, .null, .null, .null, .int 0, .int 0, .int 0, .null, .null])), (q21, .inl (c22, 1767, .inl (fun _ => 0)))] := hD
  refine W.widen (k := 11) (n := 5914) (by omega) (by omega) ?_
  refine va_putF (D := (dC, dI)) (ci := 10) (v := .ref q21) (ty := .array .int) (C := RX10) (T := TX10) (N := 21) hx hb ht uX10 tyX10 tkX10 nmX10 hown hK hP hD hS 0 rfl rfl 13 (by decide) (ht _ k_3_189) (fun _ h9 => h9) rfl hin rfl (by decide +kernel) rfl rfl (Nat.le_of_ble_eq_true rfl) dX10_init_95 (fun H locs hP hD hS => ?_)
  have hP : va_P (dC, dI) cls [(q, .inr (10, [.int 0, .ref q1, .ref q3, .ref q5, .ref q7, .int 0, .ref q9, .ref q11, .int 0, .ref q13, .ref q15, .ref q17, .ref q19, .ref q21, .null, .null, .int 0, .int 0, .int 0, .null, .null])), (q21, .inl (c22, 1767, .inl (fun _ => 0)))] H := hP
  have hD : va_D A [(q, .inr (10, [.int 0, .ref q1, .ref q3, .ref q5, .ref q7, .int 0, .ref q9, .ref q11, .int 0, .ref q13, .ref q15, .ref q17, .ref q19, .ref q21, .null, .null, .int 0, .int 0, .int 0, .null, .null])), (q21, .inl (c22, 1767, .inl (fun _ => 0)))] := hD
  have hP := hP.sub (ws' := [(q, .inr (10, [.int 0, .ref q1, .ref q3, .ref q5, .ref q7, .int 0, .ref q9, .ref q11, .int 0, .ref q13, .ref q15, .ref q17, .ref q19, .ref q21, .null, .null, .int 0, .int 0, .int 0, .null, .null]))]) [0] rfl
  have hD := hD.sub (ws' := [(q, .inr (10, [.int 0, .ref q1, .ref q3, .ref q5, .ref q7, .int 0, .ref q9, .ref q11, .int 0, .ref q13, .ref q15, .ref q17, .ref q19, .ref q21, .null, .null, .int 0, .int 0, .int 0, .null, .null]))]) [0] (by decide) rfl
  refine lv_aload_n hx hb dX10_init_98 rfl (lv_at hl 0 rfl) ?_
  refine lv_sipush (v := 2005) hx hb dX10_init_99 (by decide) ?_
  refine va_newa (atype := .int) (ty := .int) (N' := 2005) (a0 := (2005, .inl (fun _ => 0))) hx hb (ht _ k_1_139) rfl hK hP hD hS hA (fun _ => rfl) (by decide) (by decide) (Nat.le_of_ble_eq_true rfl) (Nat.le_of_ble_eq_true rfl) (Nat.le_of_ble_eq_true rfl) dX10_init_102 (fun q23 c24 H hK hP hD hS => ?_)
  have hK : va_K (dC, dI) cls [(c2, .byte), (c4, .byte), (c6, .int), (c8, .int), (c10, .int), (c12, .int), (c14, .int), (c16, .int), (c18, .int), (c20, .int), (c22, .int), (c24, .int)] s := hK
  have hP : va_P (dC, dI) cls [(q, .inr (10, [.int 0, .ref q1, .ref q3, .ref q5, .ref q7, .int 0, .ref q9, .ref q11, .int 0, .ref q13, .ref q15, .ref q17, .ref q19, .ref q21, .null, .null, .int 0, .int 0, .int 0, .null, .null])), (q23, .inl (c24, 2005, .inl (fun _ => 0)))] H := hP
  have hD : va_D A [(q, .inr (10, [.int 0, .ref q1, .ref q3, .ref q5, .ref q7, .int 0, .ref q9, .ref q11, .int 0, .ref q13, .ref q15, .ref q17, .ref q19, .ref q21, .null, .null, .int 0, .int 0, .int 0, .null, .null])), (q23, .inl (c24, 2005, .inl (fun _ => 0)))] := hD
  refine W.widen (k := 12) (n := 7919) (by omega) (by omega) ?_
  refine va_putF (D := (dC, dI)) (ci := 10) (v := .ref q23) (ty := .array .int) (C := RX10) (T := TX10) (N := 21) hx hb ht uX10 tyX10 tkX10 nmX10 hown hK hP hD hS 0 rfl rfl 14 (by decide) (ht _ k_3_190) (fun _ h9 => h9) rfl hin rfl (by decide +kernel) rfl rfl (Nat.le_of_ble_eq_true rfl) dX10_init_104 (fun H locs hP hD hS => ?_)
  have hP : va_P (dC, dI) cls [(q, .inr (10, [.int 0, .ref q1, .ref q3, .ref q5, .ref q7, .int 0, .ref q9, .ref q11, .int 0, .ref q13, .ref q15, .ref q17, .ref q19, .ref q21, .ref q23, .null, .int 0, .int 0, .int 0, .null, .null])), (q23, .inl (c24, 2005, .inl (fun _ => 0)))] H := hP
  have hD : va_D A [(q, .inr (10, [.int 0, .ref q1, .ref q3, .ref q5, .ref q7, .int 0, .ref q9, .ref q11, .int 0, .ref q13, .ref q15, .ref q17, .ref q19, .ref q21, .ref q23, .null, .int 0, .int 0, .int 0, .null, .null])), (q23, .inl (c24, 2005, .inl (fun _ => 0)))] := hD
  have hP := hP.sub (ws' := [(q, .inr (10, [.int 0, .ref q1, .ref q3, .ref q5, .ref q7, .int 0, .ref q9, .ref q11, .int 0, .ref q13, .ref q15, .ref q17, .ref q19, .ref q21, .ref q23, .null, .int 0, .int 0, .int 0, .null, .null]))]) [0] rfl
  have hD := hD.sub (ws' := [(q, .inr (10, [.int 0, .ref q1, .ref q3, .ref q5, .ref q7, .int 0, .ref q9, .ref q11, .int 0, .ref q13, .ref q15, .ref q17, .ref q19, .ref q21, .ref q23, .null, .int 0, .int 0, .int 0, .null, .null]))]) [0] (by decide) rfl
  refine lv_aload_n hx hb dX10_init_107 rfl (lv_at hl 0 rfl) ?_
  refine lv_sipush (v := 2005) hx hb dX10_init_108 (by decide) ?_
  refine va_newa (atype := .long) (ty := .long) (N' := 2005) (a0 := (2005, .inr (.inl (fun _ => 0)))) hx hb (ht _ k_1_138) rfl hK hP hD hS hA (fun _ => rfl) (by decide) (by decide) (Nat.le_of_ble_eq_true rfl) (Nat.le_of_ble_eq_true rfl) (Nat.le_of_ble_eq_true rfl) dX10_init_111 (fun q25 c26 H hK hP hD hS => ?_)
  have hK : va_K (dC, dI) cls [(c2, .byte), (c4, .byte), (c6, .int), (c8, .int), (c10, .int), (c12, .int), (c14, .int), (c16, .int), (c18, .int), (c20, .int), (c22, .int), (c24, .int), (c26, .long)] s := hK
  have hP : va_P (dC, dI) cls [(q, .inr (10, [.int 0, .ref q1, .ref q3, .ref q5, .ref q7, .int 0, .ref q9, .ref q11, .int 0, .ref q13, .ref q15, .ref q17, .ref q19, .ref q21, .ref q23, .null, .int 0, .int 0, .int 0, .null, .null])), (q25, .inl (c26, 2005, .inr (.inl (fun _ => 0))))] H := hP
  have hD : va_D A [(q, .inr (10, [.int 0, .ref q1, .ref q3, .ref q5, .ref q7, .int 0, .ref q9, .ref q11, .int 0, .ref q13, .ref q15, .ref q17, .ref q19, .ref q21, .ref q23, .null, .int 0, .int 0, .int 0, .null, .null])), (q25, .inl (c26, 2005, .inr (.inl (fun _ => 0))))] := hD
  refine W.widen (k := 13) (n := 9924) (by omega) (by omega) ?_
  refine va_putF (D := (dC, dI)) (ci := 10) (v := .ref q25) (ty := .array .long) (C := RX10) (T := TX10) (N := 21) hx hb ht uX10 tyX10 tkX10 nmX10 hown hK hP hD hS 0 rfl rfl 15 (by decide) (ht _ k_3_191) (fun _ h9 => h9) rfl hin rfl (by decide +kernel) rfl rfl (Nat.le_of_ble_eq_true rfl) dX10_init_113 (fun H locs hP hD hS => ?_)
  have hP : va_P (dC, dI) cls [(q, .inr (10, [.int 0, .ref q1, .ref q3, .ref q5, .ref q7, .int 0, .ref q9, .ref q11, .int 0, .ref q13, .ref q15, .ref q17, .ref q19, .ref q21, .ref q23, .ref q25, .int 0, .int 0, .int 0, .null, .null])), (q25, .inl (c26, 2005, .inr (.inl (fun _ => 0))))] H := hP
  have hD : va_D A [(q, .inr (10, [.int 0, .ref q1, .ref q3, .ref q5, .ref q7, .int 0, .ref q9, .ref q11, .int 0, .ref q13, .ref q15, .ref q17, .ref q19, .ref q21, .ref q23, .ref q25, .int 0, .int 0, .int 0, .null, .null])), (q25, .inl (c26, 2005, .inr (.inl (fun _ => 0))))] := hD
  have hP := hP.sub (ws' := [(q, .inr (10, [.int 0, .ref q1, .ref q3, .ref q5, .ref q7, .int 0, .ref q9, .ref q11, .int 0, .ref q13, .ref q15, .ref q17, .ref q19, .ref q21, .ref q23, .ref q25, .int 0, .int 0, .int 0, .null, .null]))]) [0] rfl
  have hD := hD.sub (ws' := [(q, .inr (10, [.int 0, .ref q1, .ref q3, .ref q5, .ref q7, .int 0, .ref q9, .ref q11, .int 0, .ref q13, .ref q15, .ref q17, .ref q19, .ref q21, .ref q23, .ref q25, .int 0, .int 0, .int 0, .null, .null]))]) [0] (by decide) rfl
  refine lv_aload_n hx hb dX10_init_116 rfl (lv_at hl 0 rfl) ?_
  refine lv_iconst (v := 4) hx hb dX10_init_117 (by decide) ?_
  refine va_newa (atype := .int) (ty := .int) (N' := 4) (a0 := (4, .inl (fun _ => 0))) hx hb (ht _ k_1_139) rfl hK hP hD hS hA (fun _ => rfl) (by decide) (by decide) (Nat.le_of_ble_eq_true rfl) (Nat.le_of_ble_eq_true rfl) (Nat.le_of_ble_eq_true rfl) dX10_init_118 (fun q27 c28 H hK hP hD hS => ?_)
  have hK : va_K (dC, dI) cls [(c2, .byte), (c4, .byte), (c6, .int), (c8, .int), (c10, .int), (c12, .int), (c14, .int), (c16, .int), (c18, .int), (c20, .int), (c22, .int), (c24, .int), (c26, .long), (c28, .int)] s := hK
  have hP : va_P (dC, dI) cls [(q, .inr (10, [.int 0, .ref q1, .ref q3, .ref q5, .ref q7, .int 0, .ref q9, .ref q11, .int 0, .ref q13, .ref q15, .ref q17, .ref q19, .ref q21, .ref q23, .ref q25, .int 0, .int 0, .int 0, .null, .null])), (q27, .inl (c28, 4, .inl (fun _ => 0)))] H := hP
  have hD : va_D A [(q, .inr (10, [.int 0, .ref q1, .ref q3, .ref q5, .ref q7, .int 0, .ref q9, .ref q11, .int 0, .ref q13, .ref q15, .ref q17, .ref q19, .ref q21, .ref q23, .ref q25, .int 0, .int 0, .int 0, .null, .null])), (q27, .inl (c28, 4, .inl (fun _ => 0)))] := hD
  refine W.widen (k := 14) (n := 9928) (by omega) (by omega) ?_
  refine va_putF (D := (dC, dI)) (ci := 10) (v := .ref q27) (ty := .array .int) (C := RX10) (T := TX10) (N := 21) hx hb ht uX10 tyX10 tkX10 nmX10 hown hK hP hD hS 0 rfl rfl 19 (by decide) (ht _ k_3_196) (fun _ h9 => h9) rfl hin rfl (by decide +kernel) rfl rfl (Nat.le_of_ble_eq_true rfl) dX10_init_120 (fun H locs hP hD hS => ?_)
  have hP : va_P (dC, dI) cls [(q, .inr (10, [.int 0, .ref q1, .ref q3, .ref q5, .ref q7, .int 0, .ref q9, .ref q11, .int 0, .ref q13, .ref q15, .ref q17, .ref q19, .ref q21, .ref q23, .ref q25, .int 0, .int 0, .int 0, .ref q27, .null])), (q27, .inl (c28, 4, .inl (fun _ => 0)))] H := hP
  have hD : va_D A [(q, .inr (10, [.int 0, .ref q1, .ref q3, .ref q5, .ref q7, .int 0, .ref q9, .ref q11, .int 0, .ref q13, .ref q15, .ref q17, .ref q19, .ref q21, .ref q23, .ref q25, .int 0, .int 0, .int 0, .ref q27, .null])), (q27, .inl (c28, 4, .inl (fun _ => 0)))] := hD
  have hP := hP.sub (ws' := [(q, .inr (10, [.int 0, .ref q1, .ref q3, .ref q5, .ref q7, .int 0, .ref q9, .ref q11, .int 0, .ref q13, .ref q15, .ref q17, .ref q19, .ref q21, .ref q23, .ref q25, .int 0, .int 0, .int 0, .ref q27, .null]))]) [0] rfl
  have hD := hD.sub (ws' := [(q, .inr (10, [.int 0, .ref q1, .ref q3, .ref q5, .ref q7, .int 0, .ref q9, .ref q11, .int 0, .ref q13, .ref q15, .ref q17, .ref q19, .ref q21, .ref q23, .ref q25, .int 0, .int 0, .int 0, .ref q27, .null]))]) [0] (by decide) rfl
  refine lv_aload_n hx hb dX10_init_123 rfl (lv_at hl 0 rfl) ?_
  refine lv_bipush (v := 40) hx hb dX10_init_124 (by decide) ?_
  refine va_newa (atype := .byte) (ty := .byte) (N' := 40) (a0 := (40, .inl (fun _ => 0))) hx hb (ht _ k_1_137) rfl hK hP hD hS hA (fun _ => rfl) (by decide) (by decide) (Nat.le_of_ble_eq_true rfl) (Nat.le_of_ble_eq_true rfl) (Nat.le_of_ble_eq_true rfl) dX10_init_126 (fun q29 c30 H hK hP hD hS => ?_)
  have hK : va_K (dC, dI) cls [(c2, .byte), (c4, .byte), (c6, .int), (c8, .int), (c10, .int), (c12, .int), (c14, .int), (c16, .int), (c18, .int), (c20, .int), (c22, .int), (c24, .int), (c26, .long), (c28, .int), (c30, .byte)] s := hK
  have hP : va_P (dC, dI) cls [(q, .inr (10, [.int 0, .ref q1, .ref q3, .ref q5, .ref q7, .int 0, .ref q9, .ref q11, .int 0, .ref q13, .ref q15, .ref q17, .ref q19, .ref q21, .ref q23, .ref q25, .int 0, .int 0, .int 0, .ref q27, .null])), (q29, .inl (c30, 40, .inl (fun _ => 0)))] H := hP
  have hD : va_D A [(q, .inr (10, [.int 0, .ref q1, .ref q3, .ref q5, .ref q7, .int 0, .ref q9, .ref q11, .int 0, .ref q13, .ref q15, .ref q17, .ref q19, .ref q21, .ref q23, .ref q25, .int 0, .int 0, .int 0, .ref q27, .null])), (q29, .inl (c30, 40, .inl (fun _ => 0)))] := hD
  refine W.widen (k := 15) (n := 9968) (by omega) (by omega) ?_
  refine va_putF (D := (dC, dI)) (ci := 10) (v := .ref q29) (ty := .array .byte) (C := RX10) (T := TX10) (N := 21) hx hb ht uX10 tyX10 tkX10 nmX10 hown hK hP hD hS 0 rfl rfl 20 (by decide) (ht _ k_3_197) (fun _ h9 => h9) rfl hin rfl (by decide +kernel) rfl rfl (Nat.le_of_ble_eq_true rfl) dX10_init_128 (fun H locs hP hD hS => ?_)
  have hP : va_P (dC, dI) cls [(q, .inr (10, [.int 0, .ref q1, .ref q3, .ref q5, .ref q7, .int 0, .ref q9, .ref q11, .int 0, .ref q13, .ref q15, .ref q17, .ref q19, .ref q21, .ref q23, .ref q25, .int 0, .int 0, .int 0, .ref q27, .ref q29])), (q29, .inl (c30, 40, .inl (fun _ => 0)))] H := hP
  have hD : va_D A [(q, .inr (10, [.int 0, .ref q1, .ref q3, .ref q5, .ref q7, .int 0, .ref q9, .ref q11, .int 0, .ref q13, .ref q15, .ref q17, .ref q19, .ref q21, .ref q23, .ref q25, .int 0, .int 0, .int 0, .ref q27, .ref q29])), (q29, .inl (c30, 40, .inl (fun _ => 0)))] := hD
  have hP := hP.sub (ws' := [(q, .inr (10, [.int 0, .ref q1, .ref q3, .ref q5, .ref q7, .int 0, .ref q9, .ref q11, .int 0, .ref q13, .ref q15, .ref q17, .ref q19, .ref q21, .ref q23, .ref q25, .int 0, .int 0, .int 0, .ref q27, .ref q29]))]) [0] rfl
  have hD := hD.sub (ws' := [(q, .inr (10, [.int 0, .ref q1, .ref q3, .ref q5, .ref q7, .int 0, .ref q9, .ref q11, .int 0, .ref q13, .ref q15, .ref q17, .ref q19, .ref q21, .ref q23, .ref q25, .int 0, .int 0, .int 0, .ref q27, .ref q29]))]) [0] (by decide) rfl
  exact W.vret hx hb hr (fun t ht9 hW => ⟨⟨([.int 0, .ref q1, .ref q3, .ref q5, .ref q7, .int 0, .ref q9, .ref q11, .int 0, .ref q13, .ref q15, .ref q17, .ref q19, .ref q21, .ref q23, .ref q25, .int 0, .int 0, .int 0, .ref q27, .ref q29]), rfl, ⟨trivial, rfl, rfl, rfl⟩, by rw [ht9]; exact hP.sub [0] rfl, va_K.moved hW.alike (hK.sub [] rfl), hD.sub [0] (by decide) rfl⟩, hS.F ht9⟩) hS.2.2 dX10_init_131
set_option maxHeartbeats 4000000 in
set_option maxRecDepth 100000 in
theorem k1 (l : Launch) (dC : Nat → ClassId) (dI : Nat → Nat → Nat) (sz : Nat) (q : Nat)  : Met l yX1_init (Cond.code yX1_init cX1_init 2 none :: tb) ({ frames := 2, cells := 43, slots := 3827, locals := 33 }) (pcx [.inr (.inr (.inr (.inl "FinderHouse$Term")))] [.ref q] (dC, dI) [(q, .inr (1, [.int 0, .null, .int 0, .null, .null, .null, .int 0, .null, .null, .null, .int 0, .null, .null, .null, .int 0, .null]))] [] sz) (va_Qv (fun (u : (List Value) × Nat × ClassId × (Nat → Int32)) => match u with | (fs1, ks, cK, fk) => (True) ∧ (fs1.length = 16) ∧ (fs1[1]? = some (.ref ks))) (bw (dC, dI) (va_A [(q, .inr (1, [.int 0, .null, .int 0, .null, .null, .null, .int 0, .null, .null, .null, .int 0, .null, .null, .null, .int 0, .null]))] sz) (fun (u : (List Value) × Nat × ClassId × (Nat → Int32)) => match u with | (fs1, ks, cK, fk) => [(q, .inr (1, fs1)), (ks, .inl (cK, 4, .inl fk))]) (fun (u : (List Value) × Nat × ClassId × (Nat → Int32)) => match u with | (fs1, ks, cK, fk) => [(cK, .int)])) (va_A [(q, .inr (1, [.int 0, .null, .int 0, .null, .null, .null, .int 0, .null, .null, .null, .int 0, .null, .null, .null, .int 0, .null]))] sz)) 43 3827 (va_A [(q, .inr (1, [.int 0, .null, .int 0, .null, .null, .null, .int 0, .null, .null, .null, .int 0, .null, .null, .null, .int 0, .null]))] sz) := by
  refine Met.ofW (cc := cX1_init) (maxL := 2) (ret := none) (by decide) rfl ?_
  intro p e s m args below meth c s₁ B hml hv
  obtain ⟨rfl, hsz, hP, hK, hD0, hE⟩ := hv
  have hx := B.exec
  have hb := B.bytes
  have hr := B.returns
  have hts := atoms_spec (ws := Cond.code yX1_init cX1_init 2 none :: tb) B.pre
  have ht : ∀ w ∈ tb, w.before _ s = true := fun w h => hts w (List.mem_cons_of_mem _ h)
  have hown : s.vm.findClass RX1 = some m.cls := findClass_of_methodNamed B.named
  have hlocks := B.notSynchronized
  have hin : meth.name = "<init>" := (name_of_methodNamed B.named B.method).1
  subst hsz
  have hD := hD0.self (sz := s.heap.size)
  generalize hAe : va_A [(q, .inr (1, [.int 0, .null, .int 0, .null, .null, .null, .int 0, .null, .null, .null, .int 0, .null, .null, .null, .int 0, .null]))] s.heap.size = A at hD hE ⊢
  have hA : ∀ q : Nat, s.heap.size ≤ q → A q := fun q h => by rw [← hAe]; exact Or.inr h
  have hS : va_S A s.heap s.heap [] := va_S.rf
  have hl := lv_entry ([.ref q]) (n := 2) (Nat.le_of_ble_eq_true rfl)
  rw [lg_entry_eq]
  generalize (lg_sl ([.ref q]) ++ List.replicate (2 - (lg_sl ([.ref q])).length) Slot.unset).toArray = ls at hl ⊢
  have hl : lv_has ls 2 [(0, .ref q)] := hl
  have hP : va_P (dC, dI) cls [(q, .inr (1, [.int 0, .null, .int 0, .null, .null, .null, .int 0, .null, .null, .null, .int 0, .null, .null, .null, .int 0, .null]))] s.heap := hP
  refine lv_aload_n hx hb dX1_init_0 rfl (lv_at hl 0 rfl) ?_
  refine tk_o hx hb hown ht k_2_46 k_1_36 k_1_37 hml hl.1 dX1_init_1 (Nat.le_of_ble_eq_true rfl) (Nat.le_of_ble_eq_true rfl) ?_
  refine lv_aload_n hx hb dX1_init_4 rfl (lv_at hl 0 rfl) ?_
  refine lv_iconst (v := 4) hx hb dX1_init_5 (by decide) ?_
  refine va_newa (atype := .int) (ty := .int) (N' := 4) (a0 := (4, .inl (fun _ => 0))) hx hb (ht _ k_1_139) rfl hK hP hD hS hA (fun _ => rfl) (by decide) (by decide) (Nat.le_of_ble_eq_true rfl) (Nat.le_of_ble_eq_true rfl) (Nat.le_of_ble_eq_true rfl) dX1_init_6 (fun q1 c2 H hK hP hD hS => ?_)
  have hK : va_K (dC, dI) cls [(c2, .int)] s := hK
  have hP : va_P (dC, dI) cls [(q, .inr (1, [.int 0, .null, .int 0, .null, .null, .null, .int 0, .null, .null, .null, .int 0, .null, .null, .null, .int 0, .null])), (q1, .inl (c2, 4, .inl (fun _ => 0)))] H := hP
  have hD : va_D A [(q, .inr (1, [.int 0, .null, .int 0, .null, .null, .null, .int 0, .null, .null, .null, .int 0, .null, .null, .null, .int 0, .null])), (q1, .inl (c2, 4, .inl (fun _ => 0)))] := hD
  refine W.widen (k := 1) (n := 4) (by omega) (by omega) ?_
  refine va_putF (D := (dC, dI)) (ci := 1) (v := .ref q1) (ty := .array .int) (C := RX1) (T := TX1) (N := 16) hx hb ht uX1 tyX1 tkX1 nmX1 hown hK hP hD hS 0 rfl rfl 1 (by decide) (ht _ k_2_55) (fun _ h9 => h9) rfl hin rfl (by decide +kernel) rfl rfl (Nat.le_of_ble_eq_true rfl) dX1_init_8 (fun H locs hP hD hS => ?_)
  have hP : va_P (dC, dI) cls [(q, .inr (1, [.int 0, .ref q1, .int 0, .null, .null, .null, .int 0, .null, .null, .null, .int 0, .null, .null, .null, .int 0, .null])), (q1, .inl (c2, 4, .inl (fun _ => 0)))] H := hP
  have hD : va_D A [(q, .inr (1, [.int 0, .ref q1, .int 0, .null, .null, .null, .int 0, .null, .null, .null, .int 0, .null, .null, .null, .int 0, .null])), (q1, .inl (c2, 4, .inl (fun _ => 0)))] := hD
  refine lv_aload_n hx hb dX1_init_11 rfl (lv_at hl 0 rfl) ?_
  refine lv_bipush (v := 12) hx hb dX1_init_12 (by decide) ?_
  refine va_newa (atype := .int) (ty := .int) (N' := 12) (a0 := (12, .inl (fun _ => 0))) hx hb (ht _ k_1_139) rfl hK hP hD hS hA (fun _ => rfl) (by decide) (by decide) (Nat.le_of_ble_eq_true rfl) (Nat.le_of_ble_eq_true rfl) (Nat.le_of_ble_eq_true rfl) dX1_init_14 (fun q3 c4 H hK hP hD hS => ?_)
  have hK : va_K (dC, dI) cls [(c2, .int), (c4, .int)] s := hK
  have hP : va_P (dC, dI) cls [(q, .inr (1, [.int 0, .ref q1, .int 0, .null, .null, .null, .int 0, .null, .null, .null, .int 0, .null, .null, .null, .int 0, .null])), (q1, .inl (c2, 4, .inl (fun _ => 0))), (q3, .inl (c4, 12, .inl (fun _ => 0)))] H := hP
  have hD : va_D A [(q, .inr (1, [.int 0, .ref q1, .int 0, .null, .null, .null, .int 0, .null, .null, .null, .int 0, .null, .null, .null, .int 0, .null])), (q1, .inl (c2, 4, .inl (fun _ => 0))), (q3, .inl (c4, 12, .inl (fun _ => 0)))] := hD
  refine W.widen (k := 2) (n := 16) (by omega) (by omega) ?_
  refine va_putF (D := (dC, dI)) (ci := 1) (v := .ref q3) (ty := .array .int) (C := RX1) (T := TX1) (N := 16) hx hb ht uX1 tyX1 tkX1 nmX1 hown hK hP hD hS 0 rfl rfl 3 (by decide) (ht _ k_2_66) (fun _ h9 => h9) rfl hin rfl (by decide +kernel) rfl rfl (Nat.le_of_ble_eq_true rfl) dX1_init_16 (fun H locs hP hD hS => ?_)
  have hP : va_P (dC, dI) cls [(q, .inr (1, [.int 0, .ref q1, .int 0, .ref q3, .null, .null, .int 0, .null, .null, .null, .int 0, .null, .null, .null, .int 0, .null])), (q1, .inl (c2, 4, .inl (fun _ => 0))), (q3, .inl (c4, 12, .inl (fun _ => 0)))] H := hP
  have hD : va_D A [(q, .inr (1, [.int 0, .ref q1, .int 0, .ref q3, .null, .null, .int 0, .null, .null, .null, .int 0, .null, .null, .null, .int 0, .null])), (q1, .inl (c2, 4, .inl (fun _ => 0))), (q3, .inl (c4, 12, .inl (fun _ => 0)))] := hD
  have hP := hP.sub (ws' := [(q, .inr (1, [.int 0, .ref q1, .int 0, .ref q3, .null, .null, .int 0, .null, .null, .null, .int 0, .null, .null, .null, .int 0, .null])), (q1, .inl (c2, 4, .inl (fun _ => 0)))]) [0, 1] rfl
  have hD := hD.sub (ws' := [(q, .inr (1, [.int 0, .ref q1, .int 0, .ref q3, .null, .null, .int 0, .null, .null, .null, .int 0, .null, .null, .null, .int 0, .null])), (q1, .inl (c2, 4, .inl (fun _ => 0)))]) [0, 1] (by decide) rfl
  refine lv_aload_n hx hb dX1_init_19 rfl (lv_at hl 0 rfl) ?_
  refine lv_bipush (v := 12) hx hb dX1_init_20 (by decide) ?_
  refine va_newa (atype := .int) (ty := .int) (N' := 12) (a0 := (12, .inl (fun _ => 0))) hx hb (ht _ k_1_139) rfl hK hP hD hS hA (fun _ => rfl) (by decide) (by decide) (Nat.le_of_ble_eq_true rfl) (Nat.le_of_ble_eq_true rfl) (Nat.le_of_ble_eq_true rfl) dX1_init_22 (fun q5 c6 H hK hP hD hS => ?_)
  have hK : va_K (dC, dI) cls [(c2, .int), (c4, .int), (c6, .int)] s := hK
  have hP : va_P (dC, dI) cls [(q, .inr (1, [.int 0, .ref q1, .int 0, .ref q3, .null, .null, .int 0, .null, .null, .null, .int 0, .null, .null, .null, .int 0, .null])), (q1, .inl (c2, 4, .inl (fun _ => 0))), (q5, .inl (c6, 12, .inl (fun _ => 0)))] H := hP
  have hD : va_D A [(q, .inr (1, [.int 0, .ref q1, .int 0, .ref q3, .null, .null, .int 0, .null, .null, .null, .int 0, .null, .null, .null, .int 0, .null])), (q1, .inl (c2, 4, .inl (fun _ => 0))), (q5, .inl (c6, 12, .inl (fun _ => 0)))] := hD
  refine W.widen (k := 3) (n := 28) (by omega) (by omega) ?_
  refine va_putF (D := (dC, dI)) (ci := 1) (v := .ref q5) (ty := .array .int) (C := RX1) (T := TX1) (N := 16) hx hb ht uX1 tyX1 tkX1 nmX1 hown hK hP hD hS 0 rfl rfl 4 (by decide) (ht _ k_2_69) (fun _ h9 => h9) rfl hin rfl (by decide +kernel) rfl rfl (Nat.le_of_ble_eq_true rfl) dX1_init_24 (fun H locs hP hD hS => ?_)
  have hP : va_P (dC, dI) cls [(q, .inr (1, [.int 0, .ref q1, .int 0, .ref q3, .ref q5, .null, .int 0, .null, .null, .null, .int 0, .null, .null, .null, .int 0, .null])), (q1, .inl (c2, 4, .inl (fun _ => 0))), (q5, .inl (c6, 12, .inl (fun _ => 0)))] H := hP
  have hD : va_D A [(q, .inr (1, [.int 0, .ref q1, .int 0, .ref q3, .ref q5, .null, .int 0, .null, .null, .null, .int 0, .null, .null, .null, .int 0, .null])), (q1, .inl (c2, 4, .inl (fun _ => 0))), (q5, .inl (c6, 12, .inl (fun _ => 0)))] := hD
  have hP := hP.sub (ws' := [(q, .inr (1, [.int 0, .ref q1, .int 0, .ref q3, .ref q5, .null, .int 0, .null, .null, .null, .int 0, .null, .null, .null, .int 0, .null])), (q1, .inl (c2, 4, .inl (fun _ => 0)))]) [0, 1] rfl
  have hD := hD.sub (ws' := [(q, .inr (1, [.int 0, .ref q1, .int 0, .ref q3, .ref q5, .null, .int 0, .null, .null, .null, .int 0, .null, .null, .null, .int 0, .null])), (q1, .inl (c2, 4, .inl (fun _ => 0)))]) [0, 1] (by decide) rfl
  refine lv_aload_n hx hb dX1_init_27 rfl (lv_at hl 0 rfl) ?_
  refine lv_bipush (v := 12) hx hb dX1_init_28 (by decide) ?_
  refine va_newa (atype := .int) (ty := .int) (N' := 12) (a0 := (12, .inl (fun _ => 0))) hx hb (ht _ k_1_139) rfl hK hP hD hS hA (fun _ => rfl) (by decide) (by decide) (Nat.le_of_ble_eq_true rfl) (Nat.le_of_ble_eq_true rfl) (Nat.le_of_ble_eq_true rfl) dX1_init_30 (fun q7 c8 H hK hP hD hS => ?_)
  have hK : va_K (dC, dI) cls [(c2, .int), (c4, .int), (c6, .int), (c8, .int)] s := hK
  have hP : va_P (dC, dI) cls [(q, .inr (1, [.int 0, .ref q1, .int 0, .ref q3, .ref q5, .null, .int 0, .null, .null, .null, .int 0, .null, .null, .null, .int 0, .null])), (q1, .inl (c2, 4, .inl (fun _ => 0))), (q7, .inl (c8, 12, .inl (fun _ => 0)))] H := hP
  have hD : va_D A [(q, .inr (1, [.int 0, .ref q1, .int 0, .ref q3, .ref q5, .null, .int 0, .null, .null, .null, .int 0, .null, .null, .null, .int 0, .null])), (q1, .inl (c2, 4, .inl (fun _ => 0))), (q7, .inl (c8, 12, .inl (fun _ => 0)))] := hD
  refine W.widen (k := 4) (n := 40) (by omega) (by omega) ?_
  refine va_putF (D := (dC, dI)) (ci := 1) (v := .ref q7) (ty := .array .int) (C := RX1) (T := TX1) (N := 16) hx hb ht uX1 tyX1 tkX1 nmX1 hown hK hP hD hS 0 rfl rfl 5 (by decide) (ht _ k_2_72) (fun _ h9 => h9) rfl hin rfl (by decide +kernel) rfl rfl (Nat.le_of_ble_eq_true rfl) dX1_init_32 (fun H locs hP hD hS => ?_)
  have hP : va_P (dC, dI) cls [(q, .inr (1, [.int 0, .ref q1, .int 0, .ref q3, .ref q5, .ref q7, .int 0, .null, .null, .null, .int 0, .null, .null, .null, .int 0, .null])), (q1, .inl (c2, 4, .inl (fun _ => 0))), (q7, .inl (c8, 12, .inl (fun _ => 0)))] H := hP
  have hD : va_D A [(q, .inr (1, [.int 0, .ref q1, .int 0, .ref q3, .ref q5, .ref q7, .int 0, .null, .null, .null, .int 0, .null, .null, .null, .int 0, .null])), (q1, .inl (c2, 4, .inl (fun _ => 0))), (q7, .inl (c8, 12, .inl (fun _ => 0)))] := hD
  have hP := hP.sub (ws' := [(q, .inr (1, [.int 0, .ref q1, .int 0, .ref q3, .ref q5, .ref q7, .int 0, .null, .null, .null, .int 0, .null, .null, .null, .int 0, .null])), (q1, .inl (c2, 4, .inl (fun _ => 0)))]) [0, 1] rfl
  have hD := hD.sub (ws' := [(q, .inr (1, [.int 0, .ref q1, .int 0, .ref q3, .ref q5, .ref q7, .int 0, .null, .null, .null, .int 0, .null, .null, .null, .int 0, .null])), (q1, .inl (c2, 4, .inl (fun _ => 0)))]) [0, 1] (by decide) rfl
  refine lv_aload_n hx hb dX1_init_35 rfl (lv_at hl 0 rfl) ?_
  refine lv_bipush (v := 39) hx hb dX1_init_36 (by decide) ?_
  refine va_newa (atype := .int) (ty := .int) (N' := 39) (a0 := (39, .inl (fun _ => 0))) hx hb (ht _ k_1_139) rfl hK hP hD hS hA (fun _ => rfl) (by decide) (by decide) (Nat.le_of_ble_eq_true rfl) (Nat.le_of_ble_eq_true rfl) (Nat.le_of_ble_eq_true rfl) dX1_init_38 (fun q9 c10 H hK hP hD hS => ?_)
  have hK : va_K (dC, dI) cls [(c2, .int), (c4, .int), (c6, .int), (c8, .int), (c10, .int)] s := hK
  have hP : va_P (dC, dI) cls [(q, .inr (1, [.int 0, .ref q1, .int 0, .ref q3, .ref q5, .ref q7, .int 0, .null, .null, .null, .int 0, .null, .null, .null, .int 0, .null])), (q1, .inl (c2, 4, .inl (fun _ => 0))), (q9, .inl (c10, 39, .inl (fun _ => 0)))] H := hP
  have hD : va_D A [(q, .inr (1, [.int 0, .ref q1, .int 0, .ref q3, .ref q5, .ref q7, .int 0, .null, .null, .null, .int 0, .null, .null, .null, .int 0, .null])), (q1, .inl (c2, 4, .inl (fun _ => 0))), (q9, .inl (c10, 39, .inl (fun _ => 0)))] := hD
  refine W.widen (k := 5) (n := 79) (by omega) (by omega) ?_
  refine va_putF (D := (dC, dI)) (ci := 1) (v := .ref q9) (ty := .array .int) (C := RX1) (T := TX1) (N := 16) hx hb ht uX1 tyX1 tkX1 nmX1 hown hK hP hD hS 0 rfl rfl 7 (by decide) (ht _ k_2_77) (fun _ h9 => h9) rfl hin rfl (by decide +kernel) rfl rfl (Nat.le_of_ble_eq_true rfl) dX1_init_40 (fun H locs hP hD hS => ?_)
  have hP : va_P (dC, dI) cls [(q, .inr (1, [.int 0, .ref q1, .int 0, .ref q3, .ref q5, .ref q7, .int 0, .ref q9, .null, .null, .int 0, .null, .null, .null, .int 0, .null])), (q1, .inl (c2, 4, .inl (fun _ => 0))), (q9, .inl (c10, 39, .inl (fun _ => 0)))] H := hP
  have hD : va_D A [(q, .inr (1, [.int 0, .ref q1, .int 0, .ref q3, .ref q5, .ref q7, .int 0, .ref q9, .null, .null, .int 0, .null, .null, .null, .int 0, .null])), (q1, .inl (c2, 4, .inl (fun _ => 0))), (q9, .inl (c10, 39, .inl (fun _ => 0)))] := hD
  have hP := hP.sub (ws' := [(q, .inr (1, [.int 0, .ref q1, .int 0, .ref q3, .ref q5, .ref q7, .int 0, .ref q9, .null, .null, .int 0, .null, .null, .null, .int 0, .null])), (q1, .inl (c2, 4, .inl (fun _ => 0)))]) [0, 1] rfl
  have hD := hD.sub (ws' := [(q, .inr (1, [.int 0, .ref q1, .int 0, .ref q3, .ref q5, .ref q7, .int 0, .ref q9, .null, .null, .int 0, .null, .null, .null, .int 0, .null])), (q1, .inl (c2, 4, .inl (fun _ => 0)))]) [0, 1] (by decide) rfl
  refine lv_aload_n hx hb dX1_init_43 rfl (lv_at hl 0 rfl) ?_
  refine lv_bipush (v := 12) hx hb dX1_init_44 (by decide) ?_
  refine va_newa (atype := .int) (ty := .int) (N' := 12) (a0 := (12, .inl (fun _ => 0))) hx hb (ht _ k_1_139) rfl hK hP hD hS hA (fun _ => rfl) (by decide) (by decide) (Nat.le_of_ble_eq_true rfl) (Nat.le_of_ble_eq_true rfl) (Nat.le_of_ble_eq_true rfl) dX1_init_46 (fun q11 c12 H hK hP hD hS => ?_)
  have hK : va_K (dC, dI) cls [(c2, .int), (c4, .int), (c6, .int), (c8, .int), (c10, .int), (c12, .int)] s := hK
  have hP : va_P (dC, dI) cls [(q, .inr (1, [.int 0, .ref q1, .int 0, .ref q3, .ref q5, .ref q7, .int 0, .ref q9, .null, .null, .int 0, .null, .null, .null, .int 0, .null])), (q1, .inl (c2, 4, .inl (fun _ => 0))), (q11, .inl (c12, 12, .inl (fun _ => 0)))] H := hP
  have hD : va_D A [(q, .inr (1, [.int 0, .ref q1, .int 0, .ref q3, .ref q5, .ref q7, .int 0, .ref q9, .null, .null, .int 0, .null, .null, .null, .int 0, .null])), (q1, .inl (c2, 4, .inl (fun _ => 0))), (q11, .inl (c12, 12, .inl (fun _ => 0)))] := hD
  refine W.widen (k := 6) (n := 91) (by omega) (by omega) ?_
  refine va_putF (D := (dC, dI)) (ci := 1) (v := .ref q11) (ty := .array .int) (C := RX1) (T := TX1) (N := 16) hx hb ht uX1 tyX1 tkX1 nmX1 hown hK hP hD hS 0 rfl rfl 8 (by decide) (ht _ k_2_78) (fun _ h9 => h9) rfl hin rfl (by decide +kernel) rfl rfl (Nat.le_of_ble_eq_true rfl) dX1_init_48 (fun H locs hP hD hS => ?_)
  have hP : va_P (dC, dI) cls [(q, .inr (1, [.int 0, .ref q1, .int 0, .ref q3, .ref q5, .ref q7, .int 0, .ref q9, .ref q11, .null, .int 0, .null, .null, .null, .int 0, .null])), (q1, .inl (c2, 4, .inl (fun _ => 0))), (q11, .inl (c12, 12, .inl (fun _ => 0)))] H := hP
  have hD : va_D A [(q, .inr (1, [.int 0, .ref q1, .int 0, .ref q3, .ref q5, .ref q7, .int 0, .ref q9, .ref q11, .null, .int 0, .null, .null, .null, .int 0, .null])), (q1, .inl (c2, 4, .inl (fun _ => 0))), (q11, .inl (c12, 12, .inl (fun _ => 0)))] := hD
  have hP := hP.sub (ws' := [(q, .inr (1, [.int 0, .ref q1, .int 0, .ref q3, .ref q5, .ref q7, .int 0, .ref q9, .ref q11, .null, .int 0, .null, .null, .null, .int 0, .null])), (q1, .inl (c2, 4, .inl (fun _ => 0)))]) [0, 1] rfl
  have hD := hD.sub (ws' := [(q, .inr (1, [.int 0, .ref q1, .int 0, .ref q3, .ref q5, .ref q7, .int 0, .ref q9, .ref q11, .null, .int 0, .null, .null, .null, .int 0, .null])), (q1, .inl (c2, 4, .inl (fun _ => 0)))]) [0, 1] (by decide) rfl
  refine lv_aload_n hx hb dX1_init_51 rfl (lv_at hl 0 rfl) ?_
  refine lv_bipush (v := 12) hx hb dX1_init_52 (by decide) ?_
  refine va_newa (atype := .int) (ty := .int) (N' := 12) (a0 := (12, .inl (fun _ => 0))) hx hb (ht _ k_1_139) rfl hK hP hD hS hA (fun _ => rfl) (by decide) (by decide) (Nat.le_of_ble_eq_true rfl) (Nat.le_of_ble_eq_true rfl) (Nat.le_of_ble_eq_true rfl) dX1_init_54 (fun q13 c14 H hK hP hD hS => ?_)
  have hK : va_K (dC, dI) cls [(c2, .int), (c4, .int), (c6, .int), (c8, .int), (c10, .int), (c12, .int), (c14, .int)] s := hK
  have hP : va_P (dC, dI) cls [(q, .inr (1, [.int 0, .ref q1, .int 0, .ref q3, .ref q5, .ref q7, .int 0, .ref q9, .ref q11, .null, .int 0, .null, .null, .null, .int 0, .null])), (q1, .inl (c2, 4, .inl (fun _ => 0))), (q13, .inl (c14, 12, .inl (fun _ => 0)))] H := hP
  have hD : va_D A [(q, .inr (1, [.int 0, .ref q1, .int 0, .ref q3, .ref q5, .ref q7, .int 0, .ref q9, .ref q11, .null, .int 0, .null, .null, .null, .int 0, .null])), (q1, .inl (c2, 4, .inl (fun _ => 0))), (q13, .inl (c14, 12, .inl (fun _ => 0)))] := hD
  refine W.widen (k := 7) (n := 103) (by omega) (by omega) ?_
  refine va_putF (D := (dC, dI)) (ci := 1) (v := .ref q13) (ty := .array .int) (C := RX1) (T := TX1) (N := 16) hx hb ht uX1 tyX1 tkX1 nmX1 hown hK hP hD hS 0 rfl rfl 9 (by decide) (ht _ k_2_80) (fun _ h9 => h9) rfl hin rfl (by decide +kernel) rfl rfl (Nat.le_of_ble_eq_true rfl) dX1_init_56 (fun H locs hP hD hS => ?_)
  have hP : va_P (dC, dI) cls [(q, .inr (1, [.int 0, .ref q1, .int 0, .ref q3, .ref q5, .ref q7, .int 0, .ref q9, .ref q11, .ref q13, .int 0, .null, .null, .null, .int 0, .null])), (q1, .inl (c2, 4, .inl (fun _ => 0))), (q13, .inl (c14, 12, .inl (fun _ => 0)))] H := hP
  have hD : va_D A [(q, .inr (1, [.int 0, .ref q1, .int 0, .ref q3, .ref q5, .ref q7, .int 0, .ref q9, .ref q11, .ref q13, .int 0, .null, .null, .null, .int 0, .null])), (q1, .inl (c2, 4, .inl (fun _ => 0))), (q13, .inl (c14, 12, .inl (fun _ => 0)))] := hD
  have hP := hP.sub (ws' := [(q, .inr (1, [.int 0, .ref q1, .int 0, .ref q3, .ref q5, .ref q7, .int 0, .ref q9, .ref q11, .ref q13, .int 0, .null, .null, .null, .int 0, .null])), (q1, .inl (c2, 4, .inl (fun _ => 0)))]) [0, 1] rfl
  have hD := hD.sub (ws' := [(q, .inr (1, [.int 0, .ref q1, .int 0, .ref q3, .ref q5, .ref q7, .int 0, .ref q9, .ref q11, .ref q13, .int 0, .null, .null, .null, .int 0, .null])), (q1, .inl (c2, 4, .inl (fun _ => 0)))]) [0, 1] (by decide) rfl
  refine lv_aload_n hx hb dX1_init_59 rfl (lv_at hl 0 rfl) ?_
  refine lv_iconst (v := 4) hx hb dX1_init_60 (by decide) ?_
  refine va_newa (atype := .int) (ty := .int) (N' := 4) (a0 := (4, .inl (fun _ => 0))) hx hb (ht _ k_1_139) rfl hK hP hD hS hA (fun _ => rfl) (by decide) (by decide) (Nat.le_of_ble_eq_true rfl) (Nat.le_of_ble_eq_true rfl) (Nat.le_of_ble_eq_true rfl) dX1_init_61 (fun q15 c16 H hK hP hD hS => ?_)
  have hK : va_K (dC, dI) cls [(c2, .int), (c4, .int), (c6, .int), (c8, .int), (c10, .int), (c12, .int), (c14, .int), (c16, .int)] s := hK
  have hP : va_P (dC, dI) cls [(q, .inr (1, [.int 0, .ref q1, .int 0, .ref q3, .ref q5, .ref q7, .int 0, .ref q9, .ref q11, .ref q13, .int 0, .null, .null, .null, .int 0, .null])), (q1, .inl (c2, 4, .inl (fun _ => 0))), (q15, .inl (c16, 4, .inl (fun _ => 0)))] H := hP
  have hD : va_D A [(q, .inr (1, [.int 0, .ref q1, .int 0, .ref q3, .ref q5, .ref q7, .int 0, .ref q9, .ref q11, .ref q13, .int 0, .null, .null, .null, .int 0, .null])), (q1, .inl (c2, 4, .inl (fun _ => 0))), (q15, .inl (c16, 4, .inl (fun _ => 0)))] := hD
  refine W.widen (k := 8) (n := 107) (by omega) (by omega) ?_
  refine va_putF (D := (dC, dI)) (ci := 1) (v := .ref q15) (ty := .array .int) (C := RX1) (T := TX1) (N := 16) hx hb ht uX1 tyX1 tkX1 nmX1 hown hK hP hD hS 0 rfl rfl 11 (by decide) (ht _ k_2_84) (fun _ h9 => h9) rfl hin rfl (by decide +kernel) rfl rfl (Nat.le_of_ble_eq_true rfl) dX1_init_63 (fun H locs hP hD hS => ?_)
  have hP : va_P (dC, dI) cls [(q, .inr (1, [.int 0, .ref q1, .int 0, .ref q3, .ref q5, .ref q7, .int 0, .ref q9, .ref q11, .ref q13, .int 0, .ref q15, .null, .null, .int 0, .null])), (q1, .inl (c2, 4, .inl (fun _ => 0))), (q15, .inl (c16, 4, .inl (fun _ => 0)))] H := hP
  have hD : va_D A [(q, .inr (1, [.int 0, .ref q1, .int 0, .ref q3, .ref q5, .ref q7, .int 0, .ref q9, .ref q11, .ref q13, .int 0, .ref q15, .null, .null, .int 0, .null])), (q1, .inl (c2, 4, .inl (fun _ => 0))), (q15, .inl (c16, 4, .inl (fun _ => 0)))] := hD
  have hP := hP.sub (ws' := [(q, .inr (1, [.int 0, .ref q1, .int 0, .ref q3, .ref q5, .ref q7, .int 0, .ref q9, .ref q11, .ref q13, .int 0, .ref q15, .null, .null, .int 0, .null])), (q1, .inl (c2, 4, .inl (fun _ => 0)))]) [0, 1] rfl
  have hD := hD.sub (ws' := [(q, .inr (1, [.int 0, .ref q1, .int 0, .ref q3, .ref q5, .ref q7, .int 0, .ref q9, .ref q11, .ref q13, .int 0, .ref q15, .null, .null, .int 0, .null])), (q1, .inl (c2, 4, .inl (fun _ => 0)))]) [0, 1] (by decide) rfl
  refine lv_aload_n hx hb dX1_init_66 rfl (lv_at hl 0 rfl) ?_
  refine lv_bipush (v := 8) hx hb dX1_init_67 (by decide) ?_
  refine va_newa (atype := .int) (ty := .int) (N' := 8) (a0 := (8, .inl (fun _ => 0))) hx hb (ht _ k_1_139) rfl hK hP hD hS hA (fun _ => rfl) (by decide) (by decide) (Nat.le_of_ble_eq_true rfl) (Nat.le_of_ble_eq_true rfl) (Nat.le_of_ble_eq_true rfl) dX1_init_69 (fun q17 c18 H hK hP hD hS => ?_)
  have hK : va_K (dC, dI) cls [(c2, .int), (c4, .int), (c6, .int), (c8, .int), (c10, .int), (c12, .int), (c14, .int), (c16, .int), (c18, .int)] s := hK
  have hP : va_P (dC, dI) cls [(q, .inr (1, [.int 0, .ref q1, .int 0, .ref q3, .ref q5, .ref q7, .int 0, .ref q9, .ref q11, .ref q13, .int 0, .ref q15, .null, .null, .int 0, .null])), (q1, .inl (c2, 4, .inl (fun _ => 0))), (q17, .inl (c18, 8, .inl (fun _ => 0)))] H := hP
  have hD : va_D A [(q, .inr (1, [.int 0, .ref q1, .int 0, .ref q3, .ref q5, .ref q7, .int 0, .ref q9, .ref q11, .ref q13, .int 0, .ref q15, .null, .null, .int 0, .null])), (q1, .inl (c2, 4, .inl (fun _ => 0))), (q17, .inl (c18, 8, .inl (fun _ => 0)))] := hD
  refine W.widen (k := 9) (n := 115) (by omega) (by omega) ?_
  refine va_putF (D := (dC, dI)) (ci := 1) (v := .ref q17) (ty := .array .int) (C := RX1) (T := TX1) (N := 16) hx hb ht uX1 tyX1 tkX1 nmX1 hown hK hP hD hS 0 rfl rfl 12 (by decide) (ht _ k_2_85) (fun _ h9 => h9) rfl hin rfl (by decide +kernel) rfl rfl (Nat.le_of_ble_eq_true rfl) dX1_init_71 (fun H locs hP hD hS => ?_)
  have hP : va_P (dC, dI) cls [(q, .inr (1, [.int 0, .ref q1, .int 0, .ref q3, .ref q5, .ref q7, .int 0, .ref q9, .ref q11, .ref q13, .int 0, .ref q15, .ref q17, .null, .int 0, .null])), (q1, .inl (c2, 4, .inl (fun _ => 0))), (q17, .inl (c18, 8, .inl (fun _ => 0)))] H := hP
  have hD : va_D A [(q, .inr (1, [.int 0, .ref q1, .int 0, .ref q3, .ref q5, .ref q7, .int 0, .ref q9, .ref q11, .ref q13, .int 0, .ref q15, .ref q17, .null, .int 0, .null])), (q1, .inl (c2, 4, .inl (fun _ => 0))), (q17, .inl (c18, 8, .inl (fun _ => 0)))] := hD
  have hP := hP.sub (ws' := [(q, .inr (1, [.int 0, .ref q1, .int 0, .ref q3, .ref q5, .ref q7, .int 0, .ref q9, .ref q11, .ref q13, .int 0, .ref q15, .ref q17, .null, .int 0, .null])), (q1, .inl (c2, 4, .inl (fun _ => 0)))]) [0, 1] rfl
  have hD := hD.sub (ws' := [(q, .inr (1, [.int 0, .ref q1, .int 0, .ref q3, .ref q5, .ref q7, .int 0, .ref q9, .ref q11, .ref q13, .int 0, .ref q15, .ref q17, .null, .int 0, .null])), (q1, .inl (c2, 4, .inl (fun _ => 0)))]) [0, 1] (by decide) rfl
  refine lv_aload_n hx hb dX1_init_74 rfl (lv_at hl 0 rfl) ?_
  refine lv_bipush (v := 8) hx hb dX1_init_75 (by decide) ?_
  refine va_newq (C := "FinderHouse$Term") (N' := 8) hx hb hown (ht _ k_2_47) (xf_o hE 0 rfl) hK hP hD hS hA (by decide) (by decide) (Nat.le_of_ble_eq_true rfl) (Nat.le_of_ble_eq_true rfl) (Nat.le_of_ble_eq_true rfl) dX1_init_77 (fun q19 c20 H hK hP hD hS => ?_)
  have hK : va_K (dC, dI) cls [(c2, .int), (c4, .int), (c6, .int), (c8, .int), (c10, .int), (c12, .int), (c14, .int), (c16, .int), (c18, .int), (c20, .object "FinderHouse$Term")] s := hK
  have hP : va_P (dC, dI) cls [(q, .inr (1, [.int 0, .ref q1, .int 0, .ref q3, .ref q5, .ref q7, .int 0, .ref q9, .ref q11, .ref q13, .int 0, .ref q15, .ref q17, .null, .int 0, .null])), (q1, .inl (c2, 4, .inl (fun _ => 0))), (q19, .inl (c20, 8, .inr (.inr (.inr (.inr (fun _ => none))))))] H := hP
  have hD : va_D A [(q, .inr (1, [.int 0, .ref q1, .int 0, .ref q3, .ref q5, .ref q7, .int 0, .ref q9, .ref q11, .ref q13, .int 0, .ref q15, .ref q17, .null, .int 0, .null])), (q1, .inl (c2, 4, .inl (fun _ => 0))), (q19, .inl (c20, 8, .inr (.inr (.inr (.inr (fun _ => none))))))] := hD
  refine W.widen (k := 10) (n := 123) (by omega) (by omega) ?_
  refine va_putF (D := (dC, dI)) (ci := 1) (v := .ref q19) (ty := .array (.object "FinderHouse$Term")) (C := RX1) (T := TX1) (N := 16) hx hb ht uX1 tyX1 tkX1 nmX1 hown hK hP hD hS 0 rfl rfl 13 (by decide) (ht _ k_2_86) (fun _ h9 => h9) rfl hin rfl (by decide +kernel) rfl rfl (Nat.le_of_ble_eq_true rfl) dX1_init_80 (fun H locs hP hD hS => ?_)
  have hP : va_P (dC, dI) cls [(q, .inr (1, [.int 0, .ref q1, .int 0, .ref q3, .ref q5, .ref q7, .int 0, .ref q9, .ref q11, .ref q13, .int 0, .ref q15, .ref q17, .ref q19, .int 0, .null])), (q1, .inl (c2, 4, .inl (fun _ => 0))), (q19, .inl (c20, 8, .inr (.inr (.inr (.inr (fun _ => none))))))] H := hP
  have hD : va_D A [(q, .inr (1, [.int 0, .ref q1, .int 0, .ref q3, .ref q5, .ref q7, .int 0, .ref q9, .ref q11, .ref q13, .int 0, .ref q15, .ref q17, .ref q19, .int 0, .null])), (q1, .inl (c2, 4, .inl (fun _ => 0))), (q19, .inl (c20, 8, .inr (.inr (.inr (.inr (fun _ => none))))))] := hD
  refine lv_aload_n hx hb dX1_init_83 rfl (lv_at hl 0 rfl) ?_
  refine lv_sipush (v := 768) hx hb dX1_init_84 (by decide) ?_
  refine va_newa (atype := .int) (ty := .int) (N' := 768) (a0 := (768, .inl (fun _ => 0))) hx hb (ht _ k_1_139) rfl hK hP hD hS hA (fun _ => rfl) (by decide) (by decide) (Nat.le_of_ble_eq_true rfl) (Nat.le_of_ble_eq_true rfl) (Nat.le_of_ble_eq_true rfl) dX1_init_87 (fun q21 c22 H hK hP hD hS => ?_)
  have hK : va_K (dC, dI) cls [(c2, .int), (c4, .int), (c6, .int), (c8, .int), (c10, .int), (c12, .int), (c14, .int), (c16, .int), (c18, .int), (c20, .object "FinderHouse$Term"), (c22, .int)] s := hK
  have hP : va_P (dC, dI) cls [(q, .inr (1, [.int 0, .ref q1, .int 0, .ref q3, .ref q5, .ref q7, .int 0, .ref q9, .ref q11, .ref q13, .int 0, .ref q15, .ref q17, .ref q19, .int 0, .null])), (q1, .inl (c2, 4, .inl (fun _ => 0))), (q19, .inl (c20, 8, .inr (.inr (.inr (.inr (fun _ => none)))))), (q21, .inl (c22, 768, .inl (fun _ => 0)))] H := hP
  have hD : va_D A [(q, .inr (1, [.int 0, .ref q1, .int 0, .ref q3, .ref q5, .ref q7, .int 0, .ref q9, .ref q11, .ref q13, .int 0, .ref q15, .ref q17, .ref q19, .int 0, .null])), (q1, .inl (c2, 4, .inl (fun _ => 0))), (q19, .inl (c20, 8, .inr (.inr (.inr (.inr (fun _ => none)))))), (q21, .inl (c22, 768, .inl (fun _ => 0)))] := hD
  refine W.widen (k := 11) (n := 891) (by omega) (by omega) ?_
  refine va_putF (D := (dC, dI)) (ci := 1) (v := .ref q21) (ty := .array .int) (C := RX1) (T := TX1) (N := 16) hx hb ht uX1 tyX1 tkX1 nmX1 hown hK hP hD hS 0 rfl rfl 15 (by decide) (ht _ k_2_92) (fun _ h9 => h9) rfl hin rfl (by decide +kernel) rfl rfl (Nat.le_of_ble_eq_true rfl) dX1_init_89 (fun H locs hP hD hS => ?_)
  have hP : va_P (dC, dI) cls [(q, .inr (1, [.int 0, .ref q1, .int 0, .ref q3, .ref q5, .ref q7, .int 0, .ref q9, .ref q11, .ref q13, .int 0, .ref q15, .ref q17, .ref q19, .int 0, .ref q21])), (q1, .inl (c2, 4, .inl (fun _ => 0))), (q19, .inl (c20, 8, .inr (.inr (.inr (.inr (fun _ => none)))))), (q21, .inl (c22, 768, .inl (fun _ => 0)))] H := hP
  have hD : va_D A [(q, .inr (1, [.int 0, .ref q1, .int 0, .ref q3, .ref q5, .ref q7, .int 0, .ref q9, .ref q11, .ref q13, .int 0, .ref q15, .ref q17, .ref q19, .int 0, .ref q21])), (q1, .inl (c2, 4, .inl (fun _ => 0))), (q19, .inl (c20, 8, .inr (.inr (.inr (.inr (fun _ => none)))))), (q21, .inl (c22, 768, .inl (fun _ => 0)))] := hD
  have hP := hP.sub (ws' := [(q, .inr (1, [.int 0, .ref q1, .int 0, .ref q3, .ref q5, .ref q7, .int 0, .ref q9, .ref q11, .ref q13, .int 0, .ref q15, .ref q17, .ref q19, .int 0, .ref q21])), (q1, .inl (c2, 4, .inl (fun _ => 0))), (q19, .inl (c20, 8, .inr (.inr (.inr (.inr (fun _ => none))))))]) [0, 1, 2] rfl
  have hD := hD.sub (ws' := [(q, .inr (1, [.int 0, .ref q1, .int 0, .ref q3, .ref q5, .ref q7, .int 0, .ref q9, .ref q11, .ref q13, .int 0, .ref q15, .ref q17, .ref q19, .int 0, .ref q21])), (q1, .inl (c2, 4, .inl (fun _ => 0))), (q19, .inl (c20, 8, .inr (.inr (.inr (.inr (fun _ => none))))))]) [0, 1, 2] (by decide) rfl
  refine lv_iconst (v := 0) hx hb dX1_init_92 (by decide) ?_
  refine lv_istore_n (lv' := [(1, .int 0), (0, .ref q)]) hx hb dX1_init_93 rfl hl (by decide) rfl (fun ls hl => ?_)
  refine lv_iload_n hx hb dX1_init_94 rfl (lv_at hl 0 rfl) ?_
  refine lv_aload_n hx hb dX1_init_95 rfl (lv_at hl 1 rfl) ?_
  refine va_get (D := (dC, dI)) (ci := 1) (v := .ref q19) (C := RX1) (T := TX1) (N := 16) hx hb ht uX1 hown hK hP 0 rfl rfl 13 (by decide) (ht _ k_2_86) (fun _ h9 => h9) rfl dX1_init_96 ?_
  refine va_alen (x := (8, .inr (.inr (.inr (.inr (fun _ => none)))))) (v := 8) hx hb hK hP 2 9 rfl rfl (show Int32.ofNat 8 = 8 by decide) dX1_init_99 ?_
  refine lv_icmp_ge (tgt := 124) hx hb dX1_init_100 (by decide) (fun c0 => absurd c0 (by decide)) (fun _ => ?_)
  refine lv_aload_n hx hb dX1_init_103 rfl (lv_at hl 1 rfl) ?_
  refine va_get (D := (dC, dI)) (ci := 1) (v := .ref q19) (C := RX1) (T := TX1) (N := 16) hx hb ht uX1 hown hK hP 0 rfl rfl 13 (by decide) (ht _ k_2_86) (fun _ h9 => h9) rfl dX1_init_104 ?_
  refine lv_iload_n hx hb dX1_init_107 rfl (lv_at hl 0 rfl) ?_
  refine va_new (ci := 9) (fs := [.null, .null, .null, .int 0]) (C := RX9) (T := TX9) (N := 4) hx hb ht uX9 tyX9 tkX9 hown (ht _ k_2_47) (ht _ k_1_101) (ht _ k_1_7) hK hP hD hS hA rfl (by decide +kernel) (Nat.le_of_ble_eq_true rfl) (Nat.le_of_ble_eq_true rfl) dX1_init_108 (fun q23 H hP hD hS => ?_)
  have hP : va_P (dC, dI) cls [(q, .inr (1, [.int 0, .ref q1, .int 0, .ref q3, .ref q5, .ref q7, .int 0, .ref q9, .ref q11, .ref q13, .int 0, .ref q15, .ref q17, .ref q19, .int 0, .ref q21])), (q1, .inl (c2, 4, .inl (fun _ => 0))), (q19, .inl (c20, 8, .inr (.inr (.inr (.inr (fun _ => none)))))), (q23, .inr (9, [.null, .null, .null, .int 0]))] H := hP
  have hD : va_D A [(q, .inr (1, [.int 0, .ref q1, .int 0, .ref q3, .ref q5, .ref q7, .int 0, .ref q9, .ref q11, .ref q13, .int 0, .ref q15, .ref q17, .ref q19, .int 0, .ref q21])), (q1, .inl (c2, 4, .inl (fun _ => 0))), (q19, .inl (c20, 8, .inr (.inr (.inr (.inr (fun _ => none)))))), (q23, .inr (9, [.null, .null, .null, .int 0]))] := hD
  refine W.widen (k := 12) (n := 895) (by omega) (by omega) ?_
  refine lv_dup hx hb dX1_init_111 rfl ?_
  refine lv_bipush (v := 121) hx hb dX1_init_112 (by decide) ?_
  refine ca_v (wr := [(q, .inr (1, [.int 0, .ref q1, .int 0, .ref q3, .ref q5, .ref q7, .int 0, .ref q9, .ref q11, .ref q13, .int 0, .ref q15, .ref q17, .ref q19, .int 0, .ref q21])), (q1, .inl (c2, 4, .inl (fun _ => 0))), (q19, .inl (c20, 8, .inr (.inr (.inr (.inr (fun _ => none))))))]) (va_runI (As := [.int 121]) (rest := [.ref q23, .int 0, .ref q19]) ⟨hx, hb, hml, hown, ht⟩ (k9_121 l dC dI H.size q23  ) (cwI 1 ht (gdI k_1_104) rfl rfl rfl (ht _ k_1_7) (ht _ k_2_48) (ht _ k_1_103) rfl (by decide +kernel) ⟨Nat.le_of_ble_eq_true rfl, Nat.le_of_ble_eq_true rfl⟩) ⟨pcw_blind, pcw_at hP hD hK [3] [] (by decide) rfl rfl rfl⟩ rfl rfl hl.1 rfl (lv_room (Nat.le_of_ble_eq_true rfl)) dX1_init_114 ⟨Nat.le_of_ble_eq_true rfl, Nat.le_of_ble_eq_true rfl⟩) hP hD hK hS hA [3] [0, 1, 2] rfl rfl (by decide) (by decide) (fun u H locs w25 hK hP hD hS => ?_)
  obtain ⟨F26, rfl⟩ : ∃ z, z = u := ⟨_, rfl⟩
  have hK : va_K (dC, dI) cls [(c2, .int), (c4, .int), (c6, .int), (c8, .int), (c10, .int), (c12, .int), (c14, .int), (c16, .int), (c18, .int), (c20, .object "FinderHouse$Term"), (c22, .int)] s := hK
  have hP : va_P (dC, dI) cls [(q, .inr (1, [.int 0, .ref q1, .int 0, .ref q3, .ref q5, .ref q7, .int 0, .ref q9, .ref q11, .ref q13, .int 0, .ref q15, .ref q17, .ref q19, .int 0, .ref q21])), (q1, .inl (c2, 4, .inl (fun _ => 0))), (q19, .inl (c20, 8, .inr (.inr (.inr (.inr (fun _ => none)))))), (q23, .inr (9, F26))] H := hP
  have hD : va_D A [(q, .inr (1, [.int 0, .ref q1, .int 0, .ref q3, .ref q5, .ref q7, .int 0, .ref q9, .ref q11, .ref q13, .int 0, .ref q15, .ref q17, .ref q19, .int 0, .ref q21])), (q1, .inl (c2, 4, .inl (fun _ => 0))), (q19, .inl (c20, 8, .inr (.inr (.inr (.inr (fun _ => none)))))), (q23, .inr (9, F26))] := hD
  refine W.widen (k := 15) (n := 1258) (by omega) (by omega) ?_
  obtain ⟨w25, K27, K28⟩ := w25
  refine va_astq (r := (RX9, TX9, 4)) hx hb hK hP hD hS 2 9 3 9 rfl rfl rfl rfl (by unfold vp_in; decide) dX1_init_117 (fun H locs hP hD hS => ?_)
  obtain ⟨f29, ef29⟩ : ∃ g : Nat → Option Nat, g = va_up (fun _ => none) (0 : Int32).toNatClampNeg (some q23) := ⟨_, rfl⟩
  rw [← ef29] at hP hD
  have hP : va_P (dC, dI) cls [(q, .inr (1, [.int 0, .ref q1, .int 0, .ref q3, .ref q5, .ref q7, .int 0, .ref q9, .ref q11, .ref q13, .int 0, .ref q15, .ref q17, .ref q19, .int 0, .ref q21])), (q1, .inl (c2, 4, .inl (fun _ => 0))), (q19, .inl (c20, 8, .inr (.inr (.inr (.inr f29))))), (q23, .inr (9, F26))] H := hP
  have hD : va_D A [(q, .inr (1, [.int 0, .ref q1, .int 0, .ref q3, .ref q5, .ref q7, .int 0, .ref q9, .ref q11, .ref q13, .int 0, .ref q15, .ref q17, .ref q19, .int 0, .ref q21])), (q1, .inl (c2, 4, .inl (fun _ => 0))), (q19, .inl (c20, 8, .inr (.inr (.inr (.inr f29))))), (q23, .inr (9, F26))] := hD
  have hP := hP.sub (ws' := [(q, .inr (1, [.int 0, .ref q1, .int 0, .ref q3, .ref q5, .ref q7, .int 0, .ref q9, .ref q11, .ref q13, .int 0, .ref q15, .ref q17, .ref q19, .int 0, .ref q21])), (q1, .inl (c2, 4, .inl (fun _ => 0))), (q19, .inl (c20, 8, .inr (.inr (.inr (.inr f29)))))]) [0, 1, 2] rfl
  have hD := hD.sub (ws' := [(q, .inr (1, [.int 0, .ref q1, .int 0, .ref q3, .ref q5, .ref q7, .int 0, .ref q9, .ref q11, .ref q13, .int 0, .ref q15, .ref q17, .ref q19, .int 0, .ref q21])), (q1, .inl (c2, 4, .inl (fun _ => 0))), (q19, .inl (c20, 8, .inr (.inr (.inr (.inr f29)))))]) [0, 1, 2] (by decide) rfl
  refine lv_iinc (v := 1) (lv' := [(1, .int 1), (0, .ref q)]) hx hb dX1_init_118 hl (k := 0) rfl (by decide) (by decide) rfl (fun ls hl => ?_)
  refine lv_goto (tgt := 94) hx hb dX1_init_121 (by decide) ?_
  refine lv_iload_n hx hb dX1_init_94 rfl (lv_at hl 0 rfl) ?_
  refine lv_aload_n hx hb dX1_init_95 rfl (lv_at hl 1 rfl) ?_
  refine va_get (D := (dC, dI)) (ci := 1) (v := .ref q19) (C := RX1) (T := TX1) (N := 16) hx hb ht uX1 hown hK hP 0 rfl rfl 13 (by decide) (ht _ k_2_86) (fun _ h9 => h9) rfl dX1_init_96 ?_
  refine va_alen (x := (8, .inr (.inr (.inr (.inr f29))))) (v := 8) hx hb hK hP 2 9 rfl rfl (show Int32.ofNat 8 = 8 by decide) dX1_init_99 ?_
  refine lv_icmp_ge (tgt := 124) hx hb dX1_init_100 (by decide) (fun c0 => absurd c0 (by decide)) (fun _ => ?_)
  refine lv_aload_n hx hb dX1_init_103 rfl (lv_at hl 1 rfl) ?_
  refine va_get (D := (dC, dI)) (ci := 1) (v := .ref q19) (C := RX1) (T := TX1) (N := 16) hx hb ht uX1 hown hK hP 0 rfl rfl 13 (by decide) (ht _ k_2_86) (fun _ h9 => h9) rfl dX1_init_104 ?_
  refine lv_iload_n hx hb dX1_init_107 rfl (lv_at hl 0 rfl) ?_
  refine va_new (ci := 9) (fs := [.null, .null, .null, .int 0]) (C := RX9) (T := TX9) (N := 4) hx hb ht uX9 tyX9 tkX9 hown (ht _ k_2_47) (ht _ k_1_101) (ht _ k_1_7) hK hP hD hS hA rfl (by decide +kernel) (Nat.le_of_ble_eq_true rfl) (Nat.le_of_ble_eq_true rfl) dX1_init_108 (fun q30 H hP hD hS => ?_)
  have hP : va_P (dC, dI) cls [(q, .inr (1, [.int 0, .ref q1, .int 0, .ref q3, .ref q5, .ref q7, .int 0, .ref q9, .ref q11, .ref q13, .int 0, .ref q15, .ref q17, .ref q19, .int 0, .ref q21])), (q1, .inl (c2, 4, .inl (fun _ => 0))), (q19, .inl (c20, 8, .inr (.inr (.inr (.inr f29))))), (q30, .inr (9, [.null, .null, .null, .int 0]))] H := hP
  have hD : va_D A [(q, .inr (1, [.int 0, .ref q1, .int 0, .ref q3, .ref q5, .ref q7, .int 0, .ref q9, .ref q11, .ref q13, .int 0, .ref q15, .ref q17, .ref q19, .int 0, .ref q21])), (q1, .inl (c2, 4, .inl (fun _ => 0))), (q19, .inl (c20, 8, .inr (.inr (.inr (.inr f29))))), (q30, .inr (9, [.null, .null, .null, .int 0]))] := hD
  refine W.widen (k := 16) (n := 1262) (by omega) (by omega) ?_
  refine lv_dup hx hb dX1_init_111 rfl ?_
  refine lv_bipush (v := 121) hx hb dX1_init_112 (by decide) ?_
  refine ca_v (wr := [(q, .inr (1, [.int 0, .ref q1, .int 0, .ref q3, .ref q5, .ref q7, .int 0, .ref q9, .ref q11, .ref q13, .int 0, .ref q15, .ref q17, .ref q19, .int 0, .ref q21])), (q1, .inl (c2, 4, .inl (fun _ => 0))), (q19, .inl (c20, 8, .inr (.inr (.inr (.inr f29)))))]) (va_runI (As := [.int 121]) (rest := [.ref q30, .int 1, .ref q19]) ⟨hx, hb, hml, hown, ht⟩ (k9_121 l dC dI H.size q30  ) (cwI 1 ht (gdI k_1_104) rfl rfl rfl (ht _ k_1_7) (ht _ k_2_48) (ht _ k_1_103) rfl (by decide +kernel) ⟨Nat.le_of_ble_eq_true rfl, Nat.le_of_ble_eq_true rfl⟩) ⟨pcw_blind, pcw_at hP hD hK [3] [] (by decide) rfl rfl rfl⟩ rfl rfl hl.1 rfl (lv_room (Nat.le_of_ble_eq_true rfl)) dX1_init_114 ⟨Nat.le_of_ble_eq_true rfl, Nat.le_of_ble_eq_true rfl⟩) hP hD hK hS hA [3] [0, 1, 2] rfl rfl (by decide) (by decide) (fun u H locs w32 hK hP hD hS => ?_)
  obtain ⟨F33, rfl⟩ : ∃ z, z = u := ⟨_, rfl⟩
  have hK : va_K (dC, dI) cls [(c2, .int), (c4, .int), (c6, .int), (c8, .int), (c10, .int), (c12, .int), (c14, .int), (c16, .int), (c18, .int), (c20, .object "FinderHouse$Term"), (c22, .int)] s := hK
  have hP : va_P (dC, dI) cls [(q, .inr (1, [.int 0, .ref q1, .int 0, .ref q3, .ref q5, .ref q7, .int 0, .ref q9, .ref q11, .ref q13, .int 0, .ref q15, .ref q17, .ref q19, .int 0, .ref q21])), (q1, .inl (c2, 4, .inl (fun _ => 0))), (q19, .inl (c20, 8, .inr (.inr (.inr (.inr f29))))), (q30, .inr (9, F33))] H := hP
  have hD : va_D A [(q, .inr (1, [.int 0, .ref q1, .int 0, .ref q3, .ref q5, .ref q7, .int 0, .ref q9, .ref q11, .ref q13, .int 0, .ref q15, .ref q17, .ref q19, .int 0, .ref q21])), (q1, .inl (c2, 4, .inl (fun _ => 0))), (q19, .inl (c20, 8, .inr (.inr (.inr (.inr f29))))), (q30, .inr (9, F33))] := hD
  refine W.widen (k := 19) (n := 1625) (by omega) (by omega) ?_
  obtain ⟨w32, K34, K35⟩ := w32
  refine va_astq (r := (RX9, TX9, 4)) hx hb hK hP hD hS 2 9 3 9 rfl rfl rfl rfl (by unfold vp_in; decide) dX1_init_117 (fun H locs hP hD hS => ?_)
  obtain ⟨f36, ef36⟩ : ∃ g : Nat → Option Nat, g = va_up f29 (1 : Int32).toNatClampNeg (some q30) := ⟨_, rfl⟩
  rw [← ef36] at hP hD
  have hP : va_P (dC, dI) cls [(q, .inr (1, [.int 0, .ref q1, .int 0, .ref q3, .ref q5, .ref q7, .int 0, .ref q9, .ref q11, .ref q13, .int 0, .ref q15, .ref q17, .ref q19, .int 0, .ref q21])), (q1, .inl (c2, 4, .inl (fun _ => 0))), (q19, .inl (c20, 8, .inr (.inr (.inr (.inr f36))))), (q30, .inr (9, F33))] H := hP
  have hD : va_D A [(q, .inr (1, [.int 0, .ref q1, .int 0, .ref q3, .ref q5, .ref q7, .int 0, .ref q9, .ref q11, .ref q13, .int 0, .ref q15, .ref q17, .ref q19, .int 0, .ref q21])), (q1, .inl (c2, 4, .inl (fun _ => 0))), (q19, .inl (c20, 8, .inr (.inr (.inr (.inr f36))))), (q30, .inr (9, F33))] := hD
  have hP := hP.sub (ws' := [(q, .inr (1, [.int 0, .ref q1, .int 0, .ref q3, .ref q5, .ref q7, .int 0, .ref q9, .ref q11, .ref q13, .int 0, .ref q15, .ref q17, .ref q19, .int 0, .ref q21])), (q1, .inl (c2, 4, .inl (fun _ => 0))), (q19, .inl (c20, 8, .inr (.inr (.inr (.inr f36)))))]) [0, 1, 2] rfl
  have hD := hD.sub (ws' := [(q, .inr (1, [.int 0, .ref q1, .int 0, .ref q3, .ref q5, .ref q7, .int 0, .ref q9, .ref q11, .ref q13, .int 0, .ref q15, .ref q17, .ref q19, .int 0, .ref q21])), (q1, .inl (c2, 4, .inl (fun _ => 0))), (q19, .inl (c20, 8, .inr (.inr (.inr (.inr f36)))))]) [0, 1, 2] (by decide) rfl
  refine lv_iinc (v := 2) (lv' := [(1, .int 2), (0, .ref q)]) hx hb dX1_init_118 hl (k := 0) rfl (by decide) (by decide) rfl (fun ls hl => ?_)
  refine lv_goto (tgt := 94) hx hb dX1_init_121 (by decide) ?_
  refine lv_iload_n hx hb dX1_init_94 rfl (lv_at hl 0 rfl) ?_
  refine lv_aload_n hx hb dX1_init_95 rfl (lv_at hl 1 rfl) ?_
  refine va_get (D := (dC, dI)) (ci := 1) (v := .ref q19) (C := RX1) (T := TX1) (N := 16) hx hb ht uX1 hown hK hP 0 rfl rfl 13 (by decide) (ht _ k_2_86) (fun _ h9 => h9) rfl dX1_init_96 ?_
  refine va_alen (x := (8, .inr (.inr (.inr (.inr f36))))) (v := 8) hx hb hK hP 2 9 rfl rfl (show Int32.ofNat 8 = 8 by decide) dX1_init_99 ?_
  refine lv_icmp_ge (tgt := 124) hx hb dX1_init_100 (by decide) (fun c0 => absurd c0 (by decide)) (fun _ => ?_)
  refine lv_aload_n hx hb dX1_init_103 rfl (lv_at hl 1 rfl) ?_
  refine va_get (D := (dC, dI)) (ci := 1) (v := .ref q19) (C := RX1) (T := TX1) (N := 16) hx hb ht uX1 hown hK hP 0 rfl rfl 13 (by decide) (ht _ k_2_86) (fun _ h9 => h9) rfl dX1_init_104 ?_
  refine lv_iload_n hx hb dX1_init_107 rfl (lv_at hl 0 rfl) ?_
  refine va_new (ci := 9) (fs := [.null, .null, .null, .int 0]) (C := RX9) (T := TX9) (N := 4) hx hb ht uX9 tyX9 tkX9 hown (ht _ k_2_47) (ht _ k_1_101) (ht _ k_1_7) hK hP hD hS hA rfl (by decide +kernel) (Nat.le_of_ble_eq_true rfl) (Nat.le_of_ble_eq_true rfl) dX1_init_108 (fun q37 H hP hD hS => ?_)
  have hP : va_P (dC, dI) cls [(q, .inr (1, [.int 0, .ref q1, .int 0, .ref q3, .ref q5, .ref q7, .int 0, .ref q9, .ref q11, .ref q13, .int 0, .ref q15, .ref q17, .ref q19, .int 0, .ref q21])), (q1, .inl (c2, 4, .inl (fun _ => 0))), (q19, .inl (c20, 8, .inr (.inr (.inr (.inr f36))))), (q37, .inr (9, [.null, .null, .null, .int 0]))] H := hP
  have hD : va_D A [(q, .inr (1, [.int 0, .ref q1, .int 0, .ref q3, .ref q5, .ref q7, .int 0, .ref q9, .ref q11, .ref q13, .int 0, .ref q15, .ref q17, .ref q19, .int 0, .ref q21])), (q1, .inl (c2, 4, .inl (fun _ => 0))), (q19, .inl (c20, 8, .inr (.inr (.inr (.inr f36))))), (q37, .inr (9, [.null, .null, .null, .int 0]))] := hD
  refine W.widen (k := 20) (n := 1629) (by omega) (by omega) ?_
  refine lv_dup hx hb dX1_init_111 rfl ?_
  refine lv_bipush (v := 121) hx hb dX1_init_112 (by decide) ?_
  refine ca_v (wr := [(q, .inr (1, [.int 0, .ref q1, .int 0, .ref q3, .ref q5, .ref q7, .int 0, .ref q9, .ref q11, .ref q13, .int 0, .ref q15, .ref q17, .ref q19, .int 0, .ref q21])), (q1, .inl (c2, 4, .inl (fun _ => 0))), (q19, .inl (c20, 8, .inr (.inr (.inr (.inr f36)))))]) (va_runI (As := [.int 121]) (rest := [.ref q37, .int 2, .ref q19]) ⟨hx, hb, hml, hown, ht⟩ (k9_121 l dC dI H.size q37  ) (cwI 1 ht (gdI k_1_104) rfl rfl rfl (ht _ k_1_7) (ht _ k_2_48) (ht _ k_1_103) rfl (by decide +kernel) ⟨Nat.le_of_ble_eq_true rfl, Nat.le_of_ble_eq_true rfl⟩) ⟨pcw_blind, pcw_at hP hD hK [3] [] (by decide) rfl rfl rfl⟩ rfl rfl hl.1 rfl (lv_room (Nat.le_of_ble_eq_true rfl)) dX1_init_114 ⟨Nat.le_of_ble_eq_true rfl, Nat.le_of_ble_eq_true rfl⟩) hP hD hK hS hA [3] [0, 1, 2] rfl rfl (by decide) (by decide) (fun u H locs w39 hK hP hD hS => ?_)
  obtain ⟨F40, rfl⟩ : ∃ z, z = u := ⟨_, rfl⟩
  have hK : va_K (dC, dI) cls [(c2, .int), (c4, .int), (c6, .int), (c8, .int), (c10, .int), (c12, .int), (c14, .int), (c16, .int), (c18, .int), (c20, .object "FinderHouse$Term"), (c22, .int)] s := hK
  have hP : va_P (dC, dI) cls [(q, .inr (1, [.int 0, .ref q1, .int 0, .ref q3, .ref q5, .ref q7, .int 0, .ref q9, .ref q11, .ref q13, .int 0, .ref q15, .ref q17, .ref q19, .int 0, .ref q21])), (q1, .inl (c2, 4, .inl (fun _ => 0))), (q19, .inl (c20, 8, .inr (.inr (.inr (.inr f36))))), (q37, .inr (9, F40))] H := hP
  have hD : va_D A [(q, .inr (1, [.int 0, .ref q1, .int 0, .ref q3, .ref q5, .ref q7, .int 0, .ref q9, .ref q11, .ref q13, .int 0, .ref q15, .ref q17, .ref q19, .int 0, .ref q21])), (q1, .inl (c2, 4, .inl (fun _ => 0))), (q19, .inl (c20, 8, .inr (.inr (.inr (.inr f36))))), (q37, .inr (9, F40))] := hD
  refine W.widen (k := 23) (n := 1992) (by omega) (by omega) ?_
  obtain ⟨w39, K41, K42⟩ := w39
  refine va_astq (r := (RX9, TX9, 4)) hx hb hK hP hD hS 2 9 3 9 rfl rfl rfl rfl (by unfold vp_in; decide) dX1_init_117 (fun H locs hP hD hS => ?_)
  obtain ⟨f43, ef43⟩ : ∃ g : Nat → Option Nat, g = va_up f36 (2 : Int32).toNatClampNeg (some q37) := ⟨_, rfl⟩
  rw [← ef43] at hP hD
  have hP : va_P (dC, dI) cls [(q, .inr (1, [.int 0, .ref q1, .int 0, .ref q3, .ref q5, .ref q7, .int 0, .ref q9, .ref q11, .ref q13, .int 0, .ref q15, .ref q17, .ref q19, .int 0, .ref q21])), (q1, .inl (c2, 4, .inl (fun _ => 0))), (q19, .inl (c20, 8, .inr (.inr (.inr (.inr f43))))), (q37, .inr (9, F40))] H := hP
  have hD : va_D A [(q, .inr (1, [.int 0, .ref q1, .int 0, .ref q3, .ref q5, .ref q7, .int 0, .ref q9, .ref q11, .ref q13, .int 0, .ref q15, .ref q17, .ref q19, .int 0, .ref q21])), (q1, .inl (c2, 4, .inl (fun _ => 0))), (q19, .inl (c20, 8, .inr (.inr (.inr (.inr f43))))), (q37, .inr (9, F40))] := hD
  have hP := hP.sub (ws' := [(q, .inr (1, [.int 0, .ref q1, .int 0, .ref q3, .ref q5, .ref q7, .int 0, .ref q9, .ref q11, .ref q13, .int 0, .ref q15, .ref q17, .ref q19, .int 0, .ref q21])), (q1, .inl (c2, 4, .inl (fun _ => 0))), (q19, .inl (c20, 8, .inr (.inr (.inr (.inr f43)))))]) [0, 1, 2] rfl
  have hD := hD.sub (ws' := [(q, .inr (1, [.int 0, .ref q1, .int 0, .ref q3, .ref q5, .ref q7, .int 0, .ref q9, .ref q11, .ref q13, .int 0, .ref q15, .ref q17, .ref q19, .int 0, .ref q21])), (q1, .inl (c2, 4, .inl (fun _ => 0))), (q19, .inl (c20, 8, .inr (.inr (.inr (.inr f43)))))]) [0, 1, 2] (by decide) rfl
  refine lv_iinc (v := 3) (lv' := [(1, .int 3), (0, .ref q)]) hx hb dX1_init_118 hl (k := 0) rfl (by decide) (by decide) rfl (fun ls hl => ?_)
  refine lv_goto (tgt := 94) hx hb dX1_init_121 (by decide) ?_
  refine lv_iload_n hx hb dX1_init_94 rfl (lv_at hl 0 rfl) ?_
  refine lv_aload_n hx hb dX1_init_95 rfl (lv_at hl 1 rfl) ?_
  refine va_get (D := (dC, dI)) (ci := 1) (v := .ref q19) (C := RX1) (T := TX1) (N := 16) hx hb ht uX1 hown hK hP 0 rfl rfl 13 (by decide) (ht _ k_2_86) (fun _ h9 => h9) rfl dX1_init_96 ?_
  refine va_alen (x := (8, .inr (.inr (.inr (.inr f43))))) (v := 8) hx hb hK hP 2 9 rfl rfl (show Int32.ofNat 8 = 8 by decide) dX1_init_99 ?_
  refine lv_icmp_ge (tgt := 124) hx hb dX1_init_100 (by decide) (fun c0 => absurd c0 (by decide)) (fun _ => ?_)
  refine lv_aload_n hx hb dX1_init_103 rfl (lv_at hl 1 rfl) ?_
  refine va_get (D := (dC, dI)) (ci := 1) (v := .ref q19) (C := RX1) (T := TX1) (N := 16) hx hb ht uX1 hown hK hP 0 rfl rfl 13 (by decide) (ht _ k_2_86) (fun _ h9 => h9) rfl dX1_init_104 ?_
  refine lv_iload_n hx hb dX1_init_107 rfl (lv_at hl 0 rfl) ?_
  refine va_new (ci := 9) (fs := [.null, .null, .null, .int 0]) (C := RX9) (T := TX9) (N := 4) hx hb ht uX9 tyX9 tkX9 hown (ht _ k_2_47) (ht _ k_1_101) (ht _ k_1_7) hK hP hD hS hA rfl (by decide +kernel) (Nat.le_of_ble_eq_true rfl) (Nat.le_of_ble_eq_true rfl) dX1_init_108 (fun q44 H hP hD hS => ?_)
  have hP : va_P (dC, dI) cls [(q, .inr (1, [.int 0, .ref q1, .int 0, .ref q3, .ref q5, .ref q7, .int 0, .ref q9, .ref q11, .ref q13, .int 0, .ref q15, .ref q17, .ref q19, .int 0, .ref q21])), (q1, .inl (c2, 4, .inl (fun _ => 0))), (q19, .inl (c20, 8, .inr (.inr (.inr (.inr f43))))), (q44, .inr (9, [.null, .null, .null, .int 0]))] H := hP
  have hD : va_D A [(q, .inr (1, [.int 0, .ref q1, .int 0, .ref q3, .ref q5, .ref q7, .int 0, .ref q9, .ref q11, .ref q13, .int 0, .ref q15, .ref q17, .ref q19, .int 0, .ref q21])), (q1, .inl (c2, 4, .inl (fun _ => 0))), (q19, .inl (c20, 8, .inr (.inr (.inr (.inr f43))))), (q44, .inr (9, [.null, .null, .null, .int 0]))] := hD
  refine W.widen (k := 24) (n := 1996) (by omega) (by omega) ?_
  refine lv_dup hx hb dX1_init_111 rfl ?_
  refine lv_bipush (v := 121) hx hb dX1_init_112 (by decide) ?_
  refine ca_v (wr := [(q, .inr (1, [.int 0, .ref q1, .int 0, .ref q3, .ref q5, .ref q7, .int 0, .ref q9, .ref q11, .ref q13, .int 0, .ref q15, .ref q17, .ref q19, .int 0, .ref q21])), (q1, .inl (c2, 4, .inl (fun _ => 0))), (q19, .inl (c20, 8, .inr (.inr (.inr (.inr f43)))))]) (va_runI (As := [.int 121]) (rest := [.ref q44, .int 3, .ref q19]) ⟨hx, hb, hml, hown, ht⟩ (k9_121 l dC dI H.size q44  ) (cwI 1 ht (gdI k_1_104) rfl rfl rfl (ht _ k_1_7) (ht _ k_2_48) (ht _ k_1_103) rfl (by decide +kernel) ⟨Nat.le_of_ble_eq_true rfl, Nat.le_of_ble_eq_true rfl⟩) ⟨pcw_blind, pcw_at hP hD hK [3] [] (by decide) rfl rfl rfl⟩ rfl rfl hl.1 rfl (lv_room (Nat.le_of_ble_eq_true rfl)) dX1_init_114 ⟨Nat.le_of_ble_eq_true rfl, Nat.le_of_ble_eq_true rfl⟩) hP hD hK hS hA [3] [0, 1, 2] rfl rfl (by decide) (by decide) (fun u H locs w46 hK hP hD hS => ?_)
  obtain ⟨F47, rfl⟩ : ∃ z, z = u := ⟨_, rfl⟩
  have hK : va_K (dC, dI) cls [(c2, .int), (c4, .int), (c6, .int), (c8, .int), (c10, .int), (c12, .int), (c14, .int), (c16, .int), (c18, .int), (c20, .object "FinderHouse$Term"), (c22, .int)] s := hK
  have hP : va_P (dC, dI) cls [(q, .inr (1, [.int 0, .ref q1, .int 0, .ref q3, .ref q5, .ref q7, .int 0, .ref q9, .ref q11, .ref q13, .int 0, .ref q15, .ref q17, .ref q19, .int 0, .ref q21])), (q1, .inl (c2, 4, .inl (fun _ => 0))), (q19, .inl (c20, 8, .inr (.inr (.inr (.inr f43))))), (q44, .inr (9, F47))] H := hP
  have hD : va_D A [(q, .inr (1, [.int 0, .ref q1, .int 0, .ref q3, .ref q5, .ref q7, .int 0, .ref q9, .ref q11, .ref q13, .int 0, .ref q15, .ref q17, .ref q19, .int 0, .ref q21])), (q1, .inl (c2, 4, .inl (fun _ => 0))), (q19, .inl (c20, 8, .inr (.inr (.inr (.inr f43))))), (q44, .inr (9, F47))] := hD
  refine W.widen (k := 27) (n := 2359) (by omega) (by omega) ?_
  obtain ⟨w46, K48, K49⟩ := w46
  refine va_astq (r := (RX9, TX9, 4)) hx hb hK hP hD hS 2 9 3 9 rfl rfl rfl rfl (by unfold vp_in; decide) dX1_init_117 (fun H locs hP hD hS => ?_)
  obtain ⟨f50, ef50⟩ : ∃ g : Nat → Option Nat, g = va_up f43 (3 : Int32).toNatClampNeg (some q44) := ⟨_, rfl⟩
  rw [← ef50] at hP hD
  have hP : va_P (dC, dI) cls [(q, .inr (1, [.int 0, .ref q1, .int 0, .ref q3, .ref q5, .ref q7, .int 0, .ref q9, .ref q11, .ref q13, .int 0, .ref q15, .ref q17, .ref q19, .int 0, .ref q21])), (q1, .inl (c2, 4, .inl (fun _ => 0))), (q19, .inl (c20, 8, .inr (.inr (.inr (.inr f50))))), (q44, .inr (9, F47))] H := hP
  have hD : va_D A [(q, .inr (1, [.int 0, .ref q1, .int 0, .ref q3, .ref q5, .ref q7, .int 0, .ref q9, .ref q11, .ref q13, .int 0, .ref q15, .ref q17, .ref q19, .int 0, .ref q21])), (q1, .inl (c2, 4, .inl (fun _ => 0))), (q19, .inl (c20, 8, .inr (.inr (.inr (.inr f50))))), (q44, .inr (9, F47))] := hD
  have hP := hP.sub (ws' := [(q, .inr (1, [.int 0, .ref q1, .int 0, .ref q3, .ref q5, .ref q7, .int 0, .ref q9, .ref q11, .ref q13, .int 0, .ref q15, .ref q17, .ref q19, .int 0, .ref q21])), (q1, .inl (c2, 4, .inl (fun _ => 0))), (q19, .inl (c20, 8, .inr (.inr (.inr (.inr f50)))))]) [0, 1, 2] rfl
  have hD := hD.sub (ws' := [(q, .inr (1, [.int 0, .ref q1, .int 0, .ref q3, .ref q5, .ref q7, .int 0, .ref q9, .ref q11, .ref q13, .int 0, .ref q15, .ref q17, .ref q19, .int 0, .ref q21])), (q1, .inl (c2, 4, .inl (fun _ => 0))), (q19, .inl (c20, 8, .inr (.inr (.inr (.inr f50)))))]) [0, 1, 2] (by decide) rfl
  refine lv_iinc (v := 4) (lv' := [(1, .int 4), (0, .ref q)]) hx hb dX1_init_118 hl (k := 0) rfl (by decide) (by decide) rfl (fun ls hl => ?_)
  refine lv_goto (tgt := 94) hx hb dX1_init_121 (by decide) ?_
  refine lv_iload_n hx hb dX1_init_94 rfl (lv_at hl 0 rfl) ?_
  refine lv_aload_n hx hb dX1_init_95 rfl (lv_at hl 1 rfl) ?_
  refine va_get (D := (dC, dI)) (ci := 1) (v := .ref q19) (C := RX1) (T := TX1) (N := 16) hx hb ht uX1 hown hK hP 0 rfl rfl 13 (by decide) (ht _ k_2_86) (fun _ h9 => h9) rfl dX1_init_96 ?_
  refine va_alen (x := (8, .inr (.inr (.inr (.inr f50))))) (v := 8) hx hb hK hP 2 9 rfl rfl (show Int32.ofNat 8 = 8 by decide) dX1_init_99 ?_
  refine lv_icmp_ge (tgt := 124) hx hb dX1_init_100 (by decide) (fun c0 => absurd c0 (by decide)) (fun _ => ?_)
  refine lv_aload_n hx hb dX1_init_103 rfl (lv_at hl 1 rfl) ?_
  refine va_get (D := (dC, dI)) (ci := 1) (v := .ref q19) (C := RX1) (T := TX1) (N := 16) hx hb ht uX1 hown hK hP 0 rfl rfl 13 (by decide) (ht _ k_2_86) (fun _ h9 => h9) rfl dX1_init_104 ?_
  refine lv_iload_n hx hb dX1_init_107 rfl (lv_at hl 0 rfl) ?_
  refine va_new (ci := 9) (fs := [.null, .null, .null, .int 0]) (C := RX9) (T := TX9) (N := 4) hx hb ht uX9 tyX9 tkX9 hown (ht _ k_2_47) (ht _ k_1_101) (ht _ k_1_7) hK hP hD hS hA rfl (by decide +kernel) (Nat.le_of_ble_eq_true rfl) (Nat.le_of_ble_eq_true rfl) dX1_init_108 (fun q51 H hP hD hS => ?_)
  have hP : va_P (dC, dI) cls [(q, .inr (1, [.int 0, .ref q1, .int 0, .ref q3, .ref q5, .ref q7, .int 0, .ref q9, .ref q11, .ref q13, .int 0, .ref q15, .ref q17, .ref q19, .int 0, .ref q21])), (q1, .inl (c2, 4, .inl (fun _ => 0))), (q19, .inl (c20, 8, .inr (.inr (.inr (.inr f50))))), (q51, .inr (9, [.null, .null, .null, .int 0]))] H := hP
  have hD : va_D A [(q, .inr (1, [.int 0, .ref q1, .int 0, .ref q3, .ref q5, .ref q7, .int 0, .ref q9, .ref q11, .ref q13, .int 0, .ref q15, .ref q17, .ref q19, .int 0, .ref q21])), (q1, .inl (c2, 4, .inl (fun _ => 0))), (q19, .inl (c20, 8, .inr (.inr (.inr (.inr f50))))), (q51, .inr (9, [.null, .null, .null, .int 0]))] := hD
  refine W.widen (k := 28) (n := 2363) (by omega) (by omega) ?_
  refine lv_dup hx hb dX1_init_111 rfl ?_
  refine lv_bipush (v := 121) hx hb dX1_init_112 (by decide) ?_
  refine ca_v (wr := [(q, .inr (1, [.int 0, .ref q1, .int 0, .ref q3, .ref q5, .ref q7, .int 0, .ref q9, .ref q11, .ref q13, .int 0, .ref q15, .ref q17, .ref q19, .int 0, .ref q21])), (q1, .inl (c2, 4, .inl (fun _ => 0))), (q19, .inl (c20, 8, .inr (.inr (.inr (.inr f50)))))]) (va_runI (As := [.int 121]) (rest := [.ref q51, .int 4, .ref q19]) ⟨hx, hb, hml, hown, ht⟩ (k9_121 l dC dI H.size q51  ) (cwI 1 ht (gdI k_1_104) rfl rfl rfl (ht _ k_1_7) (ht _ k_2_48) (ht _ k_1_103) rfl (by decide +kernel) ⟨Nat.le_of_ble_eq_true rfl, Nat.le_of_ble_eq_true rfl⟩) ⟨pcw_blind, pcw_at hP hD hK [3] [] (by decide) rfl rfl rfl⟩ rfl rfl hl.1 rfl (lv_room (Nat.le_of_ble_eq_true rfl)) dX1_init_114 ⟨Nat.le_of_ble_eq_true rfl, Nat.le_of_ble_eq_true rfl⟩) hP hD hK hS hA [3] [0, 1, 2] rfl rfl (by decide) (by decide) (fun u H locs w53 hK hP hD hS => ?_)
  obtain ⟨F54, rfl⟩ : ∃ z, z = u := ⟨_, rfl⟩
  have hK : va_K (dC, dI) cls [(c2, .int), (c4, .int), (c6, .int), (c8, .int), (c10, .int), (c12, .int), (c14, .int), (c16, .int), (c18, .int), (c20, .object "FinderHouse$Term"), (c22, .int)] s := hK
  have hP : va_P (dC, dI) cls [(q, .inr (1, [.int 0, .ref q1, .int 0, .ref q3, .ref q5, .ref q7, .int 0, .ref q9, .ref q11, .ref q13, .int 0, .ref q15, .ref q17, .ref q19, .int 0, .ref q21])), (q1, .inl (c2, 4, .inl (fun _ => 0))), (q19, .inl (c20, 8, .inr (.inr (.inr (.inr f50))))), (q51, .inr (9, F54))] H := hP
  have hD : va_D A [(q, .inr (1, [.int 0, .ref q1, .int 0, .ref q3, .ref q5, .ref q7, .int 0, .ref q9, .ref q11, .ref q13, .int 0, .ref q15, .ref q17, .ref q19, .int 0, .ref q21])), (q1, .inl (c2, 4, .inl (fun _ => 0))), (q19, .inl (c20, 8, .inr (.inr (.inr (.inr f50))))), (q51, .inr (9, F54))] := hD
  refine W.widen (k := 31) (n := 2726) (by omega) (by omega) ?_
  obtain ⟨w53, K55, K56⟩ := w53
  refine va_astq (r := (RX9, TX9, 4)) hx hb hK hP hD hS 2 9 3 9 rfl rfl rfl rfl (by unfold vp_in; decide) dX1_init_117 (fun H locs hP hD hS => ?_)
  obtain ⟨f57, ef57⟩ : ∃ g : Nat → Option Nat, g = va_up f50 (4 : Int32).toNatClampNeg (some q51) := ⟨_, rfl⟩
  rw [← ef57] at hP hD
  have hP : va_P (dC, dI) cls [(q, .inr (1, [.int 0, .ref q1, .int 0, .ref q3, .ref q5, .ref q7, .int 0, .ref q9, .ref q11, .ref q13, .int 0, .ref q15, .ref q17, .ref q19, .int 0, .ref q21])), (q1, .inl (c2, 4, .inl (fun _ => 0))), (q19, .inl (c20, 8, .inr (.inr (.inr (.inr f57))))), (q51, .inr (9, F54))] H := hP
  have hD : va_D A [(q, .inr (1, [.int 0, .ref q1, .int 0, .ref q3, .ref q5, .ref q7, .int 0, .ref q9, .ref q11, .ref q13, .int 0, .ref q15, .ref q17, .ref q19, .int 0, .ref q21])), (q1, .inl (c2, 4, .inl (fun _ => 0))), (q19, .inl (c20, 8, .inr (.inr (.inr (.inr f57))))), (q51, .inr (9, F54))] := hD
  have hP := hP.sub (ws' := [(q, .inr (1, [.int 0, .ref q1, .int 0, .ref q3, .ref q5, .ref q7, .int 0, .ref q9, .ref q11, .ref q13, .int 0, .ref q15, .ref q17, .ref q19, .int 0, .ref q21])), (q1, .inl (c2, 4, .inl (fun _ => 0))), (q19, .inl (c20, 8, .inr (.inr (.inr (.inr f57)))))]) [0, 1, 2] rfl
  have hD := hD.sub (ws' := [(q, .inr (1, [.int 0, .ref q1, .int 0, .ref q3, .ref q5, .ref q7, .int 0, .ref q9, .ref q11, .ref q13, .int 0, .ref q15, .ref q17, .ref q19, .int 0, .ref q21])), (q1, .inl (c2, 4, .inl (fun _ => 0))), (q19, .inl (c20, 8, .inr (.inr (.inr (.inr f57)))))]) [0, 1, 2] (by decide) rfl
  refine lv_iinc (v := 5) (lv' := [(1, .int 5), (0, .ref q)]) hx hb dX1_init_118 hl (k := 0) rfl (by decide) (by decide) rfl (fun ls hl => ?_)
  refine lv_goto (tgt := 94) hx hb dX1_init_121 (by decide) ?_
  refine lv_iload_n hx hb dX1_init_94 rfl (lv_at hl 0 rfl) ?_
  refine lv_aload_n hx hb dX1_init_95 rfl (lv_at hl 1 rfl) ?_
  refine va_get (D := (dC, dI)) (ci := 1) (v := .ref q19) (C := RX1) (T := TX1) (N := 16) hx hb ht uX1 hown hK hP 0 rfl rfl 13 (by decide) (ht _ k_2_86) (fun _ h9 => h9) rfl dX1_init_96 ?_
  refine va_alen (x := (8, .inr (.inr (.inr (.inr f57))))) (v := 8) hx hb hK hP 2 9 rfl rfl (show Int32.ofNat 8 = 8 by decide) dX1_init_99 ?_
  refine lv_icmp_ge (tgt := 124) hx hb dX1_init_100 (by decide) (fun c0 => absurd c0 (by decide)) (fun _ => ?_)
  refine lv_aload_n hx hb dX1_init_103 rfl (lv_at hl 1 rfl) ?_
  refine va_get (D := (dC, dI)) (ci := 1) (v := .ref q19) (C := RX1) (T := TX1) (N := 16) hx hb ht uX1 hown hK hP 0 rfl rfl 13 (by decide) (ht _ k_2_86) (fun _ h9 => h9) rfl dX1_init_104 ?_
  refine lv_iload_n hx hb dX1_init_107 rfl (lv_at hl 0 rfl) ?_
  refine va_new (ci := 9) (fs := [.null, .null, .null, .int 0]) (C := RX9) (T := TX9) (N := 4) hx hb ht uX9 tyX9 tkX9 hown (ht _ k_2_47) (ht _ k_1_101) (ht _ k_1_7) hK hP hD hS hA rfl (by decide +kernel) (Nat.le_of_ble_eq_true rfl) (Nat.le_of_ble_eq_true rfl) dX1_init_108 (fun q58 H hP hD hS => ?_)
  have hP : va_P (dC, dI) cls [(q, .inr (1, [.int 0, .ref q1, .int 0, .ref q3, .ref q5, .ref q7, .int 0, .ref q9, .ref q11, .ref q13, .int 0, .ref q15, .ref q17, .ref q19, .int 0, .ref q21])), (q1, .inl (c2, 4, .inl (fun _ => 0))), (q19, .inl (c20, 8, .inr (.inr (.inr (.inr f57))))), (q58, .inr (9, [.null, .null, .null, .int 0]))] H := hP
  have hD : va_D A [(q, .inr (1, [.int 0, .ref q1, .int 0, .ref q3, .ref q5, .ref q7, .int 0, .ref q9, .ref q11, .ref q13, .int 0, .ref q15, .ref q17, .ref q19, .int 0, .ref q21])), (q1, .inl (c2, 4, .inl (fun _ => 0))), (q19, .inl (c20, 8, .inr (.inr (.inr (.inr f57))))), (q58, .inr (9, [.null, .null, .null, .int 0]))] := hD
  refine W.widen (k := 32) (n := 2730) (by omega) (by omega) ?_
  refine lv_dup hx hb dX1_init_111 rfl ?_
  refine lv_bipush (v := 121) hx hb dX1_init_112 (by decide) ?_
  refine ca_v (wr := [(q, .inr (1, [.int 0, .ref q1, .int 0, .ref q3, .ref q5, .ref q7, .int 0, .ref q9, .ref q11, .ref q13, .int 0, .ref q15, .ref q17, .ref q19, .int 0, .ref q21])), (q1, .inl (c2, 4, .inl (fun _ => 0))), (q19, .inl (c20, 8, .inr (.inr (.inr (.inr f57)))))]) (va_runI (As := [.int 121]) (rest := [.ref q58, .int 5, .ref q19]) ⟨hx, hb, hml, hown, ht⟩ (k9_121 l dC dI H.size q58  ) (cwI 1 ht (gdI k_1_104) rfl rfl rfl (ht _ k_1_7) (ht _ k_2_48) (ht _ k_1_103) rfl (by decide +kernel) ⟨Nat.le_of_ble_eq_true rfl, Nat.le_of_ble_eq_true rfl⟩) ⟨pcw_blind, pcw_at hP hD hK [3] [] (by decide) rfl rfl rfl⟩ rfl rfl hl.1 rfl (lv_room (Nat.le_of_ble_eq_true rfl)) dX1_init_114 ⟨Nat.le_of_ble_eq_true rfl, Nat.le_of_ble_eq_true rfl⟩) hP hD hK hS hA [3] [0, 1, 2] rfl rfl (by decide) (by decide) (fun u H locs w60 hK hP hD hS => ?_)
  obtain ⟨F61, rfl⟩ : ∃ z, z = u := ⟨_, rfl⟩
  have hK : va_K (dC, dI) cls [(c2, .int), (c4, .int), (c6, .int), (c8, .int), (c10, .int), (c12, .int), (c14, .int), (c16, .int), (c18, .int), (c20, .object "FinderHouse$Term"), (c22, .int)] s := hK
  have hP : va_P (dC, dI) cls [(q, .inr (1, [.int 0, .ref q1, .int 0, .ref q3, .ref q5, .ref q7, .int 0, .ref q9, .ref q11, .ref q13, .int 0, .ref q15, .ref q17, .ref q19, .int 0, .ref q21])), (q1, .inl (c2, 4, .inl (fun _ => 0))), (q19, .inl (c20, 8, .inr (.inr (.inr (.inr f57))))), (q58, .inr (9, F61))] H := hP
  have hD : va_D A [(q, .inr (1, [.int 0, .ref q1, .int 0, .ref q3, .ref q5, .ref q7, .int 0, .ref q9, .ref q11, .ref q13, .int 0, .ref q15, .ref q17, .ref q19, .int 0, .ref q21])), (q1, .inl (c2, 4, .inl (fun _ => 0))), (q19, .inl (c20, 8, .inr (.inr (.inr (.inr f57))))), (q58, .inr (9, F61))] := hD
  refine W.widen (k := 35) (n := 3093) (by omega) (by omega) ?_
  obtain ⟨w60, K62, K63⟩ := w60
  refine va_astq (r := (RX9, TX9, 4)) hx hb hK hP hD hS 2 9 3 9 rfl rfl rfl rfl (by unfold vp_in; decide) dX1_init_117 (fun H locs hP hD hS => ?_)
  obtain ⟨f64, ef64⟩ : ∃ g : Nat → Option Nat, g = va_up f57 (5 : Int32).toNatClampNeg (some q58) := ⟨_, rfl⟩
  rw [← ef64] at hP hD
  have hP : va_P (dC, dI) cls [(q, .inr (1, [.int 0, .ref q1, .int 0, .ref q3, .ref q5, .ref q7, .int 0, .ref q9, .ref q11, .ref q13, .int 0, .ref q15, .ref q17, .ref q19, .int 0, .ref q21])), (q1, .inl (c2, 4, .inl (fun _ => 0))), (q19, .inl (c20, 8, .inr (.inr (.inr (.inr f64))))), (q58, .inr (9, F61))] H := hP
  have hD : va_D A [(q, .inr (1, [.int 0, .ref q1, .int 0, .ref q3, .ref q5, .ref q7, .int 0, .ref q9, .ref q11, .ref q13, .int 0, .ref q15, .ref q17, .ref q19, .int 0, .ref q21])), (q1, .inl (c2, 4, .inl (fun _ => 0))), (q19, .inl (c20, 8, .inr (.inr (.inr (.inr f64))))), (q58, .inr (9, F61))] := hD
  have hP := hP.sub (ws' := [(q, .inr (1, [.int 0, .ref q1, .int 0, .ref q3, .ref q5, .ref q7, .int 0, .ref q9, .ref q11, .ref q13, .int 0, .ref q15, .ref q17, .ref q19, .int 0, .ref q21])), (q1, .inl (c2, 4, .inl (fun _ => 0))), (q19, .inl (c20, 8, .inr (.inr (.inr (.inr f64)))))]) [0, 1, 2] rfl
  have hD := hD.sub (ws' := [(q, .inr (1, [.int 0, .ref q1, .int 0, .ref q3, .ref q5, .ref q7, .int 0, .ref q9, .ref q11, .ref q13, .int 0, .ref q15, .ref q17, .ref q19, .int 0, .ref q21])), (q1, .inl (c2, 4, .inl (fun _ => 0))), (q19, .inl (c20, 8, .inr (.inr (.inr (.inr f64)))))]) [0, 1, 2] (by decide) rfl
  refine lv_iinc (v := 6) (lv' := [(1, .int 6), (0, .ref q)]) hx hb dX1_init_118 hl (k := 0) rfl (by decide) (by decide) rfl (fun ls hl => ?_)
  refine lv_goto (tgt := 94) hx hb dX1_init_121 (by decide) ?_
  refine lv_iload_n hx hb dX1_init_94 rfl (lv_at hl 0 rfl) ?_
  refine lv_aload_n hx hb dX1_init_95 rfl (lv_at hl 1 rfl) ?_
  refine va_get (D := (dC, dI)) (ci := 1) (v := .ref q19) (C := RX1) (T := TX1) (N := 16) hx hb ht uX1 hown hK hP 0 rfl rfl 13 (by decide) (ht _ k_2_86) (fun _ h9 => h9) rfl dX1_init_96 ?_
  refine va_alen (x := (8, .inr (.inr (.inr (.inr f64))))) (v := 8) hx hb hK hP 2 9 rfl rfl (show Int32.ofNat 8 = 8 by decide) dX1_init_99 ?_
  refine lv_icmp_ge (tgt := 124) hx hb dX1_init_100 (by decide) (fun c0 => absurd c0 (by decide)) (fun _ => ?_)
  refine lv_aload_n hx hb dX1_init_103 rfl (lv_at hl 1 rfl) ?_
  refine va_get (D := (dC, dI)) (ci := 1) (v := .ref q19) (C := RX1) (T := TX1) (N := 16) hx hb ht uX1 hown hK hP 0 rfl rfl 13 (by decide) (ht _ k_2_86) (fun _ h9 => h9) rfl dX1_init_104 ?_
  refine lv_iload_n hx hb dX1_init_107 rfl (lv_at hl 0 rfl) ?_
  refine va_new (ci := 9) (fs := [.null, .null, .null, .int 0]) (C := RX9) (T := TX9) (N := 4) hx hb ht uX9 tyX9 tkX9 hown (ht _ k_2_47) (ht _ k_1_101) (ht _ k_1_7) hK hP hD hS hA rfl (by decide +kernel) (Nat.le_of_ble_eq_true rfl) (Nat.le_of_ble_eq_true rfl) dX1_init_108 (fun q65 H hP hD hS => ?_)
  have hP : va_P (dC, dI) cls [(q, .inr (1, [.int 0, .ref q1, .int 0, .ref q3, .ref q5, .ref q7, .int 0, .ref q9, .ref q11, .ref q13, .int 0, .ref q15, .ref q17, .ref q19, .int 0, .ref q21])), (q1, .inl (c2, 4, .inl (fun _ => 0))), (q19, .inl (c20, 8, .inr (.inr (.inr (.inr f64))))), (q65, .inr (9, [.null, .null, .null, .int 0]))] H := hP
  have hD : va_D A [(q, .inr (1, [.int 0, .ref q1, .int 0, .ref q3, .ref q5, .ref q7, .int 0, .ref q9, .ref q11, .ref q13, .int 0, .ref q15, .ref q17, .ref q19, .int 0, .ref q21])), (q1, .inl (c2, 4, .inl (fun _ => 0))), (q19, .inl (c20, 8, .inr (.inr (.inr (.inr f64))))), (q65, .inr (9, [.null, .null, .null, .int 0]))] := hD
  refine W.widen (k := 36) (n := 3097) (by omega) (by omega) ?_
  refine lv_dup hx hb dX1_init_111 rfl ?_
  refine lv_bipush (v := 121) hx hb dX1_init_112 (by decide) ?_
  refine ca_v (wr := [(q, .inr (1, [.int 0, .ref q1, .int 0, .ref q3, .ref q5, .ref q7, .int 0, .ref q9, .ref q11, .ref q13, .int 0, .ref q15, .ref q17, .ref q19, .int 0, .ref q21])), (q1, .inl (c2, 4, .inl (fun _ => 0))), (q19, .inl (c20, 8, .inr (.inr (.inr (.inr f64)))))]) (va_runI (As := [.int 121]) (rest := [.ref q65, .int 6, .ref q19]) ⟨hx, hb, hml, hown, ht⟩ (k9_121 l dC dI H.size q65  ) (cwI 1 ht (gdI k_1_104) rfl rfl rfl (ht _ k_1_7) (ht _ k_2_48) (ht _ k_1_103) rfl (by decide +kernel) ⟨Nat.le_of_ble_eq_true rfl, Nat.le_of_ble_eq_true rfl⟩) ⟨pcw_blind, pcw_at hP hD hK [3] [] (by decide) rfl rfl rfl⟩ rfl rfl hl.1 rfl (lv_room (Nat.le_of_ble_eq_true rfl)) dX1_init_114 ⟨Nat.le_of_ble_eq_true rfl, Nat.le_of_ble_eq_true rfl⟩) hP hD hK hS hA [3] [0, 1, 2] rfl rfl (by decide) (by decide) (fun u H locs w67 hK hP hD hS => ?_)
  obtain ⟨F68, rfl⟩ : ∃ z, z = u := ⟨_, rfl⟩
  have hK : va_K (dC, dI) cls [(c2, .int), (c4, .int), (c6, .int), (c8, .int), (c10, .int), (c12, .int), (c14, .int), (c16, .int), (c18, .int), (c20, .object "FinderHouse$Term"), (c22, .int)] s := hK
  have hP : va_P (dC, dI) cls [(q, .inr (1, [.int 0, .ref q1, .int 0, .ref q3, .ref q5, .ref q7, .int 0, .ref q9, .ref q11, .ref q13, .int 0, .ref q15, .ref q17, .ref q19, .int 0, .ref q21])), (q1, .inl (c2, 4, .inl (fun _ => 0))), (q19, .inl (c20, 8, .inr (.inr (.inr (.inr f64))))), (q65, .inr (9, F68))] H := hP
  have hD : va_D A [(q, .inr (1, [.int 0, .ref q1, .int 0, .ref q3, .ref q5, .ref q7, .int 0, .ref q9, .ref q11, .ref q13, .int 0, .ref q15, .ref q17, .ref q19, .int 0, .ref q21])), (q1, .inl (c2, 4, .inl (fun _ => 0))), (q19, .inl (c20, 8, .inr (.inr (.inr (.inr f64))))), (q65, .inr (9, F68))] := hD
  refine W.widen (k := 39) (n := 3460) (by omega) (by omega) ?_
  obtain ⟨w67, K69, K70⟩ := w67
  refine va_astq (r := (RX9, TX9, 4)) hx hb hK hP hD hS 2 9 3 9 rfl rfl rfl rfl (by unfold vp_in; decide) dX1_init_117 (fun H locs hP hD hS => ?_)
  obtain ⟨f71, ef71⟩ : ∃ g : Nat → Option Nat, g = va_up f64 (6 : Int32).toNatClampNeg (some q65) := ⟨_, rfl⟩
  rw [← ef71] at hP hD
  have hP : va_P (dC, dI) cls [(q, .inr (1, [.int 0, .ref q1, .int 0, .ref q3, .ref q5, .ref q7, .int 0, .ref q9, .ref q11, .ref q13, .int 0, .ref q15, .ref q17, .ref q19, .int 0, .ref q21])), (q1, .inl (c2, 4, .inl (fun _ => 0))), (q19, .inl (c20, 8, .inr (.inr (.inr (.inr f71))))), (q65, .inr (9, F68))] H := hP
  have hD : va_D A [(q, .inr (1, [.int 0, .ref q1, .int 0, .ref q3, .ref q5, .ref q7, .int 0, .ref q9, .ref q11, .ref q13, .int 0, .ref q15, .ref q17, .ref q19, .int 0, .ref q21])), (q1, .inl (c2, 4, .inl (fun _ => 0))), (q19, .inl (c20, 8, .inr (.inr (.inr (.inr f71))))), (q65, .inr (9, F68))] := hD
  have hP := hP.sub (ws' := [(q, .inr (1, [.int 0, .ref q1, .int 0, .ref q3, .ref q5, .ref q7, .int 0, .ref q9, .ref q11, .ref q13, .int 0, .ref q15, .ref q17, .ref q19, .int 0, .ref q21])), (q1, .inl (c2, 4, .inl (fun _ => 0))), (q19, .inl (c20, 8, .inr (.inr (.inr (.inr f71)))))]) [0, 1, 2] rfl
  have hD := hD.sub (ws' := [(q, .inr (1, [.int 0, .ref q1, .int 0, .ref q3, .ref q5, .ref q7, .int 0, .ref q9, .ref q11, .ref q13, .int 0, .ref q15, .ref q17, .ref q19, .int 0, .ref q21])), (q1, .inl (c2, 4, .inl (fun _ => 0))), (q19, .inl (c20, 8, .inr (.inr (.inr (.inr f71)))))]) [0, 1, 2] (by decide) rfl
  refine lv_iinc (v := 7) (lv' := [(1, .int 7), (0, .ref q)]) hx hb dX1_init_118 hl (k := 0) rfl (by decide) (by decide) rfl (fun ls hl => ?_)
  refine lv_goto (tgt := 94) hx hb dX1_init_121 (by decide) ?_
  refine lv_iload_n hx hb dX1_init_94 rfl (lv_at hl 0 rfl) ?_
  refine lv_aload_n hx hb dX1_init_95 rfl (lv_at hl 1 rfl) ?_
  refine va_get (D := (dC, dI)) (ci := 1) (v := .ref q19) (C := RX1) (T := TX1) (N := 16) hx hb ht uX1 hown hK hP 0 rfl rfl 13 (by decide) (ht _ k_2_86) (fun _ h9 => h9) rfl dX1_init_96 ?_
  refine va_alen (x := (8, .inr (.inr (.inr (.inr f71))))) (v := 8) hx hb hK hP 2 9 rfl rfl (show Int32.ofNat 8 = 8 by decide) dX1_init_99 ?_
  refine lv_icmp_ge (tgt := 124) hx hb dX1_init_100 (by decide) (fun c0 => absurd c0 (by decide)) (fun _ => ?_)
  refine lv_aload_n hx hb dX1_init_103 rfl (lv_at hl 1 rfl) ?_
  refine va_get (D := (dC, dI)) (ci := 1) (v := .ref q19) (C := RX1) (T := TX1) (N := 16) hx hb ht uX1 hown hK hP 0 rfl rfl 13 (by decide) (ht _ k_2_86) (fun _ h9 => h9) rfl dX1_init_104 ?_
  refine lv_iload_n hx hb dX1_init_107 rfl (lv_at hl 0 rfl) ?_
  refine va_new (ci := 9) (fs := [.null, .null, .null, .int 0]) (C := RX9) (T := TX9) (N := 4) hx hb ht uX9 tyX9 tkX9 hown (ht _ k_2_47) (ht _ k_1_101) (ht _ k_1_7) hK hP hD hS hA rfl (by decide +kernel) (Nat.le_of_ble_eq_true rfl) (Nat.le_of_ble_eq_true rfl) dX1_init_108 (fun q72 H hP hD hS => ?_)
  have hP : va_P (dC, dI) cls [(q, .inr (1, [.int 0, .ref q1, .int 0, .ref q3, .ref q5, .ref q7, .int 0, .ref q9, .ref q11, .ref q13, .int 0, .ref q15, .ref q17, .ref q19, .int 0, .ref q21])), (q1, .inl (c2, 4, .inl (fun _ => 0))), (q19, .inl (c20, 8, .inr (.inr (.inr (.inr f71))))), (q72, .inr (9, [.null, .null, .null, .int 0]))] H := hP
  have hD : va_D A [(q, .inr (1, [.int 0, .ref q1, .int 0, .ref q3, .ref q5, .ref q7, .int 0, .ref q9, .ref q11, .ref q13, .int 0, .ref q15, .ref q17, .ref q19, .int 0, .ref q21])), (q1, .inl (c2, 4, .inl (fun _ => 0))), (q19, .inl (c20, 8, .inr (.inr (.inr (.inr f71))))), (q72, .inr (9, [.null, .null, .null, .int 0]))] := hD
  refine W.widen (k := 40) (n := 3464) (by omega) (by omega) ?_
  refine lv_dup hx hb dX1_init_111 rfl ?_
  refine lv_bipush (v := 121) hx hb dX1_init_112 (by decide) ?_
  refine ca_v (wr := [(q, .inr (1, [.int 0, .ref q1, .int 0, .ref q3, .ref q5, .ref q7, .int 0, .ref q9, .ref q11, .ref q13, .int 0, .ref q15, .ref q17, .ref q19, .int 0, .ref q21])), (q1, .inl (c2, 4, .inl (fun _ => 0))), (q19, .inl (c20, 8, .inr (.inr (.inr (.inr f71)))))]) (va_runI (As := [.int 121]) (rest := [.ref q72, .int 7, .ref q19]) ⟨hx, hb, hml, hown, ht⟩ (k9_121 l dC dI H.size q72  ) (cwI 1 ht (gdI k_1_104) rfl rfl rfl (ht _ k_1_7) (ht _ k_2_48) (ht _ k_1_103) rfl (by decide +kernel) ⟨Nat.le_of_ble_eq_true rfl, Nat.le_of_ble_eq_true rfl⟩) ⟨pcw_blind, pcw_at hP hD hK [3] [] (by decide) rfl rfl rfl⟩ rfl rfl hl.1 rfl (lv_room (Nat.le_of_ble_eq_true rfl)) dX1_init_114 ⟨Nat.le_of_ble_eq_true rfl, Nat.le_of_ble_eq_true rfl⟩) hP hD hK hS hA [3] [0, 1, 2] rfl rfl (by decide) (by decide) (fun u H locs w74 hK hP hD hS => ?_)
  obtain ⟨F75, rfl⟩ : ∃ z, z = u := ⟨_, rfl⟩
  have hK : va_K (dC, dI) cls [(c2, .int), (c4, .int), (c6, .int), (c8, .int), (c10, .int), (c12, .int), (c14, .int), (c16, .int), (c18, .int), (c20, .object "FinderHouse$Term"), (c22, .int)] s := hK
  have hP : va_P (dC, dI) cls [(q, .inr (1, [.int 0, .ref q1, .int 0, .ref q3, .ref q5, .ref q7, .int 0, .ref q9, .ref q11, .ref q13, .int 0, .ref q15, .ref q17, .ref q19, .int 0, .ref q21])), (q1, .inl (c2, 4, .inl (fun _ => 0))), (q19, .inl (c20, 8, .inr (.inr (.inr (.inr f71))))), (q72, .inr (9, F75))] H := hP
  have hD : va_D A [(q, .inr (1, [.int 0, .ref q1, .int 0, .ref q3, .ref q5, .ref q7, .int 0, .ref q9, .ref q11, .ref q13, .int 0, .ref q15, .ref q17, .ref q19, .int 0, .ref q21])), (q1, .inl (c2, 4, .inl (fun _ => 0))), (q19, .inl (c20, 8, .inr (.inr (.inr (.inr f71))))), (q72, .inr (9, F75))] := hD
  refine W.widen (k := 43) (n := 3827) (by omega) (by omega) ?_
  obtain ⟨w74, K76, K77⟩ := w74
  refine va_astq (r := (RX9, TX9, 4)) hx hb hK hP hD hS 2 9 3 9 rfl rfl rfl rfl (by unfold vp_in; decide) dX1_init_117 (fun H locs hP hD hS => ?_)
  obtain ⟨f78, ef78⟩ : ∃ g : Nat → Option Nat, g = va_up f71 (7 : Int32).toNatClampNeg (some q72) := ⟨_, rfl⟩
  rw [← ef78] at hP hD
  have hP : va_P (dC, dI) cls [(q, .inr (1, [.int 0, .ref q1, .int 0, .ref q3, .ref q5, .ref q7, .int 0, .ref q9, .ref q11, .ref q13, .int 0, .ref q15, .ref q17, .ref q19, .int 0, .ref q21])), (q1, .inl (c2, 4, .inl (fun _ => 0))), (q19, .inl (c20, 8, .inr (.inr (.inr (.inr f78))))), (q72, .inr (9, F75))] H := hP
  have hD : va_D A [(q, .inr (1, [.int 0, .ref q1, .int 0, .ref q3, .ref q5, .ref q7, .int 0, .ref q9, .ref q11, .ref q13, .int 0, .ref q15, .ref q17, .ref q19, .int 0, .ref q21])), (q1, .inl (c2, 4, .inl (fun _ => 0))), (q19, .inl (c20, 8, .inr (.inr (.inr (.inr f78))))), (q72, .inr (9, F75))] := hD
  have hP := hP.sub (ws' := [(q, .inr (1, [.int 0, .ref q1, .int 0, .ref q3, .ref q5, .ref q7, .int 0, .ref q9, .ref q11, .ref q13, .int 0, .ref q15, .ref q17, .ref q19, .int 0, .ref q21])), (q1, .inl (c2, 4, .inl (fun _ => 0))), (q19, .inl (c20, 8, .inr (.inr (.inr (.inr f78)))))]) [0, 1, 2] rfl
  have hD := hD.sub (ws' := [(q, .inr (1, [.int 0, .ref q1, .int 0, .ref q3, .ref q5, .ref q7, .int 0, .ref q9, .ref q11, .ref q13, .int 0, .ref q15, .ref q17, .ref q19, .int 0, .ref q21])), (q1, .inl (c2, 4, .inl (fun _ => 0))), (q19, .inl (c20, 8, .inr (.inr (.inr (.inr f78)))))]) [0, 1, 2] (by decide) rfl
  refine lv_iinc (v := 8) (lv' := [(1, .int 8), (0, .ref q)]) hx hb dX1_init_118 hl (k := 0) rfl (by decide) (by decide) rfl (fun ls hl => ?_)
  refine lv_goto (tgt := 94) hx hb dX1_init_121 (by decide) ?_
  refine lv_iload_n hx hb dX1_init_94 rfl (lv_at hl 0 rfl) ?_
  refine lv_aload_n hx hb dX1_init_95 rfl (lv_at hl 1 rfl) ?_
  refine va_get (D := (dC, dI)) (ci := 1) (v := .ref q19) (C := RX1) (T := TX1) (N := 16) hx hb ht uX1 hown hK hP 0 rfl rfl 13 (by decide) (ht _ k_2_86) (fun _ h9 => h9) rfl dX1_init_96 ?_
  refine va_alen (x := (8, .inr (.inr (.inr (.inr f78))))) (v := 8) hx hb hK hP 2 9 rfl rfl (show Int32.ofNat 8 = 8 by decide) dX1_init_99 ?_
  refine lv_icmp_ge (tgt := 124) hx hb dX1_init_100 (by decide) (fun _ => ?_) (fun c0 => absurd c0 (by decide))
  exact W.vret hx hb hr (fun t ht9 hW => ⟨⟨([.int 0, .ref q1, .int 0, .ref q3, .ref q5, .ref q7, .int 0, .ref q9, .ref q11, .ref q13, .int 0, .ref q15, .ref q17, .ref q19, .int 0, .ref q21], q1, c2, (fun _ => 0)), rfl, ⟨trivial, rfl, rfl⟩, by rw [ht9]; exact hP.sub [0, 1] rfl, va_K.moved hW.alike (hK.sub [0] rfl), hD.sub [0, 1] (by decide) rfl⟩, hS.F ht9⟩) hS.2.2 dX1_init_124
set_option maxHeartbeats 4000000 in
set_option maxRecDepth 100000 in
theorem k3 (l : Launch) (dC : Nat → ClassId) (dI : Nat → Nat → Nat) (sz : Nat) (q : Nat) (ac : Nat)  : Met l yX3_init (Cond.code yX3_init cX3_init 2 none :: tb) ({ frames := 1, cells := 7, slots := 221807, locals := 12 }) (pcw [.ref q, .ref ac] (dC, dI) [(q, .inr (3, [.null, .null, .null, .null, .null, .null, .int 0, .int 0, .null, .null, .null, .int 0]))] [] sz) (va_Qv (fun (fs1 : List Value) => (True) ∧ (fs1.length = 12)) (bw (dC, dI) (va_A [(q, .inr (3, [.null, .null, .null, .null, .null, .null, .int 0, .int 0, .null, .null, .null, .int 0]))] sz) (fun (fs1 : List Value) => [(q, .inr (3, fs1))]) (fun (fs1 : List Value) => [])) (va_A [(q, .inr (3, [.null, .null, .null, .null, .null, .null, .int 0, .int 0, .null, .null, .null, .int 0]))] sz)) 7 221807 (va_A [(q, .inr (3, [.null, .null, .null, .null, .null, .null, .int 0, .int 0, .null, .null, .null, .int 0]))] sz) := by
  refine Met.ofW (cc := cX3_init) (maxL := 2) (ret := none) (by decide) rfl ?_
  intro p e s m args below meth c s₁ B hml hv
  obtain ⟨rfl, hsz, hP, hK, hD0⟩ := hv
  have hx := B.exec
  have hb := B.bytes
  have hr := B.returns
  have hts := atoms_spec (ws := Cond.code yX3_init cX3_init 2 none :: tb) B.pre
  have ht : ∀ w ∈ tb, w.before _ s = true := fun w h => hts w (List.mem_cons_of_mem _ h)
  have hown : s.vm.findClass RX3 = some m.cls := findClass_of_methodNamed B.named
  have hlocks := B.notSynchronized
  have hin : meth.name = "<init>" := (name_of_methodNamed B.named B.method).1
  subst hsz
  have hD := hD0.self (sz := s.heap.size)
  generalize hAe : va_A [(q, .inr (3, [.null, .null, .null, .null, .null, .null, .int 0, .int 0, .null, .null, .null, .int 0]))] s.heap.size = A at hD ⊢
  have hA : ∀ q : Nat, s.heap.size ≤ q → A q := fun q h => by rw [← hAe]; exact Or.inr h
  have hS : va_S A s.heap s.heap [] := va_S.rf
  have hl := lv_entry ([.ref q, .ref ac]) (n := 2) (Nat.le_of_ble_eq_true rfl)
  rw [lg_entry_eq]
  generalize (lg_sl ([.ref q, .ref ac]) ++ List.replicate (2 - (lg_sl ([.ref q, .ref ac])).length) Slot.unset).toArray = ls at hl ⊢
  have hl : lv_has ls 2 [(0, .ref q), (1, .ref ac)] := hl
  have hP : va_P (dC, dI) cls [(q, .inr (3, [.null, .null, .null, .null, .null, .null, .int 0, .int 0, .null, .null, .null, .int 0]))] s.heap := hP
  refine lv_aload_n hx hb dX3_init_0 rfl (lv_at hl 0 rfl) ?_
  refine tk_o hx hb hown ht k_2_141 k_1_36 k_1_37 hml hl.1 dX3_init_1 (Nat.le_of_ble_eq_true rfl) (Nat.le_of_ble_eq_true rfl) ?_
  refine lv_aload_n hx hb dX3_init_4 rfl (lv_at hl 0 rfl) ?_
  refine lv_sipush (v := 30976) hx hb dX3_init_5 (by decide) ?_
  refine va_newa (atype := .int) (ty := .int) (N' := 30976) (a0 := (30976, .inl (fun _ => 0))) hx hb (ht _ k_1_139) rfl hK hP hD hS hA (fun _ => rfl) (by decide) (by decide) (Nat.le_of_ble_eq_true rfl) (Nat.le_of_ble_eq_true rfl) (Nat.le_of_ble_eq_true rfl) dX3_init_8 (fun q1 c2 H hK hP hD hS => ?_)
  have hK : va_K (dC, dI) cls [(c2, .int)] s := hK
  have hP : va_P (dC, dI) cls [(q, .inr (3, [.null, .null, .null, .null, .null, .null, .int 0, .int 0, .null, .null, .null, .int 0])), (q1, .inl (c2, 30976, .inl (fun _ => 0)))] H := hP
  have hD : va_D A [(q, .inr (3, [.null, .null, .null, .null, .null, .null, .int 0, .int 0, .null, .null, .null, .int 0])), (q1, .inl (c2, 30976, .inl (fun _ => 0)))] := hD
  refine W.widen (k := 1) (n := 30976) (by omega) (by omega) ?_
  refine va_putF (D := (dC, dI)) (ci := 3) (v := .ref q1) (ty := .array .int) (C := RX3) (T := TX3) (N := 12) hx hb ht uX3 tyX3 tkX3 nmX3 hown hK hP hD hS 0 rfl rfl 2 (by decide) (ht _ k_2_145) (fun _ h9 => h9) rfl hin rfl (by decide +kernel) rfl rfl (Nat.le_of_ble_eq_true rfl) dX3_init_10 (fun H locs hP hD hS => ?_)
  have hP : va_P (dC, dI) cls [(q, .inr (3, [.null, .null, .ref q1, .null, .null, .null, .int 0, .int 0, .null, .null, .null, .int 0])), (q1, .inl (c2, 30976, .inl (fun _ => 0)))] H := hP
  have hD : va_D A [(q, .inr (3, [.null, .null, .ref q1, .null, .null, .null, .int 0, .int 0, .null, .null, .null, .int 0])), (q1, .inl (c2, 30976, .inl (fun _ => 0)))] := hD
  have hP := hP.sub (ws' := [(q, .inr (3, [.null, .null, .ref q1, .null, .null, .null, .int 0, .int 0, .null, .null, .null, .int 0]))]) [0] rfl
  have hD := hD.sub (ws' := [(q, .inr (3, [.null, .null, .ref q1, .null, .null, .null, .int 0, .int 0, .null, .null, .null, .int 0]))]) [0] (by decide) rfl
  refine lv_aload_n hx hb dX3_init_13 rfl (lv_at hl 0 rfl) ?_
  refine lv_bipush (v := 121) hx hb dX3_init_14 (by decide) ?_
  refine va_newa (atype := .int) (ty := .int) (N' := 121) (a0 := (121, .inl (fun _ => 0))) hx hb (ht _ k_1_139) rfl hK hP hD hS hA (fun _ => rfl) (by decide) (by decide) (Nat.le_of_ble_eq_true rfl) (Nat.le_of_ble_eq_true rfl) (Nat.le_of_ble_eq_true rfl) dX3_init_16 (fun q3 c4 H hK hP hD hS => ?_)
  have hK : va_K (dC, dI) cls [(c2, .int), (c4, .int)] s := hK
  have hP : va_P (dC, dI) cls [(q, .inr (3, [.null, .null, .ref q1, .null, .null, .null, .int 0, .int 0, .null, .null, .null, .int 0])), (q3, .inl (c4, 121, .inl (fun _ => 0)))] H := hP
  have hD : va_D A [(q, .inr (3, [.null, .null, .ref q1, .null, .null, .null, .int 0, .int 0, .null, .null, .null, .int 0])), (q3, .inl (c4, 121, .inl (fun _ => 0)))] := hD
  refine W.widen (k := 2) (n := 31097) (by omega) (by omega) ?_
  refine va_putF (D := (dC, dI)) (ci := 3) (v := .ref q3) (ty := .array .int) (C := RX3) (T := TX3) (N := 12) hx hb ht uX3 tyX3 tkX3 nmX3 hown hK hP hD hS 0 rfl rfl 3 (by decide) (ht _ k_2_148) (fun _ h9 => h9) rfl hin rfl (by decide +kernel) rfl rfl (Nat.le_of_ble_eq_true rfl) dX3_init_18 (fun H locs hP hD hS => ?_)
  have hP : va_P (dC, dI) cls [(q, .inr (3, [.null, .null, .ref q1, .ref q3, .null, .null, .int 0, .int 0, .null, .null, .null, .int 0])), (q3, .inl (c4, 121, .inl (fun _ => 0)))] H := hP
  have hD : va_D A [(q, .inr (3, [.null, .null, .ref q1, .ref q3, .null, .null, .int 0, .int 0, .null, .null, .null, .int 0])), (q3, .inl (c4, 121, .inl (fun _ => 0)))] := hD
  have hP := hP.sub (ws' := [(q, .inr (3, [.null, .null, .ref q1, .ref q3, .null, .null, .int 0, .int 0, .null, .null, .null, .int 0]))]) [0] rfl
  have hD := hD.sub (ws' := [(q, .inr (3, [.null, .null, .ref q1, .ref q3, .null, .null, .int 0, .int 0, .null, .null, .null, .int 0]))]) [0] (by decide) rfl
  refine lv_aload_n hx hb dX3_init_21 rfl (lv_at hl 0 rfl) ?_
  refine lv_bipush (v := 121) hx hb dX3_init_22 (by decide) ?_
  refine va_newa (atype := .int) (ty := .int) (N' := 121) (a0 := (121, .inl (fun _ => 0))) hx hb (ht _ k_1_139) rfl hK hP hD hS hA (fun _ => rfl) (by decide) (by decide) (Nat.le_of_ble_eq_true rfl) (Nat.le_of_ble_eq_true rfl) (Nat.le_of_ble_eq_true rfl) dX3_init_24 (fun q5 c6 H hK hP hD hS => ?_)
  have hK : va_K (dC, dI) cls [(c2, .int), (c4, .int), (c6, .int)] s := hK
  have hP : va_P (dC, dI) cls [(q, .inr (3, [.null, .null, .ref q1, .ref q3, .null, .null, .int 0, .int 0, .null, .null, .null, .int 0])), (q5, .inl (c6, 121, .inl (fun _ => 0)))] H := hP
  have hD : va_D A [(q, .inr (3, [.null, .null, .ref q1, .ref q3, .null, .null, .int 0, .int 0, .null, .null, .null, .int 0])), (q5, .inl (c6, 121, .inl (fun _ => 0)))] := hD
  refine W.widen (k := 3) (n := 31218) (by omega) (by omega) ?_
  refine va_putF (D := (dC, dI)) (ci := 3) (v := .ref q5) (ty := .array .int) (C := RX3) (T := TX3) (N := 12) hx hb ht uX3 tyX3 tkX3 nmX3 hown hK hP hD hS 0 rfl rfl 4 (by decide) (ht _ k_2_150) (fun _ h9 => h9) rfl hin rfl (by decide +kernel) rfl rfl (Nat.le_of_ble_eq_true rfl) dX3_init_26 (fun H locs hP hD hS => ?_)
  have hP : va_P (dC, dI) cls [(q, .inr (3, [.null, .null, .ref q1, .ref q3, .ref q5, .null, .int 0, .int 0, .null, .null, .null, .int 0])), (q5, .inl (c6, 121, .inl (fun _ => 0)))] H := hP
  have hD : va_D A [(q, .inr (3, [.null, .null, .ref q1, .ref q3, .ref q5, .null, .int 0, .int 0, .null, .null, .null, .int 0])), (q5, .inl (c6, 121, .inl (fun _ => 0)))] := hD
  have hP := hP.sub (ws' := [(q, .inr (3, [.null, .null, .ref q1, .ref q3, .ref q5, .null, .int 0, .int 0, .null, .null, .null, .int 0]))]) [0] rfl
  have hD := hD.sub (ws' := [(q, .inr (3, [.null, .null, .ref q1, .ref q3, .ref q5, .null, .int 0, .int 0, .null, .null, .null, .int 0]))]) [0] (by decide) rfl
  refine lv_aload_n hx hb dX3_init_29 rfl (lv_at hl 0 rfl) ?_
  refine lv_sipush (v := 256) hx hb dX3_init_30 (by decide) ?_
  refine va_newa (atype := .int) (ty := .int) (N' := 256) (a0 := (256, .inl (fun _ => 0))) hx hb (ht _ k_1_139) rfl hK hP hD hS hA (fun _ => rfl) (by decide) (by decide) (Nat.le_of_ble_eq_true rfl) (Nat.le_of_ble_eq_true rfl) (Nat.le_of_ble_eq_true rfl) dX3_init_33 (fun q7 c8 H hK hP hD hS => ?_)
  have hK : va_K (dC, dI) cls [(c2, .int), (c4, .int), (c6, .int), (c8, .int)] s := hK
  have hP : va_P (dC, dI) cls [(q, .inr (3, [.null, .null, .ref q1, .ref q3, .ref q5, .null, .int 0, .int 0, .null, .null, .null, .int 0])), (q7, .inl (c8, 256, .inl (fun _ => 0)))] H := hP
  have hD : va_D A [(q, .inr (3, [.null, .null, .ref q1, .ref q3, .ref q5, .null, .int 0, .int 0, .null, .null, .null, .int 0])), (q7, .inl (c8, 256, .inl (fun _ => 0)))] := hD
  refine W.widen (k := 4) (n := 31474) (by omega) (by omega) ?_
  refine va_putF (D := (dC, dI)) (ci := 3) (v := .ref q7) (ty := .array .int) (C := RX3) (T := TX3) (N := 12) hx hb ht uX3 tyX3 tkX3 nmX3 hown hK hP hD hS 0 rfl rfl 5 (by decide) (ht _ k_2_151) (fun _ h9 => h9) rfl hin rfl (by decide +kernel) rfl rfl (Nat.le_of_ble_eq_true rfl) dX3_init_35 (fun H locs hP hD hS => ?_)
  have hP : va_P (dC, dI) cls [(q, .inr (3, [.null, .null, .ref q1, .ref q3, .ref q5, .ref q7, .int 0, .int 0, .null, .null, .null, .int 0])), (q7, .inl (c8, 256, .inl (fun _ => 0)))] H := hP
  have hD : va_D A [(q, .inr (3, [.null, .null, .ref q1, .ref q3, .ref q5, .ref q7, .int 0, .int 0, .null, .null, .null, .int 0])), (q7, .inl (c8, 256, .inl (fun _ => 0)))] := hD
  have hP := hP.sub (ws' := [(q, .inr (3, [.null, .null, .ref q1, .ref q3, .ref q5, .ref q7, .int 0, .int 0, .null, .null, .null, .int 0]))]) [0] rfl
  have hD := hD.sub (ws' := [(q, .inr (3, [.null, .null, .ref q1, .ref q3, .ref q5, .ref q7, .int 0, .int 0, .null, .null, .null, .int 0]))]) [0] (by decide) rfl
  refine lv_aload_n hx hb dX3_init_38 rfl (lv_at hl 0 rfl) ?_
  refine lv_ldc (v := 175692) hx hb hown (ht _ k_2_142) dX3_init_39 ?_
  refine va_newa (atype := .byte) (ty := .byte) (N' := 175692) (a0 := (175692, .inl (fun _ => 0))) hx hb (ht _ k_1_137) rfl hK hP hD hS hA (fun _ => rfl) (by decide) (by decide) (Nat.le_of_ble_eq_true rfl) (Nat.le_of_ble_eq_true rfl) (Nat.le_of_ble_eq_true rfl) dX3_init_41 (fun q9 c10 H hK hP hD hS => ?_)
  have hK : va_K (dC, dI) cls [(c2, .int), (c4, .int), (c6, .int), (c8, .int), (c10, .byte)] s := hK
  have hP : va_P (dC, dI) cls [(q, .inr (3, [.null, .null, .ref q1, .ref q3, .ref q5, .ref q7, .int 0, .int 0, .null, .null, .null, .int 0])), (q9, .inl (c10, 175692, .inl (fun _ => 0)))] H := hP
  have hD : va_D A [(q, .inr (3, [.null, .null, .ref q1, .ref q3, .ref q5, .ref q7, .int 0, .int 0, .null, .null, .null, .int 0])), (q9, .inl (c10, 175692, .inl (fun _ => 0)))] := hD
  refine W.widen (k := 5) (n := 207166) (by omega) (by omega) ?_
  refine va_putF (D := (dC, dI)) (ci := 3) (v := .ref q9) (ty := .array .byte) (C := RX3) (T := TX3) (N := 12) hx hb ht uX3 tyX3 tkX3 nmX3 hown hK hP hD hS 0 rfl rfl 8 (by decide) (ht _ k_2_155) (fun _ h9 => h9) rfl hin rfl (by decide +kernel) rfl rfl (Nat.le_of_ble_eq_true rfl) dX3_init_43 (fun H locs hP hD hS => ?_)
  have hP : va_P (dC, dI) cls [(q, .inr (3, [.null, .null, .ref q1, .ref q3, .ref q5, .ref q7, .int 0, .int 0, .ref q9, .null, .null, .int 0])), (q9, .inl (c10, 175692, .inl (fun _ => 0)))] H := hP
  have hD : va_D A [(q, .inr (3, [.null, .null, .ref q1, .ref q3, .ref q5, .ref q7, .int 0, .int 0, .ref q9, .null, .null, .int 0])), (q9, .inl (c10, 175692, .inl (fun _ => 0)))] := hD
  have hP := hP.sub (ws' := [(q, .inr (3, [.null, .null, .ref q1, .ref q3, .ref q5, .ref q7, .int 0, .int 0, .ref q9, .null, .null, .int 0]))]) [0] rfl
  have hD := hD.sub (ws' := [(q, .inr (3, [.null, .null, .ref q1, .ref q3, .ref q5, .ref q7, .int 0, .int 0, .ref q9, .null, .null, .int 0]))]) [0] (by decide) rfl
  refine lv_aload_n hx hb dX3_init_46 rfl (lv_at hl 0 rfl) ?_
  refine lv_sipush (v := 14641) hx hb dX3_init_47 (by decide) ?_
  refine va_newa (atype := .short) (ty := .short) (N' := 14641) (a0 := (14641, .inl (fun _ => 0))) hx hb (ht _ k_2_184) rfl hK hP hD hS hA (fun _ => rfl) (by decide) (by decide) (Nat.le_of_ble_eq_true rfl) (Nat.le_of_ble_eq_true rfl) (Nat.le_of_ble_eq_true rfl) dX3_init_50 (fun q11 c12 H hK hP hD hS => ?_)
  have hK : va_K (dC, dI) cls [(c2, .int), (c4, .int), (c6, .int), (c8, .int), (c10, .byte), (c12, .short)] s := hK
  have hP : va_P (dC, dI) cls [(q, .inr (3, [.null, .null, .ref q1, .ref q3, .ref q5, .ref q7, .int 0, .int 0, .ref q9, .null, .null, .int 0])), (q11, .inl (c12, 14641, .inl (fun _ => 0)))] H := hP
  have hD : va_D A [(q, .inr (3, [.null, .null, .ref q1, .ref q3, .ref q5, .ref q7, .int 0, .int 0, .ref q9, .null, .null, .int 0])), (q11, .inl (c12, 14641, .inl (fun _ => 0)))] := hD
  refine W.widen (k := 6) (n := 221807) (by omega) (by omega) ?_
  refine va_putF (D := (dC, dI)) (ci := 3) (v := .ref q11) (ty := .array .short) (C := RX3) (T := TX3) (N := 12) hx hb ht uX3 tyX3 tkX3 nmX3 hown hK hP hD hS 0 rfl rfl 9 (by decide) (ht _ k_2_156) (fun _ h9 => h9) rfl hin rfl (by decide +kernel) rfl rfl (Nat.le_of_ble_eq_true rfl) dX3_init_52 (fun H locs hP hD hS => ?_)
  have hP : va_P (dC, dI) cls [(q, .inr (3, [.null, .null, .ref q1, .ref q3, .ref q5, .ref q7, .int 0, .int 0, .ref q9, .ref q11, .null, .int 0])), (q11, .inl (c12, 14641, .inl (fun _ => 0)))] H := hP
  have hD : va_D A [(q, .inr (3, [.null, .null, .ref q1, .ref q3, .ref q5, .ref q7, .int 0, .int 0, .ref q9, .ref q11, .null, .int 0])), (q11, .inl (c12, 14641, .inl (fun _ => 0)))] := hD
  have hP := hP.sub (ws' := [(q, .inr (3, [.null, .null, .ref q1, .ref q3, .ref q5, .ref q7, .int 0, .int 0, .ref q9, .ref q11, .null, .int 0]))]) [0] rfl
  have hD := hD.sub (ws' := [(q, .inr (3, [.null, .null, .ref q1, .ref q3, .ref q5, .ref q7, .int 0, .int 0, .ref q9, .ref q11, .null, .int 0]))]) [0] (by decide) rfl
  refine lv_aload_n hx hb dX3_init_55 rfl (lv_at hl 0 rfl) ?_
  refine lv_iconst (v := 0) hx hb dX3_init_56 (by decide) ?_
  refine va_newa (atype := .byte) (ty := .byte) (N' := 0) (a0 := (0, .inl (fun _ => 0))) hx hb (ht _ k_1_137) rfl hK hP hD hS hA (fun _ => rfl) (by decide) (by decide) (Nat.le_of_ble_eq_true rfl) (Nat.le_of_ble_eq_true rfl) (Nat.le_of_ble_eq_true rfl) dX3_init_57 (fun q13 c14 H hK hP hD hS => ?_)
  have hK : va_K (dC, dI) cls [(c2, .int), (c4, .int), (c6, .int), (c8, .int), (c10, .byte), (c12, .short), (c14, .byte)] s := hK
  have hP : va_P (dC, dI) cls [(q, .inr (3, [.null, .null, .ref q1, .ref q3, .ref q5, .ref q7, .int 0, .int 0, .ref q9, .ref q11, .null, .int 0])), (q13, .inl (c14, 0, .inl (fun _ => 0)))] H := hP
  have hD : va_D A [(q, .inr (3, [.null, .null, .ref q1, .ref q3, .ref q5, .ref q7, .int 0, .int 0, .ref q9, .ref q11, .null, .int 0])), (q13, .inl (c14, 0, .inl (fun _ => 0)))] := hD
  refine W.widen (k := 7) (n := 221807) (by omega) (by omega) ?_
  refine va_put (D := (dC, dI)) (ci := 3) (v := .ref q13) (ty := .array .byte) (C := RX3) (T := TX3) (N := 12) hx hb ht uX3 tyX3 tkX3 nmX3 hown hK hP hD hS 0 rfl rfl 10 (by decide) (ht _ k_2_157) (fun _ h9 => h9) rfl (by decide +kernel) rfl rfl (Nat.le_of_ble_eq_true rfl) dX3_init_59 (fun H locs hP hD hS => ?_)
  have hP : va_P (dC, dI) cls [(q, .inr (3, [.null, .null, .ref q1, .ref q3, .ref q5, .ref q7, .int 0, .int 0, .ref q9, .ref q11, .ref q13, .int 0])), (q13, .inl (c14, 0, .inl (fun _ => 0)))] H := hP
  have hD : va_D A [(q, .inr (3, [.null, .null, .ref q1, .ref q3, .ref q5, .ref q7, .int 0, .int 0, .ref q9, .ref q11, .ref q13, .int 0])), (q13, .inl (c14, 0, .inl (fun _ => 0)))] := hD
  have hP := hP.sub (ws' := [(q, .inr (3, [.null, .null, .ref q1, .ref q3, .ref q5, .ref q7, .int 0, .int 0, .ref q9, .ref q11, .ref q13, .int 0]))]) [0] rfl
  have hD := hD.sub (ws' := [(q, .inr (3, [.null, .null, .ref q1, .ref q3, .ref q5, .ref q7, .int 0, .int 0, .ref q9, .ref q11, .ref q13, .int 0]))]) [0] (by decide) rfl
  refine lv_aload_n hx hb dX3_init_62 rfl (lv_at hl 0 rfl) ?_
  refine lv_aload_n hx hb dX3_init_63 rfl (lv_at hl 1 rfl) ?_
  refine va_putF (D := (dC, dI)) (ci := 3) (v := .ref ac) (ty := .object "FinderHouse$Acts") (C := RX3) (T := TX3) (N := 12) hx hb ht uX3 tyX3 tkX3 nmX3 hown hK hP hD hS 0 rfl rfl 0 (by decide) (ht _ k_2_143) (fun _ h9 => h9) rfl hin rfl (by decide +kernel) rfl rfl (Nat.le_of_ble_eq_true rfl) dX3_init_64 (fun H locs hP hD hS => ?_)
  have hP : va_P (dC, dI) cls [(q, .inr (3, [.ref ac, .null, .ref q1, .ref q3, .ref q5, .ref q7, .int 0, .int 0, .ref q9, .ref q11, .ref q13, .int 0]))] H := hP
  have hD : va_D A [(q, .inr (3, [.ref ac, .null, .ref q1, .ref q3, .ref q5, .ref q7, .int 0, .int 0, .ref q9, .ref q11, .ref q13, .int 0]))] := hD
  exact W.vret hx hb hr (fun t ht9 hW => ⟨⟨([.ref ac, .null, .ref q1, .ref q3, .ref q5, .ref q7, .int 0, .int 0, .ref q9, .ref q11, .ref q13, .int 0]), rfl, ⟨trivial, rfl⟩, by rw [ht9]; exact hP.sub [0] rfl, va_K.moved hW.alike (hK.sub [] rfl), hD.sub [0] (by decide) rfl⟩, hS.F ht9⟩) hS.2.2 dX3_init_67
set_option maxHeartbeats 4000000 in
set_option maxRecDepth 100000 in
theorem k7 (l : Launch) (dC : Nat → ClassId) (dI : Nat → Nat → Nat) (sz : Nat) (q : Nat) (ac : Nat)  : Met l yX7_init (Cond.code yX7_init cX7_init 2 none :: tb) ({ frames := 2, cells := 28, slots := 265253, locals := 33 }) (pcw [.ref q, .ref ac] (dC, dI) [(q, .inr (7, [.null, .null, .null, .null, .null, .null, .null, .null, .null, .null, .int 0, .int 0, .null, .null, .null, .long 0, .null, .null, .null, .null, .int 0]))] [] sz) (va_Qv (fun (fs1 : List Value) => (True) ∧ (fs1.length = 21)) (bw (dC, dI) (va_A [(q, .inr (7, [.null, .null, .null, .null, .null, .null, .null, .null, .null, .null, .int 0, .int 0, .null, .null, .null, .long 0, .null, .null, .null, .null, .int 0]))] sz) (fun (fs1 : List Value) => [(q, .inr (7, fs1))]) (fun (fs1 : List Value) => [])) (va_A [(q, .inr (7, [.null, .null, .null, .null, .null, .null, .null, .null, .null, .null, .int 0, .int 0, .null, .null, .null, .long 0, .null, .null, .null, .null, .int 0]))] sz)) 28 265253 (va_A [(q, .inr (7, [.null, .null, .null, .null, .null, .null, .null, .null, .null, .null, .int 0, .int 0, .null, .null, .null, .long 0, .null, .null, .null, .null, .int 0]))] sz) := by
  refine Met.ofW (cc := cX7_init) (maxL := 2) (ret := none) (by decide) rfl ?_
  intro p e s m args below meth c s₁ B hml hv
  obtain ⟨rfl, hsz, hP, hK, hD0⟩ := hv
  have hx := B.exec
  have hb := B.bytes
  have hr := B.returns
  have hts := atoms_spec (ws := Cond.code yX7_init cX7_init 2 none :: tb) B.pre
  have ht : ∀ w ∈ tb, w.before _ s = true := fun w h => hts w (List.mem_cons_of_mem _ h)
  have hown : s.vm.findClass RX7 = some m.cls := findClass_of_methodNamed B.named
  have hlocks := B.notSynchronized
  have hin : meth.name = "<init>" := (name_of_methodNamed B.named B.method).1
  subst hsz
  have hD := hD0.self (sz := s.heap.size)
  generalize hAe : va_A [(q, .inr (7, [.null, .null, .null, .null, .null, .null, .null, .null, .null, .null, .int 0, .int 0, .null, .null, .null, .long 0, .null, .null, .null, .null, .int 0]))] s.heap.size = A at hD ⊢
  have hA : ∀ q : Nat, s.heap.size ≤ q → A q := fun q h => by rw [← hAe]; exact Or.inr h
  have hS : va_S A s.heap s.heap [] := va_S.rf
  have hl := lv_entry ([.ref q, .ref ac]) (n := 2) (Nat.le_of_ble_eq_true rfl)
  rw [lg_entry_eq]
  generalize (lg_sl ([.ref q, .ref ac]) ++ List.replicate (2 - (lg_sl ([.ref q, .ref ac])).length) Slot.unset).toArray = ls at hl ⊢
  have hl : lv_has ls 2 [(0, .ref q), (1, .ref ac)] := hl
  have hP : va_P (dC, dI) cls [(q, .inr (7, [.null, .null, .null, .null, .null, .null, .null, .null, .null, .null, .int 0, .int 0, .null, .null, .null, .long 0, .null, .null, .null, .null, .int 0]))] s.heap := hP
  refine lv_aload_n hx hb dX7_init_0 rfl (lv_at hl 0 rfl) ?_
  refine tk_o hx hb hown ht k_2_133 k_1_36 k_1_37 hml hl.1 dX7_init_1 (Nat.le_of_ble_eq_true rfl) (Nat.le_of_ble_eq_true rfl) ?_
  refine lv_aload_n hx hb dX7_init_4 rfl (lv_at hl 0 rfl) ?_
  refine lv_sipush (v := 7865) hx hb dX7_init_5 (by decide) ?_
  refine va_newa (atype := .int) (ty := .int) (N' := 7865) (a0 := (7865, .inl (fun _ => 0))) hx hb (ht _ k_1_139) rfl hK hP hD hS hA (fun _ => rfl) (by decide) (by decide) (Nat.le_of_ble_eq_true rfl) (Nat.le_of_ble_eq_true rfl) (Nat.le_of_ble_eq_true rfl) dX7_init_8 (fun q1 c2 H hK hP hD hS => ?_)
  have hK : va_K (dC, dI) cls [(c2, .int)] s := hK
  have hP : va_P (dC, dI) cls [(q, .inr (7, [.null, .null, .null, .null, .null, .null, .null, .null, .null, .null, .int 0, .int 0, .null, .null, .null, .long 0, .null, .null, .null, .null, .int 0])), (q1, .inl (c2, 7865, .inl (fun _ => 0)))] H := hP
  have hD : va_D A [(q, .inr (7, [.null, .null, .null, .null, .null, .null, .null, .null, .null, .null, .int 0, .int 0, .null, .null, .null, .long 0, .null, .null, .null, .null, .int 0])), (q1, .inl (c2, 7865, .inl (fun _ => 0)))] := hD
  refine W.widen (k := 1) (n := 7865) (by omega) (by omega) ?_
  refine va_putF (D := (dC, dI)) (ci := 7) (v := .ref q1) (ty := .array .int) (C := RX7) (T := TX7) (N := 21) hx hb ht uX7 tyX7 tkX7 nmX7 hown hK hP hD hS 0 rfl rfl 3 (by decide) (ht _ k_2_189) (fun _ h9 => h9) rfl hin rfl (by decide +kernel) rfl rfl (Nat.le_of_ble_eq_true rfl) dX7_init_10 (fun H locs hP hD hS => ?_)
  have hP : va_P (dC, dI) cls [(q, .inr (7, [.null, .null, .null, .ref q1, .null, .null, .null, .null, .null, .null, .int 0, .int 0, .null, .null, .null, .long 0, .null, .null, .null, .null, .int 0])), (q1, .inl (c2, 7865, .inl (fun _ => 0)))] H := hP
  have hD : va_D A [(q, .inr (7, [.null, .null, .null, .ref q1, .null, .null, .null, .null, .null, .null, .int 0, .int 0, .null, .null, .null, .long 0, .null, .null, .null, .null, .int 0])), (q1, .inl (c2, 7865, .inl (fun _ => 0)))] := hD
  have hP := hP.sub (ws' := [(q, .inr (7, [.null, .null, .null, .ref q1, .null, .null, .null, .null, .null, .null, .int 0, .int 0, .null, .null, .null, .long 0, .null, .null, .null, .null, .int 0]))]) [0] rfl
  have hD := hD.sub (ws' := [(q, .inr (7, [.null, .null, .null, .ref q1, .null, .null, .null, .null, .null, .null, .int 0, .int 0, .null, .null, .null, .long 0, .null, .null, .null, .null, .int 0]))]) [0] (by decide) rfl
  refine lv_aload_n hx hb dX7_init_13 rfl (lv_at hl 0 rfl) ?_
  refine lv_bipush (v := 13) hx hb dX7_init_14 (by decide) ?_
  refine va_newa (atype := .int) (ty := .int) (N' := 13) (a0 := (13, .inl (fun _ => 0))) hx hb (ht _ k_1_139) rfl hK hP hD hS hA (fun _ => rfl) (by decide) (by decide) (Nat.le_of_ble_eq_true rfl) (Nat.le_of_ble_eq_true rfl) (Nat.le_of_ble_eq_true rfl) dX7_init_16 (fun q3 c4 H hK hP hD hS => ?_)
  have hK : va_K (dC, dI) cls [(c2, .int), (c4, .int)] s := hK
  have hP : va_P (dC, dI) cls [(q, .inr (7, [.null, .null, .null, .ref q1, .null, .null, .null, .null, .null, .null, .int 0, .int 0, .null, .null, .null, .long 0, .null, .null, .null, .null, .int 0])), (q3, .inl (c4, 13, .inl (fun _ => 0)))] H := hP
  have hD : va_D A [(q, .inr (7, [.null, .null, .null, .ref q1, .null, .null, .null, .null, .null, .null, .int 0, .int 0, .null, .null, .null, .long 0, .null, .null, .null, .null, .int 0])), (q3, .inl (c4, 13, .inl (fun _ => 0)))] := hD
  refine W.widen (k := 2) (n := 7878) (by omega) (by omega) ?_
  refine va_putF (D := (dC, dI)) (ci := 7) (v := .ref q3) (ty := .array .int) (C := RX7) (T := TX7) (N := 21) hx hb ht uX7 tyX7 tkX7 nmX7 hown hK hP hD hS 0 rfl rfl 4 (by decide) (ht _ k_2_190) (fun _ h9 => h9) rfl hin rfl (by decide +kernel) rfl rfl (Nat.le_of_ble_eq_true rfl) dX7_init_18 (fun H locs hP hD hS => ?_)
  have hP : va_P (dC, dI) cls [(q, .inr (7, [.null, .null, .null, .ref q1, .ref q3, .null, .null, .null, .null, .null, .int 0, .int 0, .null, .null, .null, .long 0, .null, .null, .null, .null, .int 0])), (q3, .inl (c4, 13, .inl (fun _ => 0)))] H := hP
  have hD : va_D A [(q, .inr (7, [.null, .null, .null, .ref q1, .ref q3, .null, .null, .null, .null, .null, .int 0, .int 0, .null, .null, .null, .long 0, .null, .null, .null, .null, .int 0])), (q3, .inl (c4, 13, .inl (fun _ => 0)))] := hD
  have hP := hP.sub (ws' := [(q, .inr (7, [.null, .null, .null, .ref q1, .ref q3, .null, .null, .null, .null, .null, .int 0, .int 0, .null, .null, .null, .long 0, .null, .null, .null, .null, .int 0]))]) [0] rfl
  have hD := hD.sub (ws' := [(q, .inr (7, [.null, .null, .null, .ref q1, .ref q3, .null, .null, .null, .null, .null, .int 0, .int 0, .null, .null, .null, .long 0, .null, .null, .null, .null, .int 0]))]) [0] (by decide) rfl
  refine lv_aload_n hx hb dX7_init_21 rfl (lv_at hl 0 rfl) ?_
  refine lv_sipush (v := 1573) hx hb dX7_init_22 (by decide) ?_
  refine va_newa (atype := .long) (ty := .long) (N' := 1573) (a0 := (1573, .inr (.inl (fun _ => 0)))) hx hb (ht _ k_1_138) rfl hK hP hD hS hA (fun _ => rfl) (by decide) (by decide) (Nat.le_of_ble_eq_true rfl) (Nat.le_of_ble_eq_true rfl) (Nat.le_of_ble_eq_true rfl) dX7_init_25 (fun q5 c6 H hK hP hD hS => ?_)
  have hK : va_K (dC, dI) cls [(c2, .int), (c4, .int), (c6, .long)] s := hK
  have hP : va_P (dC, dI) cls [(q, .inr (7, [.null, .null, .null, .ref q1, .ref q3, .null, .null, .null, .null, .null, .int 0, .int 0, .null, .null, .null, .long 0, .null, .null, .null, .null, .int 0])), (q5, .inl (c6, 1573, .inr (.inl (fun _ => 0))))] H := hP
  have hD : va_D A [(q, .inr (7, [.null, .null, .null, .ref q1, .ref q3, .null, .null, .null, .null, .null, .int 0, .int 0, .null, .null, .null, .long 0, .null, .null, .null, .null, .int 0])), (q5, .inl (c6, 1573, .inr (.inl (fun _ => 0))))] := hD
  refine W.widen (k := 3) (n := 9451) (by omega) (by omega) ?_
  refine va_putF (D := (dC, dI)) (ci := 7) (v := .ref q5) (ty := .array .long) (C := RX7) (T := TX7) (N := 21) hx hb ht uX7 tyX7 tkX7 nmX7 hown hK hP hD hS 0 rfl rfl 5 (by decide) (ht _ k_2_191) (fun _ h9 => h9) rfl hin rfl (by decide +kernel) rfl rfl (Nat.le_of_ble_eq_true rfl) dX7_init_27 (fun H locs hP hD hS => ?_)
  have hP : va_P (dC, dI) cls [(q, .inr (7, [.null, .null, .null, .ref q1, .ref q3, .ref q5, .null, .null, .null, .null, .int 0, .int 0, .null, .null, .null, .long 0, .null, .null, .null, .null, .int 0])), (q5, .inl (c6, 1573, .inr (.inl (fun _ => 0))))] H := hP
  have hD : va_D A [(q, .inr (7, [.null, .null, .null, .ref q1, .ref q3, .ref q5, .null, .null, .null, .null, .int 0, .int 0, .null, .null, .null, .long 0, .null, .null, .null, .null, .int 0])), (q5, .inl (c6, 1573, .inr (.inl (fun _ => 0))))] := hD
  have hP := hP.sub (ws' := [(q, .inr (7, [.null, .null, .null, .ref q1, .ref q3, .ref q5, .null, .null, .null, .null, .int 0, .int 0, .null, .null, .null, .long 0, .null, .null, .null, .null, .int 0]))]) [0] rfl
  have hD := hD.sub (ws' := [(q, .inr (7, [.null, .null, .null, .ref q1, .ref q3, .ref q5, .null, .null, .null, .null, .int 0, .int 0, .null, .null, .null, .long 0, .null, .null, .null, .null, .int 0]))]) [0] (by decide) rfl
  refine lv_aload_n hx hb dX7_init_30 rfl (lv_at hl 0 rfl) ?_
  refine lv_bipush (v := 121) hx hb dX7_init_31 (by decide) ?_
  refine va_newa (atype := .int) (ty := .int) (N' := 121) (a0 := (121, .inl (fun _ => 0))) hx hb (ht _ k_1_139) rfl hK hP hD hS hA (fun _ => rfl) (by decide) (by decide) (Nat.le_of_ble_eq_true rfl) (Nat.le_of_ble_eq_true rfl) (Nat.le_of_ble_eq_true rfl) dX7_init_33 (fun q7 c8 H hK hP hD hS => ?_)
  have hK : va_K (dC, dI) cls [(c2, .int), (c4, .int), (c6, .long), (c8, .int)] s := hK
  have hP : va_P (dC, dI) cls [(q, .inr (7, [.null, .null, .null, .ref q1, .ref q3, .ref q5, .null, .null, .null, .null, .int 0, .int 0, .null, .null, .null, .long 0, .null, .null, .null, .null, .int 0])), (q7, .inl (c8, 121, .inl (fun _ => 0)))] H := hP
  have hD : va_D A [(q, .inr (7, [.null, .null, .null, .ref q1, .ref q3, .ref q5, .null, .null, .null, .null, .int 0, .int 0, .null, .null, .null, .long 0, .null, .null, .null, .null, .int 0])), (q7, .inl (c8, 121, .inl (fun _ => 0)))] := hD
  refine W.widen (k := 4) (n := 9572) (by omega) (by omega) ?_
  refine va_putF (D := (dC, dI)) (ci := 7) (v := .ref q7) (ty := .array .int) (C := RX7) (T := TX7) (N := 21) hx hb ht uX7 tyX7 tkX7 nmX7 hown hK hP hD hS 0 rfl rfl 6 (by decide) (ht _ k_2_192) (fun _ h9 => h9) rfl hin rfl (by decide +kernel) rfl rfl (Nat.le_of_ble_eq_true rfl) dX7_init_35 (fun H locs hP hD hS => ?_)
  have hP : va_P (dC, dI) cls [(q, .inr (7, [.null, .null, .null, .ref q1, .ref q3, .ref q5, .ref q7, .null, .null, .null, .int 0, .int 0, .null, .null, .null, .long 0, .null, .null, .null, .null, .int 0])), (q7, .inl (c8, 121, .inl (fun _ => 0)))] H := hP
  have hD : va_D A [(q, .inr (7, [.null, .null, .null, .ref q1, .ref q3, .ref q5, .ref q7, .null, .null, .null, .int 0, .int 0, .null, .null, .null, .long 0, .null, .null, .null, .null, .int 0])), (q7, .inl (c8, 121, .inl (fun _ => 0)))] := hD
  have hP := hP.sub (ws' := [(q, .inr (7, [.null, .null, .null, .ref q1, .ref q3, .ref q5, .ref q7, .null, .null, .null, .int 0, .int 0, .null, .null, .null, .long 0, .null, .null, .null, .null, .int 0]))]) [0] rfl
  have hD := hD.sub (ws' := [(q, .inr (7, [.null, .null, .null, .ref q1, .ref q3, .ref q5, .ref q7, .null, .null, .null, .int 0, .int 0, .null, .null, .null, .long 0, .null, .null, .null, .null, .int 0]))]) [0] (by decide) rfl
  refine lv_aload_n hx hb dX7_init_38 rfl (lv_at hl 0 rfl) ?_
  refine lv_bipush (v := 121) hx hb dX7_init_39 (by decide) ?_
  refine va_newa (atype := .int) (ty := .int) (N' := 121) (a0 := (121, .inl (fun _ => 0))) hx hb (ht _ k_1_139) rfl hK hP hD hS hA (fun _ => rfl) (by decide) (by decide) (Nat.le_of_ble_eq_true rfl) (Nat.le_of_ble_eq_true rfl) (Nat.le_of_ble_eq_true rfl) dX7_init_41 (fun q9 c10 H hK hP hD hS => ?_)
  have hK : va_K (dC, dI) cls [(c2, .int), (c4, .int), (c6, .long), (c8, .int), (c10, .int)] s := hK
  have hP : va_P (dC, dI) cls [(q, .inr (7, [.null, .null, .null, .ref q1, .ref q3, .ref q5, .ref q7, .null, .null, .null, .int 0, .int 0, .null, .null, .null, .long 0, .null, .null, .null, .null, .int 0])), (q9, .inl (c10, 121, .inl (fun _ => 0)))] H := hP
  have hD : va_D A [(q, .inr (7, [.null, .null, .null, .ref q1, .ref q3, .ref q5, .ref q7, .null, .null, .null, .int 0, .int 0, .null, .null, .null, .long 0, .null, .null, .null, .null, .int 0])), (q9, .inl (c10, 121, .inl (fun _ => 0)))] := hD
  refine W.widen (k := 5) (n := 9693) (by omega) (by omega) ?_
  refine va_putF (D := (dC, dI)) (ci := 7) (v := .ref q9) (ty := .array .int) (C := RX7) (T := TX7) (N := 21) hx hb ht uX7 tyX7 tkX7 nmX7 hown hK hP hD hS 0 rfl rfl 7 (by decide) (ht _ k_2_193) (fun _ h9 => h9) rfl hin rfl (by decide +kernel) rfl rfl (Nat.le_of_ble_eq_true rfl) dX7_init_43 (fun H locs hP hD hS => ?_)
  have hP : va_P (dC, dI) cls [(q, .inr (7, [.null, .null, .null, .ref q1, .ref q3, .ref q5, .ref q7, .ref q9, .null, .null, .int 0, .int 0, .null, .null, .null, .long 0, .null, .null, .null, .null, .int 0])), (q9, .inl (c10, 121, .inl (fun _ => 0)))] H := hP
  have hD : va_D A [(q, .inr (7, [.null, .null, .null, .ref q1, .ref q3, .ref q5, .ref q7, .ref q9, .null, .null, .int 0, .int 0, .null, .null, .null, .long 0, .null, .null, .null, .null, .int 0])), (q9, .inl (c10, 121, .inl (fun _ => 0)))] := hD
  have hP := hP.sub (ws' := [(q, .inr (7, [.null, .null, .null, .ref q1, .ref q3, .ref q5, .ref q7, .ref q9, .null, .null, .int 0, .int 0, .null, .null, .null, .long 0, .null, .null, .null, .null, .int 0]))]) [0] rfl
  have hD := hD.sub (ws' := [(q, .inr (7, [.null, .null, .null, .ref q1, .ref q3, .ref q5, .ref q7, .ref q9, .null, .null, .int 0, .int 0, .null, .null, .null, .long 0, .null, .null, .null, .null, .int 0]))]) [0] (by decide) rfl
  refine lv_aload_n hx hb dX7_init_46 rfl (lv_at hl 0 rfl) ?_
  refine lv_bipush (v := 121) hx hb dX7_init_47 (by decide) ?_
  refine va_newa (atype := .int) (ty := .int) (N' := 121) (a0 := (121, .inl (fun _ => 0))) hx hb (ht _ k_1_139) rfl hK hP hD hS hA (fun _ => rfl) (by decide) (by decide) (Nat.le_of_ble_eq_true rfl) (Nat.le_of_ble_eq_true rfl) (Nat.le_of_ble_eq_true rfl) dX7_init_49 (fun q11 c12 H hK hP hD hS => ?_)
  have hK : va_K (dC, dI) cls [(c2, .int), (c4, .int), (c6, .long), (c8, .int), (c10, .int), (c12, .int)] s := hK
  have hP : va_P (dC, dI) cls [(q, .inr (7, [.null, .null, .null, .ref q1, .ref q3, .ref q5, .ref q7, .ref q9, .null, .null, .int 0, .int 0, .null, .null, .null, .long 0, .null, .null, .null, .null, .int 0])), (q11, .inl (c12, 121, .inl (fun _ => 0)))] H := hP
  have hD : va_D A [(q, .inr (7, [.null, .null, .null, .ref q1, .ref q3, .ref q5, .ref q7, .ref q9, .null, .null, .int 0, .int 0, .null, .null, .null, .long 0, .null, .null, .null, .null, .int 0])), (q11, .inl (c12, 121, .inl (fun _ => 0)))] := hD
  refine W.widen (k := 6) (n := 9814) (by omega) (by omega) ?_
  refine va_putF (D := (dC, dI)) (ci := 7) (v := .ref q11) (ty := .array .int) (C := RX7) (T := TX7) (N := 21) hx hb ht uX7 tyX7 tkX7 nmX7 hown hK hP hD hS 0 rfl rfl 8 (by decide) (ht _ k_2_194) (fun _ h9 => h9) rfl hin rfl (by decide +kernel) rfl rfl (Nat.le_of_ble_eq_true rfl) dX7_init_51 (fun H locs hP hD hS => ?_)
  have hP : va_P (dC, dI) cls [(q, .inr (7, [.null, .null, .null, .ref q1, .ref q3, .ref q5, .ref q7, .ref q9, .ref q11, .null, .int 0, .int 0, .null, .null, .null, .long 0, .null, .null, .null, .null, .int 0])), (q11, .inl (c12, 121, .inl (fun _ => 0)))] H := hP
  have hD : va_D A [(q, .inr (7, [.null, .null, .null, .ref q1, .ref q3, .ref q5, .ref q7, .ref q9, .ref q11, .null, .int 0, .int 0, .null, .null, .null, .long 0, .null, .null, .null, .null, .int 0])), (q11, .inl (c12, 121, .inl (fun _ => 0)))] := hD
  have hP := hP.sub (ws' := [(q, .inr (7, [.null, .null, .null, .ref q1, .ref q3, .ref q5, .ref q7, .ref q9, .ref q11, .null, .int 0, .int 0, .null, .null, .null, .long 0, .null, .null, .null, .null, .int 0]))]) [0] rfl
  have hD := hD.sub (ws' := [(q, .inr (7, [.null, .null, .null, .ref q1, .ref q3, .ref q5, .ref q7, .ref q9, .ref q11, .null, .int 0, .int 0, .null, .null, .null, .long 0, .null, .null, .null, .null, .int 0]))]) [0] (by decide) rfl
  refine lv_aload_n hx hb dX7_init_54 rfl (lv_at hl 0 rfl) ?_
  refine lv_iconst (v := 3) hx hb dX7_init_55 (by decide) ?_
  refine va_newa (atype := .int) (ty := .int) (N' := 3) (a0 := (3, .inl (fun _ => 0))) hx hb (ht _ k_1_139) rfl hK hP hD hS hA (fun _ => rfl) (by decide) (by decide) (Nat.le_of_ble_eq_true rfl) (Nat.le_of_ble_eq_true rfl) (Nat.le_of_ble_eq_true rfl) dX7_init_56 (fun q13 c14 H hK hP hD hS => ?_)
  have hK : va_K (dC, dI) cls [(c2, .int), (c4, .int), (c6, .long), (c8, .int), (c10, .int), (c12, .int), (c14, .int)] s := hK
  have hP : va_P (dC, dI) cls [(q, .inr (7, [.null, .null, .null, .ref q1, .ref q3, .ref q5, .ref q7, .ref q9, .ref q11, .null, .int 0, .int 0, .null, .null, .null, .long 0, .null, .null, .null, .null, .int 0])), (q13, .inl (c14, 3, .inl (fun _ => 0)))] H := hP
  have hD : va_D A [(q, .inr (7, [.null, .null, .null, .ref q1, .ref q3, .ref q5, .ref q7, .ref q9, .ref q11, .null, .int 0, .int 0, .null, .null, .null, .long 0, .null, .null, .null, .null, .int 0])), (q13, .inl (c14, 3, .inl (fun _ => 0)))] := hD
  refine W.widen (k := 7) (n := 9817) (by omega) (by omega) ?_
  refine va_putF (D := (dC, dI)) (ci := 7) (v := .ref q13) (ty := .array .int) (C := RX7) (T := TX7) (N := 21) hx hb ht uX7 tyX7 tkX7 nmX7 hown hK hP hD hS 0 rfl rfl 9 (by decide) (ht _ k_2_195) (fun _ h9 => h9) rfl hin rfl (by decide +kernel) rfl rfl (Nat.le_of_ble_eq_true rfl) dX7_init_58 (fun H locs hP hD hS => ?_)
  have hP : va_P (dC, dI) cls [(q, .inr (7, [.null, .null, .null, .ref q1, .ref q3, .ref q5, .ref q7, .ref q9, .ref q11, .ref q13, .int 0, .int 0, .null, .null, .null, .long 0, .null, .null, .null, .null, .int 0])), (q13, .inl (c14, 3, .inl (fun _ => 0)))] H := hP
  have hD : va_D A [(q, .inr (7, [.null, .null, .null, .ref q1, .ref q3, .ref q5, .ref q7, .ref q9, .ref q11, .ref q13, .int 0, .int 0, .null, .null, .null, .long 0, .null, .null, .null, .null, .int 0])), (q13, .inl (c14, 3, .inl (fun _ => 0)))] := hD
  have hP := hP.sub (ws' := [(q, .inr (7, [.null, .null, .null, .ref q1, .ref q3, .ref q5, .ref q7, .ref q9, .ref q11, .ref q13, .int 0, .int 0, .null, .null, .null, .long 0, .null, .null, .null, .null, .int 0]))]) [0] rfl
  have hD := hD.sub (ws' := [(q, .inr (7, [.null, .null, .null, .ref q1, .ref q3, .ref q5, .ref q7, .ref q9, .ref q11, .ref q13, .int 0, .int 0, .null, .null, .null, .long 0, .null, .null, .null, .null, .int 0]))]) [0] (by decide) rfl
  refine lv_aload_n hx hb dX7_init_61 rfl (lv_at hl 0 rfl) ?_
  refine lv_bipush (v := 121) hx hb dX7_init_62 (by decide) ?_
  refine va_newa (atype := .int) (ty := .int) (N' := 121) (a0 := (121, .inl (fun _ => 0))) hx hb (ht _ k_1_139) rfl hK hP hD hS hA (fun _ => rfl) (by decide) (by decide) (Nat.le_of_ble_eq_true rfl) (Nat.le_of_ble_eq_true rfl) (Nat.le_of_ble_eq_true rfl) dX7_init_64 (fun q15 c16 H hK hP hD hS => ?_)
  have hK : va_K (dC, dI) cls [(c2, .int), (c4, .int), (c6, .long), (c8, .int), (c10, .int), (c12, .int), (c14, .int), (c16, .int)] s := hK
  have hP : va_P (dC, dI) cls [(q, .inr (7, [.null, .null, .null, .ref q1, .ref q3, .ref q5, .ref q7, .ref q9, .ref q11, .ref q13, .int 0, .int 0, .null, .null, .null, .long 0, .null, .null, .null, .null, .int 0])), (q15, .inl (c16, 121, .inl (fun _ => 0)))] H := hP
  have hD : va_D A [(q, .inr (7, [.null, .null, .null, .ref q1, .ref q3, .ref q5, .ref q7, .ref q9, .ref q11, .ref q13, .int 0, .int 0, .null, .null, .null, .long 0, .null, .null, .null, .null, .int 0])), (q15, .inl (c16, 121, .inl (fun _ => 0)))] := hD
  refine W.widen (k := 8) (n := 9938) (by omega) (by omega) ?_
  refine va_putF (D := (dC, dI)) (ci := 7) (v := .ref q15) (ty := .array .int) (C := RX7) (T := TX7) (N := 21) hx hb ht uX7 tyX7 tkX7 nmX7 hown hK hP hD hS 0 rfl rfl 12 (by decide) (ht _ k_2_198) (fun _ h9 => h9) rfl hin rfl (by decide +kernel) rfl rfl (Nat.le_of_ble_eq_true rfl) dX7_init_66 (fun H locs hP hD hS => ?_)
  have hP : va_P (dC, dI) cls [(q, .inr (7, [.null, .null, .null, .ref q1, .ref q3, .ref q5, .ref q7, .ref q9, .ref q11, .ref q13, .int 0, .int 0, .ref q15, .null, .null, .long 0, .null, .null, .null, .null, .int 0])), (q15, .inl (c16, 121, .inl (fun _ => 0)))] H := hP
  have hD : va_D A [(q, .inr (7, [.null, .null, .null, .ref q1, .ref q3, .ref q5, .ref q7, .ref q9, .ref q11, .ref q13, .int 0, .int 0, .ref q15, .null, .null, .long 0, .null, .null, .null, .null, .int 0])), (q15, .inl (c16, 121, .inl (fun _ => 0)))] := hD
  have hP := hP.sub (ws' := [(q, .inr (7, [.null, .null, .null, .ref q1, .ref q3, .ref q5, .ref q7, .ref q9, .ref q11, .ref q13, .int 0, .int 0, .ref q15, .null, .null, .long 0, .null, .null, .null, .null, .int 0]))]) [0] rfl
  have hD := hD.sub (ws' := [(q, .inr (7, [.null, .null, .null, .ref q1, .ref q3, .ref q5, .ref q7, .ref q9, .ref q11, .ref q13, .int 0, .int 0, .ref q15, .null, .null, .long 0, .null, .null, .null, .null, .int 0]))]) [0] (by decide) rfl
  refine lv_aload_n hx hb dX7_init_69 rfl (lv_at hl 0 rfl) ?_
  refine lv_bipush (v := 121) hx hb dX7_init_70 (by decide) ?_
  refine va_newa (atype := .int) (ty := .int) (N' := 121) (a0 := (121, .inl (fun _ => 0))) hx hb (ht _ k_1_139) rfl hK hP hD hS hA (fun _ => rfl) (by decide) (by decide) (Nat.le_of_ble_eq_true rfl) (Nat.le_of_ble_eq_true rfl) (Nat.le_of_ble_eq_true rfl) dX7_init_72 (fun q17 c18 H hK hP hD hS => ?_)
  have hK : va_K (dC, dI) cls [(c2, .int), (c4, .int), (c6, .long), (c8, .int), (c10, .int), (c12, .int), (c14, .int), (c16, .int), (c18, .int)] s := hK
  have hP : va_P (dC, dI) cls [(q, .inr (7, [.null, .null, .null, .ref q1, .ref q3, .ref q5, .ref q7, .ref q9, .ref q11, .ref q13, .int 0, .int 0, .ref q15, .null, .null, .long 0, .null, .null, .null, .null, .int 0])), (q17, .inl (c18, 121, .inl (fun _ => 0)))] H := hP
  have hD : va_D A [(q, .inr (7, [.null, .null, .null, .ref q1, .ref q3, .ref q5, .ref q7, .ref q9, .ref q11, .ref q13, .int 0, .int 0, .ref q15, .null, .null, .long 0, .null, .null, .null, .null, .int 0])), (q17, .inl (c18, 121, .inl (fun _ => 0)))] := hD
  refine W.widen (k := 9) (n := 10059) (by omega) (by omega) ?_
  refine va_putF (D := (dC, dI)) (ci := 7) (v := .ref q17) (ty := .array .int) (C := RX7) (T := TX7) (N := 21) hx hb ht uX7 tyX7 tkX7 nmX7 hown hK hP hD hS 0 rfl rfl 13 (by decide) (ht _ k_2_199) (fun _ h9 => h9) rfl hin rfl (by decide +kernel) rfl rfl (Nat.le_of_ble_eq_true rfl) dX7_init_74 (fun H locs hP hD hS => ?_)
  have hP : va_P (dC, dI) cls [(q, .inr (7, [.null, .null, .null, .ref q1, .ref q3, .ref q5, .ref q7, .ref q9, .ref q11, .ref q13, .int 0, .int 0, .ref q15, .ref q17, .null, .long 0, .null, .null, .null, .null, .int 0])), (q17, .inl (c18, 121, .inl (fun _ => 0)))] H := hP
  have hD : va_D A [(q, .inr (7, [.null, .null, .null, .ref q1, .ref q3, .ref q5, .ref q7, .ref q9, .ref q11, .ref q13, .int 0, .int 0, .ref q15, .ref q17, .null, .long 0, .null, .null, .null, .null, .int 0])), (q17, .inl (c18, 121, .inl (fun _ => 0)))] := hD
  have hP := hP.sub (ws' := [(q, .inr (7, [.null, .null, .null, .ref q1, .ref q3, .ref q5, .ref q7, .ref q9, .ref q11, .ref q13, .int 0, .int 0, .ref q15, .ref q17, .null, .long 0, .null, .null, .null, .null, .int 0]))]) [0] rfl
  have hD := hD.sub (ws' := [(q, .inr (7, [.null, .null, .null, .ref q1, .ref q3, .ref q5, .ref q7, .ref q9, .ref q11, .ref q13, .int 0, .int 0, .ref q15, .ref q17, .null, .long 0, .null, .null, .null, .null, .int 0]))]) [0] (by decide) rfl
  refine lv_aload_n hx hb dX7_init_77 rfl (lv_at hl 0 rfl) ?_
  refine lv_sipush (v := 1694) hx hb dX7_init_78 (by decide) ?_
  refine va_newa (atype := .long) (ty := .long) (N' := 1694) (a0 := (1694, .inr (.inl (fun _ => 0)))) hx hb (ht _ k_1_138) rfl hK hP hD hS hA (fun _ => rfl) (by decide) (by decide) (Nat.le_of_ble_eq_true rfl) (Nat.le_of_ble_eq_true rfl) (Nat.le_of_ble_eq_true rfl) dX7_init_81 (fun q19 c20 H hK hP hD hS => ?_)
  have hK : va_K (dC, dI) cls [(c2, .int), (c4, .int), (c6, .long), (c8, .int), (c10, .int), (c12, .int), (c14, .int), (c16, .int), (c18, .int), (c20, .long)] s := hK
  have hP : va_P (dC, dI) cls [(q, .inr (7, [.null, .null, .null, .ref q1, .ref q3, .ref q5, .ref q7, .ref q9, .ref q11, .ref q13, .int 0, .int 0, .ref q15, .ref q17, .null, .long 0, .null, .null, .null, .null, .int 0])), (q19, .inl (c20, 1694, .inr (.inl (fun _ => 0))))] H := hP
  have hD : va_D A [(q, .inr (7, [.null, .null, .null, .ref q1, .ref q3, .ref q5, .ref q7, .ref q9, .ref q11, .ref q13, .int 0, .int 0, .ref q15, .ref q17, .null, .long 0, .null, .null, .null, .null, .int 0])), (q19, .inl (c20, 1694, .inr (.inl (fun _ => 0))))] := hD
  refine W.widen (k := 10) (n := 11753) (by omega) (by omega) ?_
  refine va_putF (D := (dC, dI)) (ci := 7) (v := .ref q19) (ty := .array .long) (C := RX7) (T := TX7) (N := 21) hx hb ht uX7 tyX7 tkX7 nmX7 hown hK hP hD hS 0 rfl rfl 14 (by decide) (ht _ k_2_200) (fun _ h9 => h9) rfl hin rfl (by decide +kernel) rfl rfl (Nat.le_of_ble_eq_true rfl) dX7_init_83 (fun H locs hP hD hS => ?_)
  have hP : va_P (dC, dI) cls [(q, .inr (7, [.null, .null, .null, .ref q1, .ref q3, .ref q5, .ref q7, .ref q9, .ref q11, .ref q13, .int 0, .int 0, .ref q15, .ref q17, .ref q19, .long 0, .null, .null, .null, .null, .int 0])), (q19, .inl (c20, 1694, .inr (.inl (fun _ => 0))))] H := hP
  have hD : va_D A [(q, .inr (7, [.null, .null, .null, .ref q1, .ref q3, .ref q5, .ref q7, .ref q9, .ref q11, .ref q13, .int 0, .int 0, .ref q15, .ref q17, .ref q19, .long 0, .null, .null, .null, .null, .int 0])), (q19, .inl (c20, 1694, .inr (.inl (fun _ => 0))))] := hD
  have hP := hP.sub (ws' := [(q, .inr (7, [.null, .null, .null, .ref q1, .ref q3, .ref q5, .ref q7, .ref q9, .ref q11, .ref q13, .int 0, .int 0, .ref q15, .ref q17, .ref q19, .long 0, .null, .null, .null, .null, .int 0]))]) [0] rfl
  have hD := hD.sub (ws' := [(q, .inr (7, [.null, .null, .null, .ref q1, .ref q3, .ref q5, .ref q7, .ref q9, .ref q11, .ref q13, .int 0, .int 0, .ref q15, .ref q17, .ref q19, .long 0, .null, .null, .null, .null, .int 0]))]) [0] (by decide) rfl
  refine lv_aload_n hx hb dX7_init_86 rfl (lv_at hl 0 rfl) ?_
  refine va_new (ci := 9) (fs := [.null, .null, .null, .int 0]) (C := RX9) (T := TX9) (N := 4) hx hb ht uX9 tyX9 tkX9 hown (ht _ k_2_134) (ht _ k_1_101) (ht _ k_1_7) hK hP hD hS hA rfl (by decide +kernel) (Nat.le_of_ble_eq_true rfl) (Nat.le_of_ble_eq_true rfl) dX7_init_87 (fun q21 H hP hD hS => ?_)
  have hP : va_P (dC, dI) cls [(q, .inr (7, [.null, .null, .null, .ref q1, .ref q3, .ref q5, .ref q7, .ref q9, .ref q11, .ref q13, .int 0, .int 0, .ref q15, .ref q17, .ref q19, .long 0, .null, .null, .null, .null, .int 0])), (q21, .inr (9, [.null, .null, .null, .int 0]))] H := hP
  have hD : va_D A [(q, .inr (7, [.null, .null, .null, .ref q1, .ref q3, .ref q5, .ref q7, .ref q9, .ref q11, .ref q13, .int 0, .int 0, .ref q15, .ref q17, .ref q19, .long 0, .null, .null, .null, .null, .int 0])), (q21, .inr (9, [.null, .null, .null, .int 0]))] := hD
  refine W.widen (k := 11) (n := 11757) (by omega) (by omega) ?_
  refine lv_dup hx hb dX7_init_90 rfl ?_
  refine lv_bipush (v := 13) hx hb dX7_init_91 (by decide) ?_
  refine ca_v (wr := [(q, .inr (7, [.null, .null, .null, .ref q1, .ref q3, .ref q5, .ref q7, .ref q9, .ref q11, .ref q13, .int 0, .int 0, .ref q15, .ref q17, .ref q19, .long 0, .null, .null, .null, .null, .int 0]))]) (va_runI (As := [.int 13]) (rest := [.ref q21, .ref q]) ⟨hx, hb, hml, hown, ht⟩ (k9_13 l dC dI H.size q21  ) (cwI 1 ht (gdI k_1_104) rfl rfl rfl (ht _ k_1_7) (ht _ k_2_135) (ht _ k_1_103) rfl (by decide +kernel) ⟨Nat.le_of_ble_eq_true rfl, Nat.le_of_ble_eq_true rfl⟩) ⟨pcw_blind, pcw_at hP hD hK [1] [] (by decide) rfl rfl rfl⟩ rfl rfl hl.1 rfl (lv_room (Nat.le_of_ble_eq_true rfl)) dX7_init_93 ⟨Nat.le_of_ble_eq_true rfl, Nat.le_of_ble_eq_true rfl⟩) hP hD hK hS hA [1] [0] rfl rfl (by decide) (by decide) (fun u H locs w23 hK hP hD hS => ?_)
  obtain ⟨F24, rfl⟩ : ∃ z, z = u := ⟨_, rfl⟩
  have hK : va_K (dC, dI) cls [(c2, .int), (c4, .int), (c6, .long), (c8, .int), (c10, .int), (c12, .int), (c14, .int), (c16, .int), (c18, .int), (c20, .long)] s := hK
  have hP : va_P (dC, dI) cls [(q, .inr (7, [.null, .null, .null, .ref q1, .ref q3, .ref q5, .ref q7, .ref q9, .ref q11, .ref q13, .int 0, .int 0, .ref q15, .ref q17, .ref q19, .long 0, .null, .null, .null, .null, .int 0])), (q21, .inr (9, F24))] H := hP
  have hD : va_D A [(q, .inr (7, [.null, .null, .null, .ref q1, .ref q3, .ref q5, .ref q7, .ref q9, .ref q11, .ref q13, .int 0, .int 0, .ref q15, .ref q17, .ref q19, .long 0, .null, .null, .null, .null, .int 0])), (q21, .inr (9, F24))] := hD
  refine W.widen (k := 14) (n := 11796) (by omega) (by omega) ?_
  obtain ⟨w23, K25, K26⟩ := w23
  refine va_putF (D := (dC, dI)) (ci := 7) (v := .ref q21) (ty := .object "FinderHouse$Term") (C := RX7) (T := TX7) (N := 21) hx hb ht uX7 tyX7 tkX7 nmX7 hown hK hP hD hS 0 rfl rfl 16 (by decide) (ht _ k_2_202) (fun _ h9 => h9) rfl hin rfl (by decide +kernel) rfl rfl (Nat.le_of_ble_eq_true rfl) dX7_init_96 (fun H locs hP hD hS => ?_)
  have hP : va_P (dC, dI) cls [(q, .inr (7, [.null, .null, .null, .ref q1, .ref q3, .ref q5, .ref q7, .ref q9, .ref q11, .ref q13, .int 0, .int 0, .ref q15, .ref q17, .ref q19, .long 0, .ref q21, .null, .null, .null, .int 0])), (q21, .inr (9, F24))] H := hP
  have hD : va_D A [(q, .inr (7, [.null, .null, .null, .ref q1, .ref q3, .ref q5, .ref q7, .ref q9, .ref q11, .ref q13, .int 0, .int 0, .ref q15, .ref q17, .ref q19, .long 0, .ref q21, .null, .null, .null, .int 0])), (q21, .inr (9, F24))] := hD
  have hP := hP.sub (ws' := [(q, .inr (7, [.null, .null, .null, .ref q1, .ref q3, .ref q5, .ref q7, .ref q9, .ref q11, .ref q13, .int 0, .int 0, .ref q15, .ref q17, .ref q19, .long 0, .ref q21, .null, .null, .null, .int 0]))]) [0] rfl
  have hD := hD.sub (ws' := [(q, .inr (7, [.null, .null, .null, .ref q1, .ref q3, .ref q5, .ref q7, .ref q9, .ref q11, .ref q13, .int 0, .int 0, .ref q15, .ref q17, .ref q19, .long 0, .ref q21, .null, .null, .null, .int 0]))]) [0] (by decide) rfl
  refine lv_aload_n hx hb dX7_init_99 rfl (lv_at hl 0 rfl) ?_
  refine lv_sipush (v := 256) hx hb dX7_init_100 (by decide) ?_
  refine va_newa (atype := .int) (ty := .int) (N' := 256) (a0 := (256, .inl (fun _ => 0))) hx hb (ht _ k_1_139) rfl hK hP hD hS hA (fun _ => rfl) (by decide) (by decide) (Nat.le_of_ble_eq_true rfl) (Nat.le_of_ble_eq_true rfl) (Nat.le_of_ble_eq_true rfl) dX7_init_103 (fun q27 c28 H hK hP hD hS => ?_)
  have hK : va_K (dC, dI) cls [(c2, .int), (c4, .int), (c6, .long), (c8, .int), (c10, .int), (c12, .int), (c14, .int), (c16, .int), (c18, .int), (c20, .long), (c28, .int)] s := hK
  have hP : va_P (dC, dI) cls [(q, .inr (7, [.null, .null, .null, .ref q1, .ref q3, .ref q5, .ref q7, .ref q9, .ref q11, .ref q13, .int 0, .int 0, .ref q15, .ref q17, .ref q19, .long 0, .ref q21, .null, .null, .null, .int 0])), (q27, .inl (c28, 256, .inl (fun _ => 0)))] H := hP
  have hD : va_D A [(q, .inr (7, [.null, .null, .null, .ref q1, .ref q3, .ref q5, .ref q7, .ref q9, .ref q11, .ref q13, .int 0, .int 0, .ref q15, .ref q17, .ref q19, .long 0, .ref q21, .null, .null, .null, .int 0])), (q27, .inl (c28, 256, .inl (fun _ => 0)))] := hD
  refine W.widen (k := 15) (n := 12052) (by omega) (by omega) ?_
  refine va_putF (D := (dC, dI)) (ci := 7) (v := .ref q27) (ty := .array .int) (C := RX7) (T := TX7) (N := 21) hx hb ht uX7 tyX7 tkX7 nmX7 hown hK hP hD hS 0 rfl rfl 17 (by decide) (ht _ k_2_204) (fun _ h9 => h9) rfl hin rfl (by decide +kernel) rfl rfl (Nat.le_of_ble_eq_true rfl) dX7_init_105 (fun H locs hP hD hS => ?_)
  have hP : va_P (dC, dI) cls [(q, .inr (7, [.null, .null, .null, .ref q1, .ref q3, .ref q5, .ref q7, .ref q9, .ref q11, .ref q13, .int 0, .int 0, .ref q15, .ref q17, .ref q19, .long 0, .ref q21, .ref q27, .null, .null, .int 0])), (q27, .inl (c28, 256, .inl (fun _ => 0)))] H := hP
  have hD : va_D A [(q, .inr (7, [.null, .null, .null, .ref q1, .ref q3, .ref q5, .ref q7, .ref q9, .ref q11, .ref q13, .int 0, .int 0, .ref q15, .ref q17, .ref q19, .long 0, .ref q21, .ref q27, .null, .null, .int 0])), (q27, .inl (c28, 256, .inl (fun _ => 0)))] := hD
  have hP := hP.sub (ws' := [(q, .inr (7, [.null, .null, .null, .ref q1, .ref q3, .ref q5, .ref q7, .ref q9, .ref q11, .ref q13, .int 0, .int 0, .ref q15, .ref q17, .ref q19, .long 0, .ref q21, .ref q27, .null, .null, .int 0]))]) [0] rfl
  have hD := hD.sub (ws' := [(q, .inr (7, [.null, .null, .null, .ref q1, .ref q3, .ref q5, .ref q7, .ref q9, .ref q11, .ref q13, .int 0, .int 0, .ref q15, .ref q17, .ref q19, .long 0, .ref q21, .ref q27, .null, .null, .int 0]))]) [0] (by decide) rfl
  refine lv_aload_n hx hb dX7_init_108 rfl (lv_at hl 0 rfl) ?_
  refine lv_sipush (v := 30976) hx hb dX7_init_109 (by decide) ?_
  refine va_newa (atype := .int) (ty := .int) (N' := 30976) (a0 := (30976, .inl (fun _ => 0))) hx hb (ht _ k_1_139) rfl hK hP hD hS hA (fun _ => rfl) (by decide) (by decide) (Nat.le_of_ble_eq_true rfl) (Nat.le_of_ble_eq_true rfl) (Nat.le_of_ble_eq_true rfl) dX7_init_112 (fun q29 c30 H hK hP hD hS => ?_)
  have hK : va_K (dC, dI) cls [(c2, .int), (c4, .int), (c6, .long), (c8, .int), (c10, .int), (c12, .int), (c14, .int), (c16, .int), (c18, .int), (c20, .long), (c28, .int), (c30, .int)] s := hK
  have hP : va_P (dC, dI) cls [(q, .inr (7, [.null, .null, .null, .ref q1, .ref q3, .ref q5, .ref q7, .ref q9, .ref q11, .ref q13, .int 0, .int 0, .ref q15, .ref q17, .ref q19, .long 0, .ref q21, .ref q27, .null, .null, .int 0])), (q29, .inl (c30, 30976, .inl (fun _ => 0)))] H := hP
  have hD : va_D A [(q, .inr (7, [.null, .null, .null, .ref q1, .ref q3, .ref q5, .ref q7, .ref q9, .ref q11, .ref q13, .int 0, .int 0, .ref q15, .ref q17, .ref q19, .long 0, .ref q21, .ref q27, .null, .null, .int 0])), (q29, .inl (c30, 30976, .inl (fun _ => 0)))] := hD
  refine W.widen (k := 16) (n := 43028) (by omega) (by omega) ?_
  refine va_putF (D := (dC, dI)) (ci := 7) (v := .ref q29) (ty := .array .int) (C := RX7) (T := TX7) (N := 21) hx hb ht uX7 tyX7 tkX7 nmX7 hown hK hP hD hS 0 rfl rfl 18 (by decide) (ht _ k_2_206) (fun _ h9 => h9) rfl hin rfl (by decide +kernel) rfl rfl (Nat.le_of_ble_eq_true rfl) dX7_init_114 (fun H locs hP hD hS => ?_)
  have hP : va_P (dC, dI) cls [(q, .inr (7, [.null, .null, .null, .ref q1, .ref q3, .ref q5, .ref q7, .ref q9, .ref q11, .ref q13, .int 0, .int 0, .ref q15, .ref q17, .ref q19, .long 0, .ref q21, .ref q27, .ref q29, .null, .int 0])), (q29, .inl (c30, 30976, .inl (fun _ => 0)))] H := hP
  have hD : va_D A [(q, .inr (7, [.null, .null, .null, .ref q1, .ref q3, .ref q5, .ref q7, .ref q9, .ref q11, .ref q13, .int 0, .int 0, .ref q15, .ref q17, .ref q19, .long 0, .ref q21, .ref q27, .ref q29, .null, .int 0])), (q29, .inl (c30, 30976, .inl (fun _ => 0)))] := hD
  have hP := hP.sub (ws' := [(q, .inr (7, [.null, .null, .null, .ref q1, .ref q3, .ref q5, .ref q7, .ref q9, .ref q11, .ref q13, .int 0, .int 0, .ref q15, .ref q17, .ref q19, .long 0, .ref q21, .ref q27, .ref q29, .null, .int 0]))]) [0] rfl
  have hD := hD.sub (ws' := [(q, .inr (7, [.null, .null, .null, .ref q1, .ref q3, .ref q5, .ref q7, .ref q9, .ref q11, .ref q13, .int 0, .int 0, .ref q15, .ref q17, .ref q19, .long 0, .ref q21, .ref q27, .ref q29, .null, .int 0]))]) [0] (by decide) rfl
  refine lv_aload_n hx hb dX7_init_117 rfl (lv_at hl 0 rfl) ?_
  refine va_new (ci := 9) (fs := [.null, .null, .null, .int 0]) (C := RX9) (T := TX9) (N := 4) hx hb ht uX9 tyX9 tkX9 hown (ht _ k_2_134) (ht _ k_1_101) (ht _ k_1_7) hK hP hD hS hA rfl (by decide +kernel) (Nat.le_of_ble_eq_true rfl) (Nat.le_of_ble_eq_true rfl) dX7_init_118 (fun q31 H hP hD hS => ?_)
  have hP : va_P (dC, dI) cls [(q, .inr (7, [.null, .null, .null, .ref q1, .ref q3, .ref q5, .ref q7, .ref q9, .ref q11, .ref q13, .int 0, .int 0, .ref q15, .ref q17, .ref q19, .long 0, .ref q21, .ref q27, .ref q29, .null, .int 0])), (q31, .inr (9, [.null, .null, .null, .int 0]))] H := hP
  have hD : va_D A [(q, .inr (7, [.null, .null, .null, .ref q1, .ref q3, .ref q5, .ref q7, .ref q9, .ref q11, .ref q13, .int 0, .int 0, .ref q15, .ref q17, .ref q19, .long 0, .ref q21, .ref q27, .ref q29, .null, .int 0])), (q31, .inr (9, [.null, .null, .null, .int 0]))] := hD
  refine W.widen (k := 17) (n := 43032) (by omega) (by omega) ?_
  refine lv_dup hx hb dX7_init_121 rfl ?_
  refine lv_sipush (v := 134) hx hb dX7_init_122 (by decide) ?_
  refine ca_v (wr := [(q, .inr (7, [.null, .null, .null, .ref q1, .ref q3, .ref q5, .ref q7, .ref q9, .ref q11, .ref q13, .int 0, .int 0, .ref q15, .ref q17, .ref q19, .long 0, .ref q21, .ref q27, .ref q29, .null, .int 0]))]) (va_runI (As := [.int 134]) (rest := [.ref q31, .ref q]) ⟨hx, hb, hml, hown, ht⟩ (k9_134 l dC dI H.size q31  ) (cwI 1 ht (gdI k_1_104) rfl rfl rfl (ht _ k_1_7) (ht _ k_2_135) (ht _ k_1_103) rfl (by decide +kernel) ⟨Nat.le_of_ble_eq_true rfl, Nat.le_of_ble_eq_true rfl⟩) ⟨pcw_blind, pcw_at hP hD hK [1] [] (by decide) rfl rfl rfl⟩ rfl rfl hl.1 rfl (lv_room (Nat.le_of_ble_eq_true rfl)) dX7_init_125 ⟨Nat.le_of_ble_eq_true rfl, Nat.le_of_ble_eq_true rfl⟩) hP hD hK hS hA [1] [0] rfl rfl (by decide) (by decide) (fun u H locs w33 hK hP hD hS => ?_)
  obtain ⟨F34, rfl⟩ : ∃ z, z = u := ⟨_, rfl⟩
  have hK : va_K (dC, dI) cls [(c2, .int), (c4, .int), (c6, .long), (c8, .int), (c10, .int), (c12, .int), (c14, .int), (c16, .int), (c18, .int), (c20, .long), (c28, .int), (c30, .int)] s := hK
  have hP : va_P (dC, dI) cls [(q, .inr (7, [.null, .null, .null, .ref q1, .ref q3, .ref q5, .ref q7, .ref q9, .ref q11, .ref q13, .int 0, .int 0, .ref q15, .ref q17, .ref q19, .long 0, .ref q21, .ref q27, .ref q29, .null, .int 0])), (q31, .inr (9, F34))] H := hP
  have hD : va_D A [(q, .inr (7, [.null, .null, .null, .ref q1, .ref q3, .ref q5, .ref q7, .ref q9, .ref q11, .ref q13, .int 0, .int 0, .ref q15, .ref q17, .ref q19, .long 0, .ref q21, .ref q27, .ref q29, .null, .int 0])), (q31, .inr (9, F34))] := hD
  refine W.widen (k := 20) (n := 43434) (by omega) (by omega) ?_
  obtain ⟨w33, K35, K36⟩ := w33
  refine va_putF (D := (dC, dI)) (ci := 7) (v := .ref q31) (ty := .object "FinderHouse$Term") (C := RX7) (T := TX7) (N := 21) hx hb ht uX7 tyX7 tkX7 nmX7 hown hK hP hD hS 0 rfl rfl 19 (by decide) (ht _ k_2_207) (fun _ h9 => h9) rfl hin rfl (by decide +kernel) rfl rfl (Nat.le_of_ble_eq_true rfl) dX7_init_128 (fun H locs hP hD hS => ?_)
  have hP : va_P (dC, dI) cls [(q, .inr (7, [.null, .null, .null, .ref q1, .ref q3, .ref q5, .ref q7, .ref q9, .ref q11, .ref q13, .int 0, .int 0, .ref q15, .ref q17, .ref q19, .long 0, .ref q21, .ref q27, .ref q29, .ref q31, .int 0])), (q31, .inr (9, F34))] H := hP
  have hD : va_D A [(q, .inr (7, [.null, .null, .null, .ref q1, .ref q3, .ref q5, .ref q7, .ref q9, .ref q11, .ref q13, .int 0, .int 0, .ref q15, .ref q17, .ref q19, .long 0, .ref q21, .ref q27, .ref q29, .ref q31, .int 0])), (q31, .inr (9, F34))] := hD
  have hP := hP.sub (ws' := [(q, .inr (7, [.null, .null, .null, .ref q1, .ref q3, .ref q5, .ref q7, .ref q9, .ref q11, .ref q13, .int 0, .int 0, .ref q15, .ref q17, .ref q19, .long 0, .ref q21, .ref q27, .ref q29, .ref q31, .int 0]))]) [0] rfl
  have hD := hD.sub (ws' := [(q, .inr (7, [.null, .null, .null, .ref q1, .ref q3, .ref q5, .ref q7, .ref q9, .ref q11, .ref q13, .int 0, .int 0, .ref q15, .ref q17, .ref q19, .long 0, .ref q21, .ref q27, .ref q29, .ref q31, .int 0]))]) [0] (by decide) rfl
  refine lv_aload_n hx hb dX7_init_131 rfl (lv_at hl 0 rfl) ?_
  refine lv_aload_n hx hb dX7_init_132 rfl (lv_at hl 1 rfl) ?_
  refine va_putF (D := (dC, dI)) (ci := 7) (v := .ref ac) (ty := .object "FinderHouse$Acts") (C := RX7) (T := TX7) (N := 21) hx hb ht uX7 tyX7 tkX7 nmX7 hown hK hP hD hS 0 rfl rfl 0 (by decide) (ht _ k_2_185) (fun _ h9 => h9) rfl hin rfl (by decide +kernel) rfl rfl (Nat.le_of_ble_eq_true rfl) dX7_init_133 (fun H locs hP hD hS => ?_)
  have hP : va_P (dC, dI) cls [(q, .inr (7, [.ref ac, .null, .null, .ref q1, .ref q3, .ref q5, .ref q7, .ref q9, .ref q11, .ref q13, .int 0, .int 0, .ref q15, .ref q17, .ref q19, .long 0, .ref q21, .ref q27, .ref q29, .ref q31, .int 0]))] H := hP
  have hD : va_D A [(q, .inr (7, [.ref ac, .null, .null, .ref q1, .ref q3, .ref q5, .ref q7, .ref q9, .ref q11, .ref q13, .int 0, .int 0, .ref q15, .ref q17, .ref q19, .long 0, .ref q21, .ref q27, .ref q29, .ref q31, .int 0]))] := hD
  refine lv_aload_n hx hb dX7_init_136 rfl (lv_at hl 0 rfl) ?_
  refine va_new (ci := 3) (fs := [.null, .null, .null, .null, .null, .null, .int 0, .int 0, .null, .null, .null, .int 0]) (C := RX3) (T := TX3) (N := 12) hx hb ht uX3 tyX3 tkX3 hown (ht _ k_2_136) (ht _ k_2_137) (ht _ k_1_11) hK hP hD hS hA rfl (by decide +kernel) (Nat.le_of_ble_eq_true rfl) (Nat.le_of_ble_eq_true rfl) dX7_init_137 (fun q37 H hP hD hS => ?_)
  have hP : va_P (dC, dI) cls [(q, .inr (7, [.ref ac, .null, .null, .ref q1, .ref q3, .ref q5, .ref q7, .ref q9, .ref q11, .ref q13, .int 0, .int 0, .ref q15, .ref q17, .ref q19, .long 0, .ref q21, .ref q27, .ref q29, .ref q31, .int 0])), (q37, .inr (3, [.null, .null, .null, .null, .null, .null, .int 0, .int 0, .null, .null, .null, .int 0]))] H := hP
  have hD : va_D A [(q, .inr (7, [.ref ac, .null, .null, .ref q1, .ref q3, .ref q5, .ref q7, .ref q9, .ref q11, .ref q13, .int 0, .int 0, .ref q15, .ref q17, .ref q19, .long 0, .ref q21, .ref q27, .ref q29, .ref q31, .int 0])), (q37, .inr (3, [.null, .null, .null, .null, .null, .null, .int 0, .int 0, .null, .null, .null, .int 0]))] := hD
  refine W.widen (k := 21) (n := 43446) (by omega) (by omega) ?_
  refine lv_dup hx hb dX7_init_140 rfl ?_
  refine lv_aload_n hx hb dX7_init_141 rfl (lv_at hl 1 rfl) ?_
  refine ca_v (wr := [(q, .inr (7, [.ref ac, .null, .null, .ref q1, .ref q3, .ref q5, .ref q7, .ref q9, .ref q11, .ref q13, .int 0, .int 0, .ref q15, .ref q17, .ref q19, .long 0, .ref q21, .ref q27, .ref q29, .ref q31, .int 0]))]) (va_runI (As := [.ref ac]) (rest := [.ref q37, .ref q]) ⟨hx, hb, hml, hown, ht⟩ (k3 l dC dI H.size q37 ac  ) (cwI 1 ht (gdI k_2_140) rfl rfl rfl (ht _ k_1_11) (ht _ k_2_138) (ht _ k_2_139) rfl (by decide +kernel) ⟨Nat.le_of_ble_eq_true rfl, Nat.le_of_ble_eq_true rfl⟩) ⟨pcw_blind, pcw_at hP hD hK [1] [] (by decide) rfl rfl rfl⟩ rfl rfl hl.1 rfl (lv_room (Nat.le_of_ble_eq_true rfl)) dX7_init_142 ⟨Nat.le_of_ble_eq_true rfl, Nat.le_of_ble_eq_true rfl⟩) hP hD hK hS hA [1] [0] rfl rfl (by decide) (by decide) (fun u H locs w39 hK hP hD hS => ?_)
  obtain ⟨F40, rfl⟩ : ∃ z, z = u := ⟨_, rfl⟩
  have hK : va_K (dC, dI) cls [(c2, .int), (c4, .int), (c6, .long), (c8, .int), (c10, .int), (c12, .int), (c14, .int), (c16, .int), (c18, .int), (c20, .long), (c28, .int), (c30, .int)] s := hK
  have hP : va_P (dC, dI) cls [(q, .inr (7, [.ref ac, .null, .null, .ref q1, .ref q3, .ref q5, .ref q7, .ref q9, .ref q11, .ref q13, .int 0, .int 0, .ref q15, .ref q17, .ref q19, .long 0, .ref q21, .ref q27, .ref q29, .ref q31, .int 0])), (q37, .inr (3, F40))] H := hP
  have hD : va_D A [(q, .inr (7, [.ref ac, .null, .null, .ref q1, .ref q3, .ref q5, .ref q7, .ref q9, .ref q11, .ref q13, .int 0, .int 0, .ref q15, .ref q17, .ref q19, .long 0, .ref q21, .ref q27, .ref q29, .ref q31, .int 0])), (q37, .inr (3, F40))] := hD
  refine W.widen (k := 28) (n := 265253) (by omega) (by omega) ?_
  obtain ⟨w39, K41⟩ := w39
  refine va_putF (D := (dC, dI)) (ci := 7) (v := .ref q37) (ty := .object "FinderHouse$Functions") (C := RX7) (T := TX7) (N := 21) hx hb ht uX7 tyX7 tkX7 nmX7 hown hK hP hD hS 0 rfl rfl 1 (by decide) (ht _ k_2_186) (fun _ h9 => h9) rfl hin rfl (by decide +kernel) rfl rfl (Nat.le_of_ble_eq_true rfl) dX7_init_145 (fun H locs hP hD hS => ?_)
  have hP : va_P (dC, dI) cls [(q, .inr (7, [.ref ac, .ref q37, .null, .ref q1, .ref q3, .ref q5, .ref q7, .ref q9, .ref q11, .ref q13, .int 0, .int 0, .ref q15, .ref q17, .ref q19, .long 0, .ref q21, .ref q27, .ref q29, .ref q31, .int 0])), (q37, .inr (3, F40))] H := hP
  have hD : va_D A [(q, .inr (7, [.ref ac, .ref q37, .null, .ref q1, .ref q3, .ref q5, .ref q7, .ref q9, .ref q11, .ref q13, .int 0, .int 0, .ref q15, .ref q17, .ref q19, .long 0, .ref q21, .ref q27, .ref q29, .ref q31, .int 0])), (q37, .inr (3, F40))] := hD
  have hP := hP.sub (ws' := [(q, .inr (7, [.ref ac, .ref q37, .null, .ref q1, .ref q3, .ref q5, .ref q7, .ref q9, .ref q11, .ref q13, .int 0, .int 0, .ref q15, .ref q17, .ref q19, .long 0, .ref q21, .ref q27, .ref q29, .ref q31, .int 0]))]) [0] rfl
  have hD := hD.sub (ws' := [(q, .inr (7, [.ref ac, .ref q37, .null, .ref q1, .ref q3, .ref q5, .ref q7, .ref q9, .ref q11, .ref q13, .int 0, .int 0, .ref q15, .ref q17, .ref q19, .long 0, .ref q21, .ref q27, .ref q29, .ref q31, .int 0]))]) [0] (by decide) rfl
  exact W.vret hx hb hr (fun t ht9 hW => ⟨⟨([.ref ac, .ref q37, .null, .ref q1, .ref q3, .ref q5, .ref q7, .ref q9, .ref q11, .ref q13, .int 0, .int 0, .ref q15, .ref q17, .ref q19, .long 0, .ref q21, .ref q27, .ref q29, .ref q31, .int 0]), rfl, ⟨trivial, rfl⟩, by rw [ht9]; exact hP.sub [0] rfl, va_K.moved hW.alike (hK.sub [] rfl), hD.sub [0] (by decide) rfl⟩, hS.F ht9⟩) hS.2.2 dX7_init_148
set_option maxHeartbeats 4000000 in
set_option maxRecDepth 100000 in
theorem k8 (l : Launch) (dC : Nat → ClassId) (dI : Nat → Nat → Nat) (sz : Nat) (q : Nat) (ac : Nat)  : Met l yX8_init (Cond.code yX8_init cX8_init 3 none :: tb) ({ frames := 2, cells := 75, slots := 8306, locals := 33 }) (pcx [.inr (.inr (.inr (.inl "FinderHouse$Term")))] [.ref q, .ref ac] (dC, dI) [(q, .inr (8, [.null, .null, .null, .int 0, .int 0, .null, .null, .int 0, .null, .int 0, .null, .null, .null, .int 0, .null, .int 0, .null, .null, .null, .null, .null, .null]))] [] sz) (va_Qv (fun (u : (List Value) × Nat × (List Value)) => match u with | (fs1, tm, ft1) => (True) ∧ (fs1.length = 22) ∧ (fs1[1]? = some (.ref tm)) ∧ (fs1[3]? = some (.int 0)) ∧ (fs1[7]? = some (.int 0)) ∧ (fs1[9]? = some (.int 0)) ∧ (ft1.length = 4) ∧ (ft1[3]? = some (.int 0))) (bw (dC, dI) (va_A [(q, .inr (8, [.null, .null, .null, .int 0, .int 0, .null, .null, .int 0, .null, .int 0, .null, .null, .null, .int 0, .null, .int 0, .null, .null, .null, .null, .null, .null]))] sz) (fun (u : (List Value) × Nat × (List Value)) => match u with | (fs1, tm, ft1) => [(q, .inr (8, fs1)), (tm, .inr (9, ft1))]) (fun (u : (List Value) × Nat × (List Value)) => match u with | (fs1, tm, ft1) => [])) (va_A [(q, .inr (8, [.null, .null, .null, .int 0, .int 0, .null, .null, .int 0, .null, .int 0, .null, .null, .null, .int 0, .null, .int 0, .null, .null, .null, .null, .null, .null]))] sz)) 75 8306 (va_A [(q, .inr (8, [.null, .null, .null, .int 0, .int 0, .null, .null, .int 0, .null, .int 0, .null, .null, .null, .int 0, .null, .int 0, .null, .null, .null, .null, .null, .null]))] sz) := by
  refine Met.ofW (cc := cX8_init) (maxL := 3) (ret := none) (by decide) rfl ?_
  intro p e s m args below meth c s₁ B hml hv
  obtain ⟨rfl, hsz, hP, hK, hD0, hE⟩ := hv
  have hx := B.exec
  have hb := B.bytes
  have hr := B.returns
  have hts := atoms_spec (ws := Cond.code yX8_init cX8_init 3 none :: tb) B.pre
  have ht : ∀ w ∈ tb, w.before _ s = true := fun w h => hts w (List.mem_cons_of_mem _ h)
  have hown : s.vm.findClass RX8 = some m.cls := findClass_of_methodNamed B.named
  have hlocks := B.notSynchronized
  have hin : meth.name = "<init>" := (name_of_methodNamed B.named B.method).1
  subst hsz
  have hD := hD0.self (sz := s.heap.size)
  generalize hAe : va_A [(q, .inr (8, [.null, .null, .null, .int 0, .int 0, .null, .null, .int 0, .null, .int 0, .null, .null, .null, .int 0, .null, .int 0, .null, .null, .null, .null, .null, .null]))] s.heap.size = A at hD hE ⊢
  have hA : ∀ q : Nat, s.heap.size ≤ q → A q := fun q h => by rw [← hAe]; exact Or.inr h
  have hS : va_S A s.heap s.heap [] := va_S.rf
  have hl := lv_entry ([.ref q, .ref ac]) (n := 3) (Nat.le_of_ble_eq_true rfl)
  rw [lg_entry_eq]
  generalize (lg_sl ([.ref q, .ref ac]) ++ List.replicate (3 - (lg_sl ([.ref q, .ref ac])).length) Slot.unset).toArray = ls at hl ⊢
  have hl : lv_has ls 3 [(0, .ref q), (1, .ref ac)] := hl
  have hP : va_P (dC, dI) cls [(q, .inr (8, [.null, .null, .null, .int 0, .int 0, .null, .null, .int 0, .null, .int 0, .null, .null, .null, .int 0, .null, .int 0, .null, .null, .null, .null, .null, .null]))] s.heap := hP
  refine lv_aload_n hx hb dX8_init_0 rfl (lv_at hl 0 rfl) ?_
  refine tk_o hx hb hown ht k_3_19 k_1_36 k_1_37 hml hl.1 dX8_init_1 (Nat.le_of_ble_eq_true rfl) (Nat.le_of_ble_eq_true rfl) ?_
  refine lv_aload_n hx hb dX8_init_4 rfl (lv_at hl 0 rfl) ?_
  refine va_new (ci := 9) (fs := [.null, .null, .null, .int 0]) (C := RX9) (T := TX9) (N := 4) hx hb ht uX9 tyX9 tkX9 hown (ht _ k_3_20) (ht _ k_1_101) (ht _ k_1_7) hK hP hD hS hA rfl (by decide +kernel) (Nat.le_of_ble_eq_true rfl) (Nat.le_of_ble_eq_true rfl) dX8_init_5 (fun q1 H hP hD hS => ?_)
  have hP : va_P (dC, dI) cls [(q, .inr (8, [.null, .null, .null, .int 0, .int 0, .null, .null, .int 0, .null, .int 0, .null, .null, .null, .int 0, .null, .int 0, .null, .null, .null, .null, .null, .null])), (q1, .inr (9, [.null, .null, .null, .int 0]))] H := hP
  have hD : va_D A [(q, .inr (8, [.null, .null, .null, .int 0, .int 0, .null, .null, .int 0, .null, .int 0, .null, .null, .null, .int 0, .null, .int 0, .null, .null, .null, .null, .null, .null])), (q1, .inr (9, [.null, .null, .null, .int 0]))] := hD
  refine W.widen (k := 1) (n := 4) (by omega) (by omega) ?_
  refine lv_dup hx hb dX8_init_8 rfl ?_
  refine lv_sipush (v := 134) hx hb dX8_init_9 (by decide) ?_
  refine ca_v (wr := [(q, .inr (8, [.null, .null, .null, .int 0, .int 0, .null, .null, .int 0, .null, .int 0, .null, .null, .null, .int 0, .null, .int 0, .null, .null, .null, .null, .null, .null]))]) (va_runI (As := [.int 134]) (rest := [.ref q1, .ref q]) ⟨hx, hb, hml, hown, ht⟩ (k9_134 l dC dI H.size q1  ) (cwI 1 ht (gdI k_1_104) rfl rfl rfl (ht _ k_1_7) (ht _ k_3_21) (ht _ k_1_103) rfl (by decide +kernel) ⟨Nat.le_of_ble_eq_true rfl, Nat.le_of_ble_eq_true rfl⟩) ⟨pcw_blind, pcw_at hP hD hK [1] [] (by decide) rfl rfl rfl⟩ rfl rfl hl.1 rfl (lv_room (Nat.le_of_ble_eq_true rfl)) dX8_init_12 ⟨Nat.le_of_ble_eq_true rfl, Nat.le_of_ble_eq_true rfl⟩) hP hD hK hS hA [1] [0] rfl rfl (by decide) (by decide) (fun u H locs w3 hK hP hD hS => ?_)
  obtain ⟨F4, rfl⟩ : ∃ z, z = u := ⟨_, rfl⟩
  have hK : va_K (dC, dI) cls [] s := hK
  have hP : va_P (dC, dI) cls [(q, .inr (8, [.null, .null, .null, .int 0, .int 0, .null, .null, .int 0, .null, .int 0, .null, .null, .null, .int 0, .null, .int 0, .null, .null, .null, .null, .null, .null])), (q1, .inr (9, F4))] H := hP
  have hD : va_D A [(q, .inr (8, [.null, .null, .null, .int 0, .int 0, .null, .null, .int 0, .null, .int 0, .null, .null, .null, .int 0, .null, .int 0, .null, .null, .null, .null, .null, .null])), (q1, .inr (9, F4))] := hD
  refine W.widen (k := 4) (n := 406) (by omega) (by omega) ?_
  obtain ⟨w3, K5, K6⟩ := w3
  refine va_putF (D := (dC, dI)) (ci := 8) (v := .ref q1) (ty := .object "FinderHouse$Term") (C := RX8) (T := TX8) (N := 22) hx hb ht uX8 tyX8 tkX8 nmX8 hown hK hP hD hS 0 rfl rfl 1 (by decide) (ht _ k_3_23) (fun _ h9 => h9) rfl hin rfl (by decide +kernel) rfl rfl (Nat.le_of_ble_eq_true rfl) dX8_init_15 (fun H locs hP hD hS => ?_)
  have hP : va_P (dC, dI) cls [(q, .inr (8, [.null, .ref q1, .null, .int 0, .int 0, .null, .null, .int 0, .null, .int 0, .null, .null, .null, .int 0, .null, .int 0, .null, .null, .null, .null, .null, .null])), (q1, .inr (9, F4))] H := hP
  have hD : va_D A [(q, .inr (8, [.null, .ref q1, .null, .int 0, .int 0, .null, .null, .int 0, .null, .int 0, .null, .null, .null, .int 0, .null, .int 0, .null, .null, .null, .null, .null, .null])), (q1, .inr (9, F4))] := hD
  refine lv_aload_n hx hb dX8_init_18 rfl (lv_at hl 0 rfl) ?_
  refine lv_sipush (v := 2048) hx hb dX8_init_19 (by decide) ?_
  refine va_newa (atype := .byte) (ty := .byte) (N' := 2048) (a0 := (2048, .inl (fun _ => 0))) hx hb (ht _ k_1_137) rfl hK hP hD hS hA (fun _ => rfl) (by decide) (by decide) (Nat.le_of_ble_eq_true rfl) (Nat.le_of_ble_eq_true rfl) (Nat.le_of_ble_eq_true rfl) dX8_init_22 (fun q7 c8 H hK hP hD hS => ?_)
  have hK : va_K (dC, dI) cls [(c8, .byte)] s := hK
  have hP : va_P (dC, dI) cls [(q, .inr (8, [.null, .ref q1, .null, .int 0, .int 0, .null, .null, .int 0, .null, .int 0, .null, .null, .null, .int 0, .null, .int 0, .null, .null, .null, .null, .null, .null])), (q1, .inr (9, F4)), (q7, .inl (c8, 2048, .inl (fun _ => 0)))] H := hP
  have hD : va_D A [(q, .inr (8, [.null, .ref q1, .null, .int 0, .int 0, .null, .null, .int 0, .null, .int 0, .null, .null, .null, .int 0, .null, .int 0, .null, .null, .null, .null, .null, .null])), (q1, .inr (9, F4)), (q7, .inl (c8, 2048, .inl (fun _ => 0)))] := hD
  refine W.widen (k := 5) (n := 2454) (by omega) (by omega) ?_
  refine va_putF (D := (dC, dI)) (ci := 8) (v := .ref q7) (ty := .array .byte) (C := RX8) (T := TX8) (N := 22) hx hb ht uX8 tyX8 tkX8 nmX8 hown hK hP hD hS 0 rfl rfl 2 (by decide) (ht _ k_3_25) (fun _ h9 => h9) rfl hin rfl (by decide +kernel) rfl rfl (Nat.le_of_ble_eq_true rfl) dX8_init_24 (fun H locs hP hD hS => ?_)
  have hP : va_P (dC, dI) cls [(q, .inr (8, [.null, .ref q1, .ref q7, .int 0, .int 0, .null, .null, .int 0, .null, .int 0, .null, .null, .null, .int 0, .null, .int 0, .null, .null, .null, .null, .null, .null])), (q1, .inr (9, F4)), (q7, .inl (c8, 2048, .inl (fun _ => 0)))] H := hP
  have hD : va_D A [(q, .inr (8, [.null, .ref q1, .ref q7, .int 0, .int 0, .null, .null, .int 0, .null, .int 0, .null, .null, .null, .int 0, .null, .int 0, .null, .null, .null, .null, .null, .null])), (q1, .inr (9, F4)), (q7, .inl (c8, 2048, .inl (fun _ => 0)))] := hD
  have hP := hP.sub (ws' := [(q, .inr (8, [.null, .ref q1, .ref q7, .int 0, .int 0, .null, .null, .int 0, .null, .int 0, .null, .null, .null, .int 0, .null, .int 0, .null, .null, .null, .null, .null, .null])), (q1, .inr (9, F4))]) [0, 1] rfl
  have hD := hD.sub (ws' := [(q, .inr (8, [.null, .ref q1, .ref q7, .int 0, .int 0, .null, .null, .int 0, .null, .int 0, .null, .null, .null, .int 0, .null, .int 0, .null, .null, .null, .null, .null, .null])), (q1, .inr (9, F4))]) [0, 1] (by decide) rfl
  refine lv_aload_n hx hb dX8_init_27 rfl (lv_at hl 0 rfl) ?_
  refine lv_iconst (v := 3) hx hb dX8_init_28 (by decide) ?_
  refine va_newa (atype := .int) (ty := .int) (N' := 3) (a0 := (3, .inl (fun _ => 0))) hx hb (ht _ k_1_139) rfl hK hP hD hS hA (fun _ => rfl) (by decide) (by decide) (Nat.le_of_ble_eq_true rfl) (Nat.le_of_ble_eq_true rfl) (Nat.le_of_ble_eq_true rfl) dX8_init_29 (fun q9 c10 H hK hP hD hS => ?_)
  have hK : va_K (dC, dI) cls [(c8, .byte), (c10, .int)] s := hK
  have hP : va_P (dC, dI) cls [(q, .inr (8, [.null, .ref q1, .ref q7, .int 0, .int 0, .null, .null, .int 0, .null, .int 0, .null, .null, .null, .int 0, .null, .int 0, .null, .null, .null, .null, .null, .null])), (q1, .inr (9, F4)), (q9, .inl (c10, 3, .inl (fun _ => 0)))] H := hP
  have hD : va_D A [(q, .inr (8, [.null, .ref q1, .ref q7, .int 0, .int 0, .null, .null, .int 0, .null, .int 0, .null, .null, .null, .int 0, .null, .int 0, .null, .null, .null, .null, .null, .null])), (q1, .inr (9, F4)), (q9, .inl (c10, 3, .inl (fun _ => 0)))] := hD
  refine W.widen (k := 6) (n := 2457) (by omega) (by omega) ?_
  refine va_putF (D := (dC, dI)) (ci := 8) (v := .ref q9) (ty := .array .int) (C := RX8) (T := TX8) (N := 22) hx hb ht uX8 tyX8 tkX8 nmX8 hown hK hP hD hS 0 rfl rfl 5 (by decide) (ht _ k_3_31) (fun _ h9 => h9) rfl hin rfl (by decide +kernel) rfl rfl (Nat.le_of_ble_eq_true rfl) dX8_init_31 (fun H locs hP hD hS => ?_)
  have hP : va_P (dC, dI) cls [(q, .inr (8, [.null, .ref q1, .ref q7, .int 0, .int 0, .ref q9, .null, .int 0, .null, .int 0, .null, .null, .null, .int 0, .null, .int 0, .null, .null, .null, .null, .null, .null])), (q1, .inr (9, F4)), (q9, .inl (c10, 3, .inl (fun _ => 0)))] H := hP
  have hD : va_D A [(q, .inr (8, [.null, .ref q1, .ref q7, .int 0, .int 0, .ref q9, .null, .int 0, .null, .int 0, .null, .null, .null, .int 0, .null, .int 0, .null, .null, .null, .null, .null, .null])), (q1, .inr (9, F4)), (q9, .inl (c10, 3, .inl (fun _ => 0)))] := hD
  have hP := hP.sub (ws' := [(q, .inr (8, [.null, .ref q1, .ref q7, .int 0, .int 0, .ref q9, .null, .int 0, .null, .int 0, .null, .null, .null, .int 0, .null, .int 0, .null, .null, .null, .null, .null, .null])), (q1, .inr (9, F4))]) [0, 1] rfl
  have hD := hD.sub (ws' := [(q, .inr (8, [.null, .ref q1, .ref q7, .int 0, .int 0, .ref q9, .null, .int 0, .null, .int 0, .null, .null, .null, .int 0, .null, .int 0, .null, .null, .null, .null, .null, .null])), (q1, .inr (9, F4))]) [0, 1] (by decide) rfl
  refine lv_aload_n hx hb dX8_init_34 rfl (lv_at hl 0 rfl) ?_
  refine lv_sipush (v := 256) hx hb dX8_init_35 (by decide) ?_
  refine va_newa (atype := .int) (ty := .int) (N' := 256) (a0 := (256, .inl (fun _ => 0))) hx hb (ht _ k_1_139) rfl hK hP hD hS hA (fun _ => rfl) (by decide) (by decide) (Nat.le_of_ble_eq_true rfl) (Nat.le_of_ble_eq_true rfl) (Nat.le_of_ble_eq_true rfl) dX8_init_38 (fun q11 c12 H hK hP hD hS => ?_)
  have hK : va_K (dC, dI) cls [(c8, .byte), (c10, .int), (c12, .int)] s := hK
  have hP : va_P (dC, dI) cls [(q, .inr (8, [.null, .ref q1, .ref q7, .int 0, .int 0, .ref q9, .null, .int 0, .null, .int 0, .null, .null, .null, .int 0, .null, .int 0, .null, .null, .null, .null, .null, .null])), (q1, .inr (9, F4)), (q11, .inl (c12, 256, .inl (fun _ => 0)))] H := hP
  have hD : va_D A [(q, .inr (8, [.null, .ref q1, .ref q7, .int 0, .int 0, .ref q9, .null, .int 0, .null, .int 0, .null, .null, .null, .int 0, .null, .int 0, .null, .null, .null, .null, .null, .null])), (q1, .inr (9, F4)), (q11, .inl (c12, 256, .inl (fun _ => 0)))] := hD
  refine W.widen (k := 7) (n := 2713) (by omega) (by omega) ?_
  refine va_putF (D := (dC, dI)) (ci := 8) (v := .ref q11) (ty := .array .int) (C := RX8) (T := TX8) (N := 22) hx hb ht uX8 tyX8 tkX8 nmX8 hown hK hP hD hS 0 rfl rfl 6 (by decide) (ht _ k_3_33) (fun _ h9 => h9) rfl hin rfl (by decide +kernel) rfl rfl (Nat.le_of_ble_eq_true rfl) dX8_init_40 (fun H locs hP hD hS => ?_)
  have hP : va_P (dC, dI) cls [(q, .inr (8, [.null, .ref q1, .ref q7, .int 0, .int 0, .ref q9, .ref q11, .int 0, .null, .int 0, .null, .null, .null, .int 0, .null, .int 0, .null, .null, .null, .null, .null, .null])), (q1, .inr (9, F4)), (q11, .inl (c12, 256, .inl (fun _ => 0)))] H := hP
  have hD : va_D A [(q, .inr (8, [.null, .ref q1, .ref q7, .int 0, .int 0, .ref q9, .ref q11, .int 0, .null, .int 0, .null, .null, .null, .int 0, .null, .int 0, .null, .null, .null, .null, .null, .null])), (q1, .inr (9, F4)), (q11, .inl (c12, 256, .inl (fun _ => 0)))] := hD
  have hP := hP.sub (ws' := [(q, .inr (8, [.null, .ref q1, .ref q7, .int 0, .int 0, .ref q9, .ref q11, .int 0, .null, .int 0, .null, .null, .null, .int 0, .null, .int 0, .null, .null, .null, .null, .null, .null])), (q1, .inr (9, F4))]) [0, 1] rfl
  have hD := hD.sub (ws' := [(q, .inr (8, [.null, .ref q1, .ref q7, .int 0, .int 0, .ref q9, .ref q11, .int 0, .null, .int 0, .null, .null, .null, .int 0, .null, .int 0, .null, .null, .null, .null, .null, .null])), (q1, .inr (9, F4))]) [0, 1] (by decide) rfl
  refine lv_aload_n hx hb dX8_init_43 rfl (lv_at hl 0 rfl) ?_
  refine lv_bipush (v := 12) hx hb dX8_init_44 (by decide) ?_
  refine va_newq (C := "FinderHouse$Term") (N' := 12) hx hb hown (ht _ k_3_20) (xf_o hE 0 rfl) hK hP hD hS hA (by decide) (by decide) (Nat.le_of_ble_eq_true rfl) (Nat.le_of_ble_eq_true rfl) (Nat.le_of_ble_eq_true rfl) dX8_init_46 (fun q13 c14 H hK hP hD hS => ?_)
  have hK : va_K (dC, dI) cls [(c8, .byte), (c10, .int), (c12, .int), (c14, .object "FinderHouse$Term")] s := hK
  have hP : va_P (dC, dI) cls [(q, .inr (8, [.null, .ref q1, .ref q7, .int 0, .int 0, .ref q9, .ref q11, .int 0, .null, .int 0, .null, .null, .null, .int 0, .null, .int 0, .null, .null, .null, .null, .null, .null])), (q1, .inr (9, F4)), (q13, .inl (c14, 12, .inr (.inr (.inr (.inr (fun _ => none))))))] H := hP
  have hD : va_D A [(q, .inr (8, [.null, .ref q1, .ref q7, .int 0, .int 0, .ref q9, .ref q11, .int 0, .null, .int 0, .null, .null, .null, .int 0, .null, .int 0, .null, .null, .null, .null, .null, .null])), (q1, .inr (9, F4)), (q13, .inl (c14, 12, .inr (.inr (.inr (.inr (fun _ => none))))))] := hD
  refine W.widen (k := 8) (n := 2725) (by omega) (by omega) ?_
  refine va_putF (D := (dC, dI)) (ci := 8) (v := .ref q13) (ty := .array (.object "FinderHouse$Term")) (C := RX8) (T := TX8) (N := 22) hx hb ht uX8 tyX8 tkX8 nmX8 hown hK hP hD hS 0 rfl rfl 8 (by decide) (ht _ k_3_37) (fun _ h9 => h9) rfl hin rfl (by decide +kernel) rfl rfl (Nat.le_of_ble_eq_true rfl) dX8_init_49 (fun H locs hP hD hS => ?_)
  have hP : va_P (dC, dI) cls [(q, .inr (8, [.null, .ref q1, .ref q7, .int 0, .int 0, .ref q9, .ref q11, .int 0, .ref q13, .int 0, .null, .null, .null, .int 0, .null, .int 0, .null, .null, .null, .null, .null, .null])), (q1, .inr (9, F4)), (q13, .inl (c14, 12, .inr (.inr (.inr (.inr (fun _ => none))))))] H := hP
  have hD : va_D A [(q, .inr (8, [.null, .ref q1, .ref q7, .int 0, .int 0, .ref q9, .ref q11, .int 0, .ref q13, .int 0, .null, .null, .null, .int 0, .null, .int 0, .null, .null, .null, .null, .null, .null])), (q1, .inr (9, F4)), (q13, .inl (c14, 12, .inr (.inr (.inr (.inr (fun _ => none))))))] := hD
  refine lv_aload_n hx hb dX8_init_52 rfl (lv_at hl 0 rfl) ?_
  refine lv_bipush (v := 64) hx hb dX8_init_53 (by decide) ?_
  refine va_newa (atype := .int) (ty := .int) (N' := 64) (a0 := (64, .inl (fun _ => 0))) hx hb (ht _ k_1_139) rfl hK hP hD hS hA (fun _ => rfl) (by decide) (by decide) (Nat.le_of_ble_eq_true rfl) (Nat.le_of_ble_eq_true rfl) (Nat.le_of_ble_eq_true rfl) dX8_init_55 (fun q15 c16 H hK hP hD hS => ?_)
  have hK : va_K (dC, dI) cls [(c8, .byte), (c10, .int), (c12, .int), (c14, .object "FinderHouse$Term"), (c16, .int)] s := hK
  have hP : va_P (dC, dI) cls [(q, .inr (8, [.null, .ref q1, .ref q7, .int 0, .int 0, .ref q9, .ref q11, .int 0, .ref q13, .int 0, .null, .null, .null, .int 0, .null, .int 0, .null, .null, .null, .null, .null, .null])), (q1, .inr (9, F4)), (q13, .inl (c14, 12, .inr (.inr (.inr (.inr (fun _ => none)))))), (q15, .inl (c16, 64, .inl (fun _ => 0)))] H := hP
  have hD : va_D A [(q, .inr (8, [.null, .ref q1, .ref q7, .int 0, .int 0, .ref q9, .ref q11, .int 0, .ref q13, .int 0, .null, .null, .null, .int 0, .null, .int 0, .null, .null, .null, .null, .null, .null])), (q1, .inr (9, F4)), (q13, .inl (c14, 12, .inr (.inr (.inr (.inr (fun _ => none)))))), (q15, .inl (c16, 64, .inl (fun _ => 0)))] := hD
  refine W.widen (k := 9) (n := 2789) (by omega) (by omega) ?_
  refine va_putF (D := (dC, dI)) (ci := 8) (v := .ref q15) (ty := .array .int) (C := RX8) (T := TX8) (N := 22) hx hb ht uX8 tyX8 tkX8 nmX8 hown hK hP hD hS 0 rfl rfl 10 (by decide) (ht _ k_3_41) (fun _ h9 => h9) rfl hin rfl (by decide +kernel) rfl rfl (Nat.le_of_ble_eq_true rfl) dX8_init_57 (fun H locs hP hD hS => ?_)
  have hP : va_P (dC, dI) cls [(q, .inr (8, [.null, .ref q1, .ref q7, .int 0, .int 0, .ref q9, .ref q11, .int 0, .ref q13, .int 0, .ref q15, .null, .null, .int 0, .null, .int 0, .null, .null, .null, .null, .null, .null])), (q1, .inr (9, F4)), (q13, .inl (c14, 12, .inr (.inr (.inr (.inr (fun _ => none)))))), (q15, .inl (c16, 64, .inl (fun _ => 0)))] H := hP
  have hD : va_D A [(q, .inr (8, [.null, .ref q1, .ref q7, .int 0, .int 0, .ref q9, .ref q11, .int 0, .ref q13, .int 0, .ref q15, .null, .null, .int 0, .null, .int 0, .null, .null, .null, .null, .null, .null])), (q1, .inr (9, F4)), (q13, .inl (c14, 12, .inr (.inr (.inr (.inr (fun _ => none)))))), (q15, .inl (c16, 64, .inl (fun _ => 0)))] := hD
  have hP := hP.sub (ws' := [(q, .inr (8, [.null, .ref q1, .ref q7, .int 0, .int 0, .ref q9, .ref q11, .int 0, .ref q13, .int 0, .ref q15, .null, .null, .int 0, .null, .int 0, .null, .null, .null, .null, .null, .null])), (q1, .inr (9, F4)), (q13, .inl (c14, 12, .inr (.inr (.inr (.inr (fun _ => none))))))]) [0, 1, 2] rfl
  have hD := hD.sub (ws' := [(q, .inr (8, [.null, .ref q1, .ref q7, .int 0, .int 0, .ref q9, .ref q11, .int 0, .ref q13, .int 0, .ref q15, .null, .null, .int 0, .null, .int 0, .null, .null, .null, .null, .null, .null])), (q1, .inr (9, F4)), (q13, .inl (c14, 12, .inr (.inr (.inr (.inr (fun _ => none))))))]) [0, 1, 2] (by decide) rfl
  refine lv_aload_n hx hb dX8_init_60 rfl (lv_at hl 0 rfl) ?_
  refine lv_sipush (v := 2048) hx hb dX8_init_61 (by decide) ?_
  refine va_newa (atype := .byte) (ty := .byte) (N' := 2048) (a0 := (2048, .inl (fun _ => 0))) hx hb (ht _ k_1_137) rfl hK hP hD hS hA (fun _ => rfl) (by decide) (by decide) (Nat.le_of_ble_eq_true rfl) (Nat.le_of_ble_eq_true rfl) (Nat.le_of_ble_eq_true rfl) dX8_init_64 (fun q17 c18 H hK hP hD hS => ?_)
  have hK : va_K (dC, dI) cls [(c8, .byte), (c10, .int), (c12, .int), (c14, .object "FinderHouse$Term"), (c16, .int), (c18, .byte)] s := hK
  have hP : va_P (dC, dI) cls [(q, .inr (8, [.null, .ref q1, .ref q7, .int 0, .int 0, .ref q9, .ref q11, .int 0, .ref q13, .int 0, .ref q15, .null, .null, .int 0, .null, .int 0, .null, .null, .null, .null, .null, .null])), (q1, .inr (9, F4)), (q13, .inl (c14, 12, .inr (.inr (.inr (.inr (fun _ => none)))))), (q17, .inl (c18, 2048, .inl (fun _ => 0)))] H := hP
  have hD : va_D A [(q, .inr (8, [.null, .ref q1, .ref q7, .int 0, .int 0, .ref q9, .ref q11, .int 0, .ref q13, .int 0, .ref q15, .null, .null, .int 0, .null, .int 0, .null, .null, .null, .null, .null, .null])), (q1, .inr (9, F4)), (q13, .inl (c14, 12, .inr (.inr (.inr (.inr (fun _ => none)))))), (q17, .inl (c18, 2048, .inl (fun _ => 0)))] := hD
  refine W.widen (k := 10) (n := 4837) (by omega) (by omega) ?_
  refine va_putF (D := (dC, dI)) (ci := 8) (v := .ref q17) (ty := .array .byte) (C := RX8) (T := TX8) (N := 22) hx hb ht uX8 tyX8 tkX8 nmX8 hown hK hP hD hS 0 rfl rfl 11 (by decide) (ht _ k_3_42) (fun _ h9 => h9) rfl hin rfl (by decide +kernel) rfl rfl (Nat.le_of_ble_eq_true rfl) dX8_init_66 (fun H locs hP hD hS => ?_)
  have hP : va_P (dC, dI) cls [(q, .inr (8, [.null, .ref q1, .ref q7, .int 0, .int 0, .ref q9, .ref q11, .int 0, .ref q13, .int 0, .ref q15, .ref q17, .null, .int 0, .null, .int 0, .null, .null, .null, .null, .null, .null])), (q1, .inr (9, F4)), (q13, .inl (c14, 12, .inr (.inr (.inr (.inr (fun _ => none)))))), (q17, .inl (c18, 2048, .inl (fun _ => 0)))] H := hP
  have hD : va_D A [(q, .inr (8, [.null, .ref q1, .ref q7, .int 0, .int 0, .ref q9, .ref q11, .int 0, .ref q13, .int 0, .ref q15, .ref q17, .null, .int 0, .null, .int 0, .null, .null, .null, .null, .null, .null])), (q1, .inr (9, F4)), (q13, .inl (c14, 12, .inr (.inr (.inr (.inr (fun _ => none)))))), (q17, .inl (c18, 2048, .inl (fun _ => 0)))] := hD
  have hP := hP.sub (ws' := [(q, .inr (8, [.null, .ref q1, .ref q7, .int 0, .int 0, .ref q9, .ref q11, .int 0, .ref q13, .int 0, .ref q15, .ref q17, .null, .int 0, .null, .int 0, .null, .null, .null, .null, .null, .null])), (q1, .inr (9, F4)), (q13, .inl (c14, 12, .inr (.inr (.inr (.inr (fun _ => none))))))]) [0, 1, 2] rfl
  have hD := hD.sub (ws' := [(q, .inr (8, [.null, .ref q1, .ref q7, .int 0, .int 0, .ref q9, .ref q11, .int 0, .ref q13, .int 0, .ref q15, .ref q17, .null, .int 0, .null, .int 0, .null, .null, .null, .null, .null, .null])), (q1, .inr (9, F4)), (q13, .inl (c14, 12, .inr (.inr (.inr (.inr (fun _ => none))))))]) [0, 1, 2] (by decide) rfl
  refine lv_aload_n hx hb dX8_init_69 rfl (lv_at hl 0 rfl) ?_
  refine lv_sipush (v := 2048) hx hb dX8_init_70 (by decide) ?_
  refine va_newa (atype := .byte) (ty := .byte) (N' := 2048) (a0 := (2048, .inl (fun _ => 0))) hx hb (ht _ k_1_137) rfl hK hP hD hS hA (fun _ => rfl) (by decide) (by decide) (Nat.le_of_ble_eq_true rfl) (Nat.le_of_ble_eq_true rfl) (Nat.le_of_ble_eq_true rfl) dX8_init_73 (fun q19 c20 H hK hP hD hS => ?_)
  have hK : va_K (dC, dI) cls [(c8, .byte), (c10, .int), (c12, .int), (c14, .object "FinderHouse$Term"), (c16, .int), (c18, .byte), (c20, .byte)] s := hK
  have hP : va_P (dC, dI) cls [(q, .inr (8, [.null, .ref q1, .ref q7, .int 0, .int 0, .ref q9, .ref q11, .int 0, .ref q13, .int 0, .ref q15, .ref q17, .null, .int 0, .null, .int 0, .null, .null, .null, .null, .null, .null])), (q1, .inr (9, F4)), (q13, .inl (c14, 12, .inr (.inr (.inr (.inr (fun _ => none)))))), (q19, .inl (c20, 2048, .inl (fun _ => 0)))] H := hP
  have hD : va_D A [(q, .inr (8, [.null, .ref q1, .ref q7, .int 0, .int 0, .ref q9, .ref q11, .int 0, .ref q13, .int 0, .ref q15, .ref q17, .null, .int 0, .null, .int 0, .null, .null, .null, .null, .null, .null])), (q1, .inr (9, F4)), (q13, .inl (c14, 12, .inr (.inr (.inr (.inr (fun _ => none)))))), (q19, .inl (c20, 2048, .inl (fun _ => 0)))] := hD
  refine W.widen (k := 11) (n := 6885) (by omega) (by omega) ?_
  refine va_putF (D := (dC, dI)) (ci := 8) (v := .ref q19) (ty := .array .byte) (C := RX8) (T := TX8) (N := 22) hx hb ht uX8 tyX8 tkX8 nmX8 hown hK hP hD hS 0 rfl rfl 12 (by decide) (ht _ k_3_43) (fun _ h9 => h9) rfl hin rfl (by decide +kernel) rfl rfl (Nat.le_of_ble_eq_true rfl) dX8_init_75 (fun H locs hP hD hS => ?_)
  have hP : va_P (dC, dI) cls [(q, .inr (8, [.null, .ref q1, .ref q7, .int 0, .int 0, .ref q9, .ref q11, .int 0, .ref q13, .int 0, .ref q15, .ref q17, .ref q19, .int 0, .null, .int 0, .null, .null, .null, .null, .null, .null])), (q1, .inr (9, F4)), (q13, .inl (c14, 12, .inr (.inr (.inr (.inr (fun _ => none)))))), (q19, .inl (c20, 2048, .inl (fun _ => 0)))] H := hP
  have hD : va_D A [(q, .inr (8, [.null, .ref q1, .ref q7, .int 0, .int 0, .ref q9, .ref q11, .int 0, .ref q13, .int 0, .ref q15, .ref q17, .ref q19, .int 0, .null, .int 0, .null, .null, .null, .null, .null, .null])), (q1, .inr (9, F4)), (q13, .inl (c14, 12, .inr (.inr (.inr (.inr (fun _ => none)))))), (q19, .inl (c20, 2048, .inl (fun _ => 0)))] := hD
  have hP := hP.sub (ws' := [(q, .inr (8, [.null, .ref q1, .ref q7, .int 0, .int 0, .ref q9, .ref q11, .int 0, .ref q13, .int 0, .ref q15, .ref q17, .ref q19, .int 0, .null, .int 0, .null, .null, .null, .null, .null, .null])), (q1, .inr (9, F4)), (q13, .inl (c14, 12, .inr (.inr (.inr (.inr (fun _ => none))))))]) [0, 1, 2] rfl
  have hD := hD.sub (ws' := [(q, .inr (8, [.null, .ref q1, .ref q7, .int 0, .int 0, .ref q9, .ref q11, .int 0, .ref q13, .int 0, .ref q15, .ref q17, .ref q19, .int 0, .null, .int 0, .null, .null, .null, .null, .null, .null])), (q1, .inr (9, F4)), (q13, .inl (c14, 12, .inr (.inr (.inr (.inr (fun _ => none))))))]) [0, 1, 2] (by decide) rfl
  refine lv_aload_n hx hb dX8_init_78 rfl (lv_at hl 0 rfl) ?_
  refine va_new (ci := 9) (fs := [.null, .null, .null, .int 0]) (C := RX9) (T := TX9) (N := 4) hx hb ht uX9 tyX9 tkX9 hown (ht _ k_3_20) (ht _ k_1_101) (ht _ k_1_7) hK hP hD hS hA rfl (by decide +kernel) (Nat.le_of_ble_eq_true rfl) (Nat.le_of_ble_eq_true rfl) dX8_init_79 (fun q21 H hP hD hS => ?_)
  have hP : va_P (dC, dI) cls [(q, .inr (8, [.null, .ref q1, .ref q7, .int 0, .int 0, .ref q9, .ref q11, .int 0, .ref q13, .int 0, .ref q15, .ref q17, .ref q19, .int 0, .null, .int 0, .null, .null, .null, .null, .null, .null])), (q1, .inr (9, F4)), (q13, .inl (c14, 12, .inr (.inr (.inr (.inr (fun _ => none)))))), (q21, .inr (9, [.null, .null, .null, .int 0]))] H := hP
  have hD : va_D A [(q, .inr (8, [.null, .ref q1, .ref q7, .int 0, .int 0, .ref q9, .ref q11, .int 0, .ref q13, .int 0, .ref q15, .ref q17, .ref q19, .int 0, .null, .int 0, .null, .null, .null, .null, .null, .null])), (q1, .inr (9, F4)), (q13, .inl (c14, 12, .inr (.inr (.inr (.inr (fun _ => none)))))), (q21, .inr (9, [.null, .null, .null, .int 0]))] := hD
  refine W.widen (k := 12) (n := 6889) (by omega) (by omega) ?_
  refine lv_dup hx hb dX8_init_82 rfl ?_
  refine lv_bipush (v := 30) hx hb dX8_init_83 (by decide) ?_
  refine ca_v (wr := [(q, .inr (8, [.null, .ref q1, .ref q7, .int 0, .int 0, .ref q9, .ref q11, .int 0, .ref q13, .int 0, .ref q15, .ref q17, .ref q19, .int 0, .null, .int 0, .null, .null, .null, .null, .null, .null])), (q1, .inr (9, F4)), (q13, .inl (c14, 12, .inr (.inr (.inr (.inr (fun _ => none))))))]) (va_runI (As := [.int 30]) (rest := [.ref q21, .ref q]) ⟨hx, hb, hml, hown, ht⟩ (k9_30 l dC dI H.size q21  ) (cwI 1 ht (gdI k_1_104) rfl rfl rfl (ht _ k_1_7) (ht _ k_3_21) (ht _ k_1_103) rfl (by decide +kernel) ⟨Nat.le_of_ble_eq_true rfl, Nat.le_of_ble_eq_true rfl⟩) ⟨pcw_blind, pcw_at hP hD hK [3] [] (by decide) rfl rfl rfl⟩ rfl rfl hl.1 rfl (lv_room (Nat.le_of_ble_eq_true rfl)) dX8_init_85 ⟨Nat.le_of_ble_eq_true rfl, Nat.le_of_ble_eq_true rfl⟩) hP hD hK hS hA [3] [0, 1, 2] rfl rfl (by decide) (by decide) (fun u H locs w23 hK hP hD hS => ?_)
  obtain ⟨F24, rfl⟩ : ∃ z, z = u := ⟨_, rfl⟩
  have hK : va_K (dC, dI) cls [(c8, .byte), (c10, .int), (c12, .int), (c14, .object "FinderHouse$Term"), (c16, .int), (c18, .byte), (c20, .byte)] s := hK
  have hP : va_P (dC, dI) cls [(q, .inr (8, [.null, .ref q1, .ref q7, .int 0, .int 0, .ref q9, .ref q11, .int 0, .ref q13, .int 0, .ref q15, .ref q17, .ref q19, .int 0, .null, .int 0, .null, .null, .null, .null, .null, .null])), (q1, .inr (9, F4)), (q13, .inl (c14, 12, .inr (.inr (.inr (.inr (fun _ => none)))))), (q21, .inr (9, F24))] H := hP
  have hD : va_D A [(q, .inr (8, [.null, .ref q1, .ref q7, .int 0, .int 0, .ref q9, .ref q11, .int 0, .ref q13, .int 0, .ref q15, .ref q17, .ref q19, .int 0, .null, .int 0, .null, .null, .null, .null, .null, .null])), (q1, .inr (9, F4)), (q13, .inl (c14, 12, .inr (.inr (.inr (.inr (fun _ => none)))))), (q21, .inr (9, F24))] := hD
  refine W.widen (k := 15) (n := 6979) (by omega) (by omega) ?_
  obtain ⟨w23, K25, K26⟩ := w23
  refine va_putF (D := (dC, dI)) (ci := 8) (v := .ref q21) (ty := .object "FinderHouse$Term") (C := RX8) (T := TX8) (N := 22) hx hb ht uX8 tyX8 tkX8 nmX8 hown hK hP hD hS 0 rfl rfl 14 (by decide) (ht _ k_3_45) (fun _ h9 => h9) rfl hin rfl (by decide +kernel) rfl rfl (Nat.le_of_ble_eq_true rfl) dX8_init_88 (fun H locs hP hD hS => ?_)
  have hP : va_P (dC, dI) cls [(q, .inr (8, [.null, .ref q1, .ref q7, .int 0, .int 0, .ref q9, .ref q11, .int 0, .ref q13, .int 0, .ref q15, .ref q17, .ref q19, .int 0, .ref q21, .int 0, .null, .null, .null, .null, .null, .null])), (q1, .inr (9, F4)), (q13, .inl (c14, 12, .inr (.inr (.inr (.inr (fun _ => none)))))), (q21, .inr (9, F24))] H := hP
  have hD : va_D A [(q, .inr (8, [.null, .ref q1, .ref q7, .int 0, .int 0, .ref q9, .ref q11, .int 0, .ref q13, .int 0, .ref q15, .ref q17, .ref q19, .int 0, .ref q21, .int 0, .null, .null, .null, .null, .null, .null])), (q1, .inr (9, F4)), (q13, .inl (c14, 12, .inr (.inr (.inr (.inr (fun _ => none)))))), (q21, .inr (9, F24))] := hD
  have hP := hP.sub (ws' := [(q, .inr (8, [.null, .ref q1, .ref q7, .int 0, .int 0, .ref q9, .ref q11, .int 0, .ref q13, .int 0, .ref q15, .ref q17, .ref q19, .int 0, .ref q21, .int 0, .null, .null, .null, .null, .null, .null])), (q1, .inr (9, F4)), (q13, .inl (c14, 12, .inr (.inr (.inr (.inr (fun _ => none))))))]) [0, 1, 2] rfl
  have hD := hD.sub (ws' := [(q, .inr (8, [.null, .ref q1, .ref q7, .int 0, .int 0, .ref q9, .ref q11, .int 0, .ref q13, .int 0, .ref q15, .ref q17, .ref q19, .int 0, .ref q21, .int 0, .null, .null, .null, .null, .null, .null])), (q1, .inr (9, F4)), (q13, .inl (c14, 12, .inr (.inr (.inr (.inr (fun _ => none))))))]) [0, 1, 2] (by decide) rfl
  refine lv_aload_n hx hb dX8_init_91 rfl (lv_at hl 0 rfl) ?_
  refine lv_iconst (v := 2) hx hb dX8_init_92 (by decide) ?_
  refine va_newa (atype := .int) (ty := .int) (N' := 2) (a0 := (2, .inl (fun _ => 0))) hx hb (ht _ k_1_139) rfl hK hP hD hS hA (fun _ => rfl) (by decide) (by decide) (Nat.le_of_ble_eq_true rfl) (Nat.le_of_ble_eq_true rfl) (Nat.le_of_ble_eq_true rfl) dX8_init_93 (fun q27 c28 H hK hP hD hS => ?_)
  have hK : va_K (dC, dI) cls [(c8, .byte), (c10, .int), (c12, .int), (c14, .object "FinderHouse$Term"), (c16, .int), (c18, .byte), (c20, .byte), (c28, .int)] s := hK
  have hP : va_P (dC, dI) cls [(q, .inr (8, [.null, .ref q1, .ref q7, .int 0, .int 0, .ref q9, .ref q11, .int 0, .ref q13, .int 0, .ref q15, .ref q17, .ref q19, .int 0, .ref q21, .int 0, .null, .null, .null, .null, .null, .null])), (q1, .inr (9, F4)), (q13, .inl (c14, 12, .inr (.inr (.inr (.inr (fun _ => none)))))), (q27, .inl (c28, 2, .inl (fun _ => 0)))] H := hP
  have hD : va_D A [(q, .inr (8, [.null, .ref q1, .ref q7, .int 0, .int 0, .ref q9, .ref q11, .int 0, .ref q13, .int 0, .ref q15, .ref q17, .ref q19, .int 0, .ref q21, .int 0, .null, .null, .null, .null, .null, .null])), (q1, .inr (9, F4)), (q13, .inl (c14, 12, .inr (.inr (.inr (.inr (fun _ => none)))))), (q27, .inl (c28, 2, .inl (fun _ => 0)))] := hD
  refine W.widen (k := 16) (n := 6981) (by omega) (by omega) ?_
  refine va_putF (D := (dC, dI)) (ci := 8) (v := .ref q27) (ty := .array .int) (C := RX8) (T := TX8) (N := 22) hx hb ht uX8 tyX8 tkX8 nmX8 hown hK hP hD hS 0 rfl rfl 16 (by decide) (ht _ k_3_47) (fun _ h9 => h9) rfl hin rfl (by decide +kernel) rfl rfl (Nat.le_of_ble_eq_true rfl) dX8_init_95 (fun H locs hP hD hS => ?_)
  have hP : va_P (dC, dI) cls [(q, .inr (8, [.null, .ref q1, .ref q7, .int 0, .int 0, .ref q9, .ref q11, .int 0, .ref q13, .int 0, .ref q15, .ref q17, .ref q19, .int 0, .ref q21, .int 0, .ref q27, .null, .null, .null, .null, .null])), (q1, .inr (9, F4)), (q13, .inl (c14, 12, .inr (.inr (.inr (.inr (fun _ => none)))))), (q27, .inl (c28, 2, .inl (fun _ => 0)))] H := hP
  have hD : va_D A [(q, .inr (8, [.null, .ref q1, .ref q7, .int 0, .int 0, .ref q9, .ref q11, .int 0, .ref q13, .int 0, .ref q15, .ref q17, .ref q19, .int 0, .ref q21, .int 0, .ref q27, .null, .null, .null, .null, .null])), (q1, .inr (9, F4)), (q13, .inl (c14, 12, .inr (.inr (.inr (.inr (fun _ => none)))))), (q27, .inl (c28, 2, .inl (fun _ => 0)))] := hD
  have hP := hP.sub (ws' := [(q, .inr (8, [.null, .ref q1, .ref q7, .int 0, .int 0, .ref q9, .ref q11, .int 0, .ref q13, .int 0, .ref q15, .ref q17, .ref q19, .int 0, .ref q21, .int 0, .ref q27, .null, .null, .null, .null, .null])), (q1, .inr (9, F4)), (q13, .inl (c14, 12, .inr (.inr (.inr (.inr (fun _ => none))))))]) [0, 1, 2] rfl
  have hD := hD.sub (ws' := [(q, .inr (8, [.null, .ref q1, .ref q7, .int 0, .int 0, .ref q9, .ref q11, .int 0, .ref q13, .int 0, .ref q15, .ref q17, .ref q19, .int 0, .ref q21, .int 0, .ref q27, .null, .null, .null, .null, .null])), (q1, .inr (9, F4)), (q13, .inl (c14, 12, .inr (.inr (.inr (.inr (fun _ => none))))))]) [0, 1, 2] (by decide) rfl
  refine lv_aload_n hx hb dX8_init_98 rfl (lv_at hl 0 rfl) ?_
  refine lv_iconst (v := 4) hx hb dX8_init_99 (by decide) ?_
  refine va_newa (atype := .int) (ty := .int) (N' := 4) (a0 := (4, .inl (fun _ => 0))) hx hb (ht _ k_1_139) rfl hK hP hD hS hA (fun _ => rfl) (by decide) (by decide) (Nat.le_of_ble_eq_true rfl) (Nat.le_of_ble_eq_true rfl) (Nat.le_of_ble_eq_true rfl) dX8_init_100 (fun q29 c30 H hK hP hD hS => ?_)
  have hK : va_K (dC, dI) cls [(c8, .byte), (c10, .int), (c12, .int), (c14, .object "FinderHouse$Term"), (c16, .int), (c18, .byte), (c20, .byte), (c28, .int), (c30, .int)] s := hK
  have hP : va_P (dC, dI) cls [(q, .inr (8, [.null, .ref q1, .ref q7, .int 0, .int 0, .ref q9, .ref q11, .int 0, .ref q13, .int 0, .ref q15, .ref q17, .ref q19, .int 0, .ref q21, .int 0, .ref q27, .null, .null, .null, .null, .null])), (q1, .inr (9, F4)), (q13, .inl (c14, 12, .inr (.inr (.inr (.inr (fun _ => none)))))), (q29, .inl (c30, 4, .inl (fun _ => 0)))] H := hP
  have hD : va_D A [(q, .inr (8, [.null, .ref q1, .ref q7, .int 0, .int 0, .ref q9, .ref q11, .int 0, .ref q13, .int 0, .ref q15, .ref q17, .ref q19, .int 0, .ref q21, .int 0, .ref q27, .null, .null, .null, .null, .null])), (q1, .inr (9, F4)), (q13, .inl (c14, 12, .inr (.inr (.inr (.inr (fun _ => none)))))), (q29, .inl (c30, 4, .inl (fun _ => 0)))] := hD
  refine W.widen (k := 17) (n := 6985) (by omega) (by omega) ?_
  refine va_putF (D := (dC, dI)) (ci := 8) (v := .ref q29) (ty := .array .int) (C := RX8) (T := TX8) (N := 22) hx hb ht uX8 tyX8 tkX8 nmX8 hown hK hP hD hS 0 rfl rfl 17 (by decide) (ht _ k_3_48) (fun _ h9 => h9) rfl hin rfl (by decide +kernel) rfl rfl (Nat.le_of_ble_eq_true rfl) dX8_init_102 (fun H locs hP hD hS => ?_)
  have hP : va_P (dC, dI) cls [(q, .inr (8, [.null, .ref q1, .ref q7, .int 0, .int 0, .ref q9, .ref q11, .int 0, .ref q13, .int 0, .ref q15, .ref q17, .ref q19, .int 0, .ref q21, .int 0, .ref q27, .ref q29, .null, .null, .null, .null])), (q1, .inr (9, F4)), (q13, .inl (c14, 12, .inr (.inr (.inr (.inr (fun _ => none)))))), (q29, .inl (c30, 4, .inl (fun _ => 0)))] H := hP
  have hD : va_D A [(q, .inr (8, [.null, .ref q1, .ref q7, .int 0, .int 0, .ref q9, .ref q11, .int 0, .ref q13, .int 0, .ref q15, .ref q17, .ref q19, .int 0, .ref q21, .int 0, .ref q27, .ref q29, .null, .null, .null, .null])), (q1, .inr (9, F4)), (q13, .inl (c14, 12, .inr (.inr (.inr (.inr (fun _ => none)))))), (q29, .inl (c30, 4, .inl (fun _ => 0)))] := hD
  have hP := hP.sub (ws' := [(q, .inr (8, [.null, .ref q1, .ref q7, .int 0, .int 0, .ref q9, .ref q11, .int 0, .ref q13, .int 0, .ref q15, .ref q17, .ref q19, .int 0, .ref q21, .int 0, .ref q27, .ref q29, .null, .null, .null, .null])), (q1, .inr (9, F4)), (q13, .inl (c14, 12, .inr (.inr (.inr (.inr (fun _ => none))))))]) [0, 1, 2] rfl
  have hD := hD.sub (ws' := [(q, .inr (8, [.null, .ref q1, .ref q7, .int 0, .int 0, .ref q9, .ref q11, .int 0, .ref q13, .int 0, .ref q15, .ref q17, .ref q19, .int 0, .ref q21, .int 0, .ref q27, .ref q29, .null, .null, .null, .null])), (q1, .inr (9, F4)), (q13, .inl (c14, 12, .inr (.inr (.inr (.inr (fun _ => none))))))]) [0, 1, 2] (by decide) rfl
  refine lv_aload_n hx hb dX8_init_105 rfl (lv_at hl 0 rfl) ?_
  refine va_new (ci := 9) (fs := [.null, .null, .null, .int 0]) (C := RX9) (T := TX9) (N := 4) hx hb ht uX9 tyX9 tkX9 hown (ht _ k_3_20) (ht _ k_1_101) (ht _ k_1_7) hK hP hD hS hA rfl (by decide +kernel) (Nat.le_of_ble_eq_true rfl) (Nat.le_of_ble_eq_true rfl) dX8_init_106 (fun q31 H hP hD hS => ?_)
  have hP : va_P (dC, dI) cls [(q, .inr (8, [.null, .ref q1, .ref q7, .int 0, .int 0, .ref q9, .ref q11, .int 0, .ref q13, .int 0, .ref q15, .ref q17, .ref q19, .int 0, .ref q21, .int 0, .ref q27, .ref q29, .null, .null, .null, .null])), (q1, .inr (9, F4)), (q13, .inl (c14, 12, .inr (.inr (.inr (.inr (fun _ => none)))))), (q31, .inr (9, [.null, .null, .null, .int 0]))] H := hP
  have hD : va_D A [(q, .inr (8, [.null, .ref q1, .ref q7, .int 0, .int 0, .ref q9, .ref q11, .int 0, .ref q13, .int 0, .ref q15, .ref q17, .ref q19, .int 0, .ref q21, .int 0, .ref q27, .ref q29, .null, .null, .null, .null])), (q1, .inr (9, F4)), (q13, .inl (c14, 12, .inr (.inr (.inr (.inr (fun _ => none)))))), (q31, .inr (9, [.null, .null, .null, .int 0]))] := hD
  refine W.widen (k := 18) (n := 6989) (by omega) (by omega) ?_
  refine lv_dup hx hb dX8_init_109 rfl ?_
  refine lv_bipush (v := 30) hx hb dX8_init_110 (by decide) ?_
  refine ca_v (wr := [(q, .inr (8, [.null, .ref q1, .ref q7, .int 0, .int 0, .ref q9, .ref q11, .int 0, .ref q13, .int 0, .ref q15, .ref q17, .ref q19, .int 0, .ref q21, .int 0, .ref q27, .ref q29, .null, .null, .null, .null])), (q1, .inr (9, F4)), (q13, .inl (c14, 12, .inr (.inr (.inr (.inr (fun _ => none))))))]) (va_runI (As := [.int 30]) (rest := [.ref q31, .ref q]) ⟨hx, hb, hml, hown, ht⟩ (k9_30 l dC dI H.size q31  ) (cwI 1 ht (gdI k_1_104) rfl rfl rfl (ht _ k_1_7) (ht _ k_3_21) (ht _ k_1_103) rfl (by decide +kernel) ⟨Nat.le_of_ble_eq_true rfl, Nat.le_of_ble_eq_true rfl⟩) ⟨pcw_blind, pcw_at hP hD hK [3] [] (by decide) rfl rfl rfl⟩ rfl rfl hl.1 rfl (lv_room (Nat.le_of_ble_eq_true rfl)) dX8_init_112 ⟨Nat.le_of_ble_eq_true rfl, Nat.le_of_ble_eq_true rfl⟩) hP hD hK hS hA [3] [0, 1, 2] rfl rfl (by decide) (by decide) (fun u H locs w33 hK hP hD hS => ?_)
  obtain ⟨F34, rfl⟩ : ∃ z, z = u := ⟨_, rfl⟩
  have hK : va_K (dC, dI) cls [(c8, .byte), (c10, .int), (c12, .int), (c14, .object "FinderHouse$Term"), (c16, .int), (c18, .byte), (c20, .byte), (c28, .int), (c30, .int)] s := hK
  have hP : va_P (dC, dI) cls [(q, .inr (8, [.null, .ref q1, .ref q7, .int 0, .int 0, .ref q9, .ref q11, .int 0, .ref q13, .int 0, .ref q15, .ref q17, .ref q19, .int 0, .ref q21, .int 0, .ref q27, .ref q29, .null, .null, .null, .null])), (q1, .inr (9, F4)), (q13, .inl (c14, 12, .inr (.inr (.inr (.inr (fun _ => none)))))), (q31, .inr (9, F34))] H := hP
  have hD : va_D A [(q, .inr (8, [.null, .ref q1, .ref q7, .int 0, .int 0, .ref q9, .ref q11, .int 0, .ref q13, .int 0, .ref q15, .ref q17, .ref q19, .int 0, .ref q21, .int 0, .ref q27, .ref q29, .null, .null, .null, .null])), (q1, .inr (9, F4)), (q13, .inl (c14, 12, .inr (.inr (.inr (.inr (fun _ => none)))))), (q31, .inr (9, F34))] := hD
  refine W.widen (k := 21) (n := 7079) (by omega) (by omega) ?_
  obtain ⟨w33, K35, K36⟩ := w33
  refine va_putF (D := (dC, dI)) (ci := 8) (v := .ref q31) (ty := .object "FinderHouse$Term") (C := RX8) (T := TX8) (N := 22) hx hb ht uX8 tyX8 tkX8 nmX8 hown hK hP hD hS 0 rfl rfl 18 (by decide) (ht _ k_3_49) (fun _ h9 => h9) rfl hin rfl (by decide +kernel) rfl rfl (Nat.le_of_ble_eq_true rfl) dX8_init_115 (fun H locs hP hD hS => ?_)
  have hP : va_P (dC, dI) cls [(q, .inr (8, [.null, .ref q1, .ref q7, .int 0, .int 0, .ref q9, .ref q11, .int 0, .ref q13, .int 0, .ref q15, .ref q17, .ref q19, .int 0, .ref q21, .int 0, .ref q27, .ref q29, .ref q31, .null, .null, .null])), (q1, .inr (9, F4)), (q13, .inl (c14, 12, .inr (.inr (.inr (.inr (fun _ => none)))))), (q31, .inr (9, F34))] H := hP
  have hD : va_D A [(q, .inr (8, [.null, .ref q1, .ref q7, .int 0, .int 0, .ref q9, .ref q11, .int 0, .ref q13, .int 0, .ref q15, .ref q17, .ref q19, .int 0, .ref q21, .int 0, .ref q27, .ref q29, .ref q31, .null, .null, .null])), (q1, .inr (9, F4)), (q13, .inl (c14, 12, .inr (.inr (.inr (.inr (fun _ => none)))))), (q31, .inr (9, F34))] := hD
  have hP := hP.sub (ws' := [(q, .inr (8, [.null, .ref q1, .ref q7, .int 0, .int 0, .ref q9, .ref q11, .int 0, .ref q13, .int 0, .ref q15, .ref q17, .ref q19, .int 0, .ref q21, .int 0, .ref q27, .ref q29, .ref q31, .null, .null, .null])), (q1, .inr (9, F4)), (q13, .inl (c14, 12, .inr (.inr (.inr (.inr (fun _ => none))))))]) [0, 1, 2] rfl
  have hD := hD.sub (ws' := [(q, .inr (8, [.null, .ref q1, .ref q7, .int 0, .int 0, .ref q9, .ref q11, .int 0, .ref q13, .int 0, .ref q15, .ref q17, .ref q19, .int 0, .ref q21, .int 0, .ref q27, .ref q29, .ref q31, .null, .null, .null])), (q1, .inr (9, F4)), (q13, .inl (c14, 12, .inr (.inr (.inr (.inr (fun _ => none))))))]) [0, 1, 2] (by decide) rfl
  refine lv_aload_n hx hb dX8_init_118 rfl (lv_at hl 0 rfl) ?_
  refine lv_iconst (v := 3) hx hb dX8_init_119 (by decide) ?_
  refine va_newa (atype := .int) (ty := .int) (N' := 3) (a0 := (3, .inl (fun _ => 0))) hx hb (ht _ k_1_139) rfl hK hP hD hS hA (fun _ => rfl) (by decide) (by decide) (Nat.le_of_ble_eq_true rfl) (Nat.le_of_ble_eq_true rfl) (Nat.le_of_ble_eq_true rfl) dX8_init_120 (fun q37 c38 H hK hP hD hS => ?_)
  have hK : va_K (dC, dI) cls [(c8, .byte), (c10, .int), (c12, .int), (c14, .object "FinderHouse$Term"), (c16, .int), (c18, .byte), (c20, .byte), (c28, .int), (c30, .int), (c38, .int)] s := hK
  have hP : va_P (dC, dI) cls [(q, .inr (8, [.null, .ref q1, .ref q7, .int 0, .int 0, .ref q9, .ref q11, .int 0, .ref q13, .int 0, .ref q15, .ref q17, .ref q19, .int 0, .ref q21, .int 0, .ref q27, .ref q29, .ref q31, .null, .null, .null])), (q1, .inr (9, F4)), (q13, .inl (c14, 12, .inr (.inr (.inr (.inr (fun _ => none)))))), (q37, .inl (c38, 3, .inl (fun _ => 0)))] H := hP
  have hD : va_D A [(q, .inr (8, [.null, .ref q1, .ref q7, .int 0, .int 0, .ref q9, .ref q11, .int 0, .ref q13, .int 0, .ref q15, .ref q17, .ref q19, .int 0, .ref q21, .int 0, .ref q27, .ref q29, .ref q31, .null, .null, .null])), (q1, .inr (9, F4)), (q13, .inl (c14, 12, .inr (.inr (.inr (.inr (fun _ => none)))))), (q37, .inl (c38, 3, .inl (fun _ => 0)))] := hD
  refine W.widen (k := 22) (n := 7082) (by omega) (by omega) ?_
  refine va_putF (D := (dC, dI)) (ci := 8) (v := .ref q37) (ty := .array .int) (C := RX8) (T := TX8) (N := 22) hx hb ht uX8 tyX8 tkX8 nmX8 hown hK hP hD hS 0 rfl rfl 19 (by decide) (ht _ k_3_50) (fun _ h9 => h9) rfl hin rfl (by decide +kernel) rfl rfl (Nat.le_of_ble_eq_true rfl) dX8_init_122 (fun H locs hP hD hS => ?_)
  have hP : va_P (dC, dI) cls [(q, .inr (8, [.null, .ref q1, .ref q7, .int 0, .int 0, .ref q9, .ref q11, .int 0, .ref q13, .int 0, .ref q15, .ref q17, .ref q19, .int 0, .ref q21, .int 0, .ref q27, .ref q29, .ref q31, .ref q37, .null, .null])), (q1, .inr (9, F4)), (q13, .inl (c14, 12, .inr (.inr (.inr (.inr (fun _ => none)))))), (q37, .inl (c38, 3, .inl (fun _ => 0)))] H := hP
  have hD : va_D A [(q, .inr (8, [.null, .ref q1, .ref q7, .int 0, .int 0, .ref q9, .ref q11, .int 0, .ref q13, .int 0, .ref q15, .ref q17, .ref q19, .int 0, .ref q21, .int 0, .ref q27, .ref q29, .ref q31, .ref q37, .null, .null])), (q1, .inr (9, F4)), (q13, .inl (c14, 12, .inr (.inr (.inr (.inr (fun _ => none)))))), (q37, .inl (c38, 3, .inl (fun _ => 0)))] := hD
  have hP := hP.sub (ws' := [(q, .inr (8, [.null, .ref q1, .ref q7, .int 0, .int 0, .ref q9, .ref q11, .int 0, .ref q13, .int 0, .ref q15, .ref q17, .ref q19, .int 0, .ref q21, .int 0, .ref q27, .ref q29, .ref q31, .ref q37, .null, .null])), (q1, .inr (9, F4)), (q13, .inl (c14, 12, .inr (.inr (.inr (.inr (fun _ => none))))))]) [0, 1, 2] rfl
  have hD := hD.sub (ws' := [(q, .inr (8, [.null, .ref q1, .ref q7, .int 0, .int 0, .ref q9, .ref q11, .int 0, .ref q13, .int 0, .ref q15, .ref q17, .ref q19, .int 0, .ref q21, .int 0, .ref q27, .ref q29, .ref q31, .ref q37, .null, .null])), (q1, .inr (9, F4)), (q13, .inl (c14, 12, .inr (.inr (.inr (.inr (fun _ => none))))))]) [0, 1, 2] (by decide) rfl
  refine lv_aload_n hx hb dX8_init_125 rfl (lv_at hl 0 rfl) ?_
  refine lv_iconst (v := 2) hx hb dX8_init_126 (by decide) ?_
  refine va_newa (atype := .int) (ty := .int) (N' := 2) (a0 := (2, .inl (fun _ => 0))) hx hb (ht _ k_1_139) rfl hK hP hD hS hA (fun _ => rfl) (by decide) (by decide) (Nat.le_of_ble_eq_true rfl) (Nat.le_of_ble_eq_true rfl) (Nat.le_of_ble_eq_true rfl) dX8_init_127 (fun q39 c40 H hK hP hD hS => ?_)
  have hK : va_K (dC, dI) cls [(c8, .byte), (c10, .int), (c12, .int), (c14, .object "FinderHouse$Term"), (c16, .int), (c18, .byte), (c20, .byte), (c28, .int), (c30, .int), (c38, .int), (c40, .int)] s := hK
  have hP : va_P (dC, dI) cls [(q, .inr (8, [.null, .ref q1, .ref q7, .int 0, .int 0, .ref q9, .ref q11, .int 0, .ref q13, .int 0, .ref q15, .ref q17, .ref q19, .int 0, .ref q21, .int 0, .ref q27, .ref q29, .ref q31, .ref q37, .null, .null])), (q1, .inr (9, F4)), (q13, .inl (c14, 12, .inr (.inr (.inr (.inr (fun _ => none)))))), (q39, .inl (c40, 2, .inl (fun _ => 0)))] H := hP
  have hD : va_D A [(q, .inr (8, [.null, .ref q1, .ref q7, .int 0, .int 0, .ref q9, .ref q11, .int 0, .ref q13, .int 0, .ref q15, .ref q17, .ref q19, .int 0, .ref q21, .int 0, .ref q27, .ref q29, .ref q31, .ref q37, .null, .null])), (q1, .inr (9, F4)), (q13, .inl (c14, 12, .inr (.inr (.inr (.inr (fun _ => none)))))), (q39, .inl (c40, 2, .inl (fun _ => 0)))] := hD
  refine W.widen (k := 23) (n := 7084) (by omega) (by omega) ?_
  refine va_putF (D := (dC, dI)) (ci := 8) (v := .ref q39) (ty := .array .int) (C := RX8) (T := TX8) (N := 22) hx hb ht uX8 tyX8 tkX8 nmX8 hown hK hP hD hS 0 rfl rfl 20 (by decide) (ht _ k_3_51) (fun _ h9 => h9) rfl hin rfl (by decide +kernel) rfl rfl (Nat.le_of_ble_eq_true rfl) dX8_init_129 (fun H locs hP hD hS => ?_)
  have hP : va_P (dC, dI) cls [(q, .inr (8, [.null, .ref q1, .ref q7, .int 0, .int 0, .ref q9, .ref q11, .int 0, .ref q13, .int 0, .ref q15, .ref q17, .ref q19, .int 0, .ref q21, .int 0, .ref q27, .ref q29, .ref q31, .ref q37, .ref q39, .null])), (q1, .inr (9, F4)), (q13, .inl (c14, 12, .inr (.inr (.inr (.inr (fun _ => none)))))), (q39, .inl (c40, 2, .inl (fun _ => 0)))] H := hP
  have hD : va_D A [(q, .inr (8, [.null, .ref q1, .ref q7, .int 0, .int 0, .ref q9, .ref q11, .int 0, .ref q13, .int 0, .ref q15, .ref q17, .ref q19, .int 0, .ref q21, .int 0, .ref q27, .ref q29, .ref q31, .ref q37, .ref q39, .null])), (q1, .inr (9, F4)), (q13, .inl (c14, 12, .inr (.inr (.inr (.inr (fun _ => none)))))), (q39, .inl (c40, 2, .inl (fun _ => 0)))] := hD
  have hP := hP.sub (ws' := [(q, .inr (8, [.null, .ref q1, .ref q7, .int 0, .int 0, .ref q9, .ref q11, .int 0, .ref q13, .int 0, .ref q15, .ref q17, .ref q19, .int 0, .ref q21, .int 0, .ref q27, .ref q29, .ref q31, .ref q37, .ref q39, .null])), (q1, .inr (9, F4)), (q13, .inl (c14, 12, .inr (.inr (.inr (.inr (fun _ => none))))))]) [0, 1, 2] rfl
  have hD := hD.sub (ws' := [(q, .inr (8, [.null, .ref q1, .ref q7, .int 0, .int 0, .ref q9, .ref q11, .int 0, .ref q13, .int 0, .ref q15, .ref q17, .ref q19, .int 0, .ref q21, .int 0, .ref q27, .ref q29, .ref q31, .ref q37, .ref q39, .null])), (q1, .inr (9, F4)), (q13, .inl (c14, 12, .inr (.inr (.inr (.inr (fun _ => none))))))]) [0, 1, 2] (by decide) rfl
  refine lv_aload_n hx hb dX8_init_132 rfl (lv_at hl 0 rfl) ?_
  refine va_new (ci := 9) (fs := [.null, .null, .null, .int 0]) (C := RX9) (T := TX9) (N := 4) hx hb ht uX9 tyX9 tkX9 hown (ht _ k_3_20) (ht _ k_1_101) (ht _ k_1_7) hK hP hD hS hA rfl (by decide +kernel) (Nat.le_of_ble_eq_true rfl) (Nat.le_of_ble_eq_true rfl) dX8_init_133 (fun q41 H hP hD hS => ?_)
  have hP : va_P (dC, dI) cls [(q, .inr (8, [.null, .ref q1, .ref q7, .int 0, .int 0, .ref q9, .ref q11, .int 0, .ref q13, .int 0, .ref q15, .ref q17, .ref q19, .int 0, .ref q21, .int 0, .ref q27, .ref q29, .ref q31, .ref q37, .ref q39, .null])), (q1, .inr (9, F4)), (q13, .inl (c14, 12, .inr (.inr (.inr (.inr (fun _ => none)))))), (q41, .inr (9, [.null, .null, .null, .int 0]))] H := hP
  have hD : va_D A [(q, .inr (8, [.null, .ref q1, .ref q7, .int 0, .int 0, .ref q9, .ref q11, .int 0, .ref q13, .int 0, .ref q15, .ref q17, .ref q19, .int 0, .ref q21, .int 0, .ref q27, .ref q29, .ref q31, .ref q37, .ref q39, .null])), (q1, .inr (9, F4)), (q13, .inl (c14, 12, .inr (.inr (.inr (.inr (fun _ => none)))))), (q41, .inr (9, [.null, .null, .null, .int 0]))] := hD
  refine W.widen (k := 24) (n := 7088) (by omega) (by omega) ?_
  refine lv_dup hx hb dX8_init_136 rfl ?_
  refine lv_bipush (v := 30) hx hb dX8_init_137 (by decide) ?_
  refine ca_v (wr := [(q, .inr (8, [.null, .ref q1, .ref q7, .int 0, .int 0, .ref q9, .ref q11, .int 0, .ref q13, .int 0, .ref q15, .ref q17, .ref q19, .int 0, .ref q21, .int 0, .ref q27, .ref q29, .ref q31, .ref q37, .ref q39, .null])), (q1, .inr (9, F4)), (q13, .inl (c14, 12, .inr (.inr (.inr (.inr (fun _ => none))))))]) (va_runI (As := [.int 30]) (rest := [.ref q41, .ref q]) ⟨hx, hb, hml, hown, ht⟩ (k9_30 l dC dI H.size q41  ) (cwI 1 ht (gdI k_1_104) rfl rfl rfl (ht _ k_1_7) (ht _ k_3_21) (ht _ k_1_103) rfl (by decide +kernel) ⟨Nat.le_of_ble_eq_true rfl, Nat.le_of_ble_eq_true rfl⟩) ⟨pcw_blind, pcw_at hP hD hK [3] [] (by decide) rfl rfl rfl⟩ rfl rfl hl.1 rfl (lv_room (Nat.le_of_ble_eq_true rfl)) dX8_init_139 ⟨Nat.le_of_ble_eq_true rfl, Nat.le_of_ble_eq_true rfl⟩) hP hD hK hS hA [3] [0, 1, 2] rfl rfl (by decide) (by decide) (fun u H locs w43 hK hP hD hS => ?_)
  obtain ⟨F44, rfl⟩ : ∃ z, z = u := ⟨_, rfl⟩
  have hK : va_K (dC, dI) cls [(c8, .byte), (c10, .int), (c12, .int), (c14, .object "FinderHouse$Term"), (c16, .int), (c18, .byte), (c20, .byte), (c28, .int), (c30, .int), (c38, .int), (c40, .int)] s := hK
  have hP : va_P (dC, dI) cls [(q, .inr (8, [.null, .ref q1, .ref q7, .int 0, .int 0, .ref q9, .ref q11, .int 0, .ref q13, .int 0, .ref q15, .ref q17, .ref q19, .int 0, .ref q21, .int 0, .ref q27, .ref q29, .ref q31, .ref q37, .ref q39, .null])), (q1, .inr (9, F4)), (q13, .inl (c14, 12, .inr (.inr (.inr (.inr (fun _ => none)))))), (q41, .inr (9, F44))] H := hP
  have hD : va_D A [(q, .inr (8, [.null, .ref q1, .ref q7, .int 0, .int 0, .ref q9, .ref q11, .int 0, .ref q13, .int 0, .ref q15, .ref q17, .ref q19, .int 0, .ref q21, .int 0, .ref q27, .ref q29, .ref q31, .ref q37, .ref q39, .null])), (q1, .inr (9, F4)), (q13, .inl (c14, 12, .inr (.inr (.inr (.inr (fun _ => none)))))), (q41, .inr (9, F44))] := hD
  refine W.widen (k := 27) (n := 7178) (by omega) (by omega) ?_
  obtain ⟨w43, K45, K46⟩ := w43
  refine va_putF (D := (dC, dI)) (ci := 8) (v := .ref q41) (ty := .object "FinderHouse$Term") (C := RX8) (T := TX8) (N := 22) hx hb ht uX8 tyX8 tkX8 nmX8 hown hK hP hD hS 0 rfl rfl 21 (by decide) (ht _ k_3_52) (fun _ h9 => h9) rfl hin rfl (by decide +kernel) rfl rfl (Nat.le_of_ble_eq_true rfl) dX8_init_142 (fun H locs hP hD hS => ?_)
  have hP : va_P (dC, dI) cls [(q, .inr (8, [.null, .ref q1, .ref q7, .int 0, .int 0, .ref q9, .ref q11, .int 0, .ref q13, .int 0, .ref q15, .ref q17, .ref q19, .int 0, .ref q21, .int 0, .ref q27, .ref q29, .ref q31, .ref q37, .ref q39, .ref q41])), (q1, .inr (9, F4)), (q13, .inl (c14, 12, .inr (.inr (.inr (.inr (fun _ => none)))))), (q41, .inr (9, F44))] H := hP
  have hD : va_D A [(q, .inr (8, [.null, .ref q1, .ref q7, .int 0, .int 0, .ref q9, .ref q11, .int 0, .ref q13, .int 0, .ref q15, .ref q17, .ref q19, .int 0, .ref q21, .int 0, .ref q27, .ref q29, .ref q31, .ref q37, .ref q39, .ref q41])), (q1, .inr (9, F4)), (q13, .inl (c14, 12, .inr (.inr (.inr (.inr (fun _ => none)))))), (q41, .inr (9, F44))] := hD
  have hP := hP.sub (ws' := [(q, .inr (8, [.null, .ref q1, .ref q7, .int 0, .int 0, .ref q9, .ref q11, .int 0, .ref q13, .int 0, .ref q15, .ref q17, .ref q19, .int 0, .ref q21, .int 0, .ref q27, .ref q29, .ref q31, .ref q37, .ref q39, .ref q41])), (q1, .inr (9, F4)), (q13, .inl (c14, 12, .inr (.inr (.inr (.inr (fun _ => none))))))]) [0, 1, 2] rfl
  have hD := hD.sub (ws' := [(q, .inr (8, [.null, .ref q1, .ref q7, .int 0, .int 0, .ref q9, .ref q11, .int 0, .ref q13, .int 0, .ref q15, .ref q17, .ref q19, .int 0, .ref q21, .int 0, .ref q27, .ref q29, .ref q31, .ref q37, .ref q39, .ref q41])), (q1, .inr (9, F4)), (q13, .inl (c14, 12, .inr (.inr (.inr (.inr (fun _ => none))))))]) [0, 1, 2] (by decide) rfl
  refine lv_aload_n hx hb dX8_init_145 rfl (lv_at hl 0 rfl) ?_
  refine lv_aload_n hx hb dX8_init_146 rfl (lv_at hl 1 rfl) ?_
  refine va_putF (D := (dC, dI)) (ci := 8) (v := .ref ac) (ty := .object "FinderHouse$Acts") (C := RX8) (T := TX8) (N := 22) hx hb ht uX8 tyX8 tkX8 nmX8 hown hK hP hD hS 0 rfl rfl 0 (by decide) (ht _ k_3_22) (fun _ h9 => h9) rfl hin rfl (by decide +kernel) rfl rfl (Nat.le_of_ble_eq_true rfl) dX8_init_147 (fun H locs hP hD hS => ?_)
  have hP : va_P (dC, dI) cls [(q, .inr (8, [.ref ac, .ref q1, .ref q7, .int 0, .int 0, .ref q9, .ref q11, .int 0, .ref q13, .int 0, .ref q15, .ref q17, .ref q19, .int 0, .ref q21, .int 0, .ref q27, .ref q29, .ref q31, .ref q37, .ref q39, .ref q41])), (q1, .inr (9, F4)), (q13, .inl (c14, 12, .inr (.inr (.inr (.inr (fun _ => none))))))] H := hP
  have hD : va_D A [(q, .inr (8, [.ref ac, .ref q1, .ref q7, .int 0, .int 0, .ref q9, .ref q11, .int 0, .ref q13, .int 0, .ref q15, .ref q17, .ref q19, .int 0, .ref q21, .int 0, .ref q27, .ref q29, .ref q31, .ref q37, .ref q39, .ref q41])), (q1, .inr (9, F4)), (q13, .inl (c14, 12, .inr (.inr (.inr (.inr (fun _ => none))))))] := hD
  refine lv_iconst (v := 0) hx hb dX8_init_150 (by decide) ?_
  refine lv_istore_n (lv' := [(2, .int 0), (0, .ref q), (1, .ref ac)]) hx hb dX8_init_151 rfl hl (by decide) rfl (fun ls hl => ?_)
  refine lv_iload_n hx hb dX8_init_152 rfl (lv_at hl 0 rfl) ?_
  refine lv_bipush (v := 12) hx hb dX8_init_153 (by decide) ?_
  refine lv_icmp_ge (tgt := 179) hx hb dX8_init_155 (by decide) (fun c0 => absurd c0 (by decide)) (fun _ => ?_)
  refine lv_aload_n hx hb dX8_init_158 rfl (lv_at hl 1 rfl) ?_
  refine va_get (D := (dC, dI)) (ci := 8) (v := .ref q13) (C := RX8) (T := TX8) (N := 22) hx hb ht uX8 hown hK hP 0 rfl rfl 8 (by decide) (ht _ k_3_37) (fun _ h9 => h9) rfl dX8_init_159 ?_
  refine lv_iload_n hx hb dX8_init_162 rfl (lv_at hl 0 rfl) ?_
  refine va_new (ci := 9) (fs := [.null, .null, .null, .int 0]) (C := RX9) (T := TX9) (N := 4) hx hb ht uX9 tyX9 tkX9 hown (ht _ k_3_20) (ht _ k_1_101) (ht _ k_1_7) hK hP hD hS hA rfl (by decide +kernel) (Nat.le_of_ble_eq_true rfl) (Nat.le_of_ble_eq_true rfl) dX8_init_163 (fun q47 H hP hD hS => ?_)
  have hP : va_P (dC, dI) cls [(q, .inr (8, [.ref ac, .ref q1, .ref q7, .int 0, .int 0, .ref q9, .ref q11, .int 0, .ref q13, .int 0, .ref q15, .ref q17, .ref q19, .int 0, .ref q21, .int 0, .ref q27, .ref q29, .ref q31, .ref q37, .ref q39, .ref q41])), (q1, .inr (9, F4)), (q13, .inl (c14, 12, .inr (.inr (.inr (.inr (fun _ => none)))))), (q47, .inr (9, [.null, .null, .null, .int 0]))] H := hP
  have hD : va_D A [(q, .inr (8, [.ref ac, .ref q1, .ref q7, .int 0, .int 0, .ref q9, .ref q11, .int 0, .ref q13, .int 0, .ref q15, .ref q17, .ref q19, .int 0, .ref q21, .int 0, .ref q27, .ref q29, .ref q31, .ref q37, .ref q39, .ref q41])), (q1, .inr (9, F4)), (q13, .inl (c14, 12, .inr (.inr (.inr (.inr (fun _ => none)))))), (q47, .inr (9, [.null, .null, .null, .int 0]))] := hD
  refine W.widen (k := 28) (n := 7182) (by omega) (by omega) ?_
  refine lv_dup hx hb dX8_init_166 rfl ?_
  refine lv_bipush (v := 30) hx hb dX8_init_167 (by decide) ?_
  refine ca_v (wr := [(q, .inr (8, [.ref ac, .ref q1, .ref q7, .int 0, .int 0, .ref q9, .ref q11, .int 0, .ref q13, .int 0, .ref q15, .ref q17, .ref q19, .int 0, .ref q21, .int 0, .ref q27, .ref q29, .ref q31, .ref q37, .ref q39, .ref q41])), (q1, .inr (9, F4)), (q13, .inl (c14, 12, .inr (.inr (.inr (.inr (fun _ => none))))))]) (va_runI (As := [.int 30]) (rest := [.ref q47, .int 0, .ref q13]) ⟨hx, hb, hml, hown, ht⟩ (k9_30 l dC dI H.size q47  ) (cwI 1 ht (gdI k_1_104) rfl rfl rfl (ht _ k_1_7) (ht _ k_3_21) (ht _ k_1_103) rfl (by decide +kernel) ⟨Nat.le_of_ble_eq_true rfl, Nat.le_of_ble_eq_true rfl⟩) ⟨pcw_blind, pcw_at hP hD hK [3] [] (by decide) rfl rfl rfl⟩ rfl rfl hl.1 rfl (lv_room (Nat.le_of_ble_eq_true rfl)) dX8_init_169 ⟨Nat.le_of_ble_eq_true rfl, Nat.le_of_ble_eq_true rfl⟩) hP hD hK hS hA [3] [0, 1, 2] rfl rfl (by decide) (by decide) (fun u H locs w49 hK hP hD hS => ?_)
  obtain ⟨F50, rfl⟩ : ∃ z, z = u := ⟨_, rfl⟩
  have hK : va_K (dC, dI) cls [(c8, .byte), (c10, .int), (c12, .int), (c14, .object "FinderHouse$Term"), (c16, .int), (c18, .byte), (c20, .byte), (c28, .int), (c30, .int), (c38, .int), (c40, .int)] s := hK
  have hP : va_P (dC, dI) cls [(q, .inr (8, [.ref ac, .ref q1, .ref q7, .int 0, .int 0, .ref q9, .ref q11, .int 0, .ref q13, .int 0, .ref q15, .ref q17, .ref q19, .int 0, .ref q21, .int 0, .ref q27, .ref q29, .ref q31, .ref q37, .ref q39, .ref q41])), (q1, .inr (9, F4)), (q13, .inl (c14, 12, .inr (.inr (.inr (.inr (fun _ => none)))))), (q47, .inr (9, F50))] H := hP
  have hD : va_D A [(q, .inr (8, [.ref ac, .ref q1, .ref q7, .int 0, .int 0, .ref q9, .ref q11, .int 0, .ref q13, .int 0, .ref q15, .ref q17, .ref q19, .int 0, .ref q21, .int 0, .ref q27, .ref q29, .ref q31, .ref q37, .ref q39, .ref q41])), (q1, .inr (9, F4)), (q13, .inl (c14, 12, .inr (.inr (.inr (.inr (fun _ => none)))))), (q47, .inr (9, F50))] := hD
  refine W.widen (k := 31) (n := 7272) (by omega) (by omega) ?_
  obtain ⟨w49, K51, K52⟩ := w49
  refine va_astq (r := (RX9, TX9, 4)) hx hb hK hP hD hS 2 3 3 9 rfl rfl rfl rfl (by unfold vp_in; decide) dX8_init_172 (fun H locs hP hD hS => ?_)
  obtain ⟨f53, ef53⟩ : ∃ g : Nat → Option Nat, g = va_up (fun _ => none) (0 : Int32).toNatClampNeg (some q47) := ⟨_, rfl⟩
  rw [← ef53] at hP hD
  have hP : va_P (dC, dI) cls [(q, .inr (8, [.ref ac, .ref q1, .ref q7, .int 0, .int 0, .ref q9, .ref q11, .int 0, .ref q13, .int 0, .ref q15, .ref q17, .ref q19, .int 0, .ref q21, .int 0, .ref q27, .ref q29, .ref q31, .ref q37, .ref q39, .ref q41])), (q1, .inr (9, F4)), (q13, .inl (c14, 12, .inr (.inr (.inr (.inr f53))))), (q47, .inr (9, F50))] H := hP
  have hD : va_D A [(q, .inr (8, [.ref ac, .ref q1, .ref q7, .int 0, .int 0, .ref q9, .ref q11, .int 0, .ref q13, .int 0, .ref q15, .ref q17, .ref q19, .int 0, .ref q21, .int 0, .ref q27, .ref q29, .ref q31, .ref q37, .ref q39, .ref q41])), (q1, .inr (9, F4)), (q13, .inl (c14, 12, .inr (.inr (.inr (.inr f53))))), (q47, .inr (9, F50))] := hD
  have hP := hP.sub (ws' := [(q, .inr (8, [.ref ac, .ref q1, .ref q7, .int 0, .int 0, .ref q9, .ref q11, .int 0, .ref q13, .int 0, .ref q15, .ref q17, .ref q19, .int 0, .ref q21, .int 0, .ref q27, .ref q29, .ref q31, .ref q37, .ref q39, .ref q41])), (q1, .inr (9, F4)), (q13, .inl (c14, 12, .inr (.inr (.inr (.inr f53)))))]) [0, 1, 2] rfl
  have hD := hD.sub (ws' := [(q, .inr (8, [.ref ac, .ref q1, .ref q7, .int 0, .int 0, .ref q9, .ref q11, .int 0, .ref q13, .int 0, .ref q15, .ref q17, .ref q19, .int 0, .ref q21, .int 0, .ref q27, .ref q29, .ref q31, .ref q37, .ref q39, .ref q41])), (q1, .inr (9, F4)), (q13, .inl (c14, 12, .inr (.inr (.inr (.inr f53)))))]) [0, 1, 2] (by decide) rfl
  refine lv_iinc (v := 1) (lv' := [(2, .int 1), (0, .ref q), (1, .ref ac)]) hx hb dX8_init_173 hl (k := 0) rfl (by decide) (by decide) rfl (fun ls hl => ?_)
  refine lv_goto (tgt := 152) hx hb dX8_init_176 (by decide) ?_
  refine lv_iload_n hx hb dX8_init_152 rfl (lv_at hl 0 rfl) ?_
  refine lv_bipush (v := 12) hx hb dX8_init_153 (by decide) ?_
  refine lv_icmp_ge (tgt := 179) hx hb dX8_init_155 (by decide) (fun c0 => absurd c0 (by decide)) (fun _ => ?_)
  refine lv_aload_n hx hb dX8_init_158 rfl (lv_at hl 1 rfl) ?_
  refine va_get (D := (dC, dI)) (ci := 8) (v := .ref q13) (C := RX8) (T := TX8) (N := 22) hx hb ht uX8 hown hK hP 0 rfl rfl 8 (by decide) (ht _ k_3_37) (fun _ h9 => h9) rfl dX8_init_159 ?_
  refine lv_iload_n hx hb dX8_init_162 rfl (lv_at hl 0 rfl) ?_
  refine va_new (ci := 9) (fs := [.null, .null, .null, .int 0]) (C := RX9) (T := TX9) (N := 4) hx hb ht uX9 tyX9 tkX9 hown (ht _ k_3_20) (ht _ k_1_101) (ht _ k_1_7) hK hP hD hS hA rfl (by decide +kernel) (Nat.le_of_ble_eq_true rfl) (Nat.le_of_ble_eq_true rfl) dX8_init_163 (fun q54 H hP hD hS => ?_)
  have hP : va_P (dC, dI) cls [(q, .inr (8, [.ref ac, .ref q1, .ref q7, .int 0, .int 0, .ref q9, .ref q11, .int 0, .ref q13, .int 0, .ref q15, .ref q17, .ref q19, .int 0, .ref q21, .int 0, .ref q27, .ref q29, .ref q31, .ref q37, .ref q39, .ref q41])), (q1, .inr (9, F4)), (q13, .inl (c14, 12, .inr (.inr (.inr (.inr f53))))), (q54, .inr (9, [.null, .null, .null, .int 0]))] H := hP
  have hD : va_D A [(q, .inr (8, [.ref ac, .ref q1, .ref q7, .int 0, .int 0, .ref q9, .ref q11, .int 0, .ref q13, .int 0, .ref q15, .ref q17, .ref q19, .int 0, .ref q21, .int 0, .ref q27, .ref q29, .ref q31, .ref q37, .ref q39, .ref q41])), (q1, .inr (9, F4)), (q13, .inl (c14, 12, .inr (.inr (.inr (.inr f53))))), (q54, .inr (9, [.null, .null, .null, .int 0]))] := hD
  refine W.widen (k := 32) (n := 7276) (by omega) (by omega) ?_
  refine lv_dup hx hb dX8_init_166 rfl ?_
  refine lv_bipush (v := 30) hx hb dX8_init_167 (by decide) ?_
  refine ca_v (wr := [(q, .inr (8, [.ref ac, .ref q1, .ref q7, .int 0, .int 0, .ref q9, .ref q11, .int 0, .ref q13, .int 0, .ref q15, .ref q17, .ref q19, .int 0, .ref q21, .int 0, .ref q27, .ref q29, .ref q31, .ref q37, .ref q39, .ref q41])), (q1, .inr (9, F4)), (q13, .inl (c14, 12, .inr (.inr (.inr (.inr f53)))))]) (va_runI (As := [.int 30]) (rest := [.ref q54, .int 1, .ref q13]) ⟨hx, hb, hml, hown, ht⟩ (k9_30 l dC dI H.size q54  ) (cwI 1 ht (gdI k_1_104) rfl rfl rfl (ht _ k_1_7) (ht _ k_3_21) (ht _ k_1_103) rfl (by decide +kernel) ⟨Nat.le_of_ble_eq_true rfl, Nat.le_of_ble_eq_true rfl⟩) ⟨pcw_blind, pcw_at hP hD hK [3] [] (by decide) rfl rfl rfl⟩ rfl rfl hl.1 rfl (lv_room (Nat.le_of_ble_eq_true rfl)) dX8_init_169 ⟨Nat.le_of_ble_eq_true rfl, Nat.le_of_ble_eq_true rfl⟩) hP hD hK hS hA [3] [0, 1, 2] rfl rfl (by decide) (by decide) (fun u H locs w56 hK hP hD hS => ?_)
  obtain ⟨F57, rfl⟩ : ∃ z, z = u := ⟨_, rfl⟩
  have hK : va_K (dC, dI) cls [(c8, .byte), (c10, .int), (c12, .int), (c14, .object "FinderHouse$Term"), (c16, .int), (c18, .byte), (c20, .byte), (c28, .int), (c30, .int), (c38, .int), (c40, .int)] s := hK
  have hP : va_P (dC, dI) cls [(q, .inr (8, [.ref ac, .ref q1, .ref q7, .int 0, .int 0, .ref q9, .ref q11, .int 0, .ref q13, .int 0, .ref q15, .ref q17, .ref q19, .int 0, .ref q21, .int 0, .ref q27, .ref q29, .ref q31, .ref q37, .ref q39, .ref q41])), (q1, .inr (9, F4)), (q13, .inl (c14, 12, .inr (.inr (.inr (.inr f53))))), (q54, .inr (9, F57))] H := hP
  have hD : va_D A [(q, .inr (8, [.ref ac, .ref q1, .ref q7, .int 0, .int 0, .ref q9, .ref q11, .int 0, .ref q13, .int 0, .ref q15, .ref q17, .ref q19, .int 0, .ref q21, .int 0, .ref q27, .ref q29, .ref q31, .ref q37, .ref q39, .ref q41])), (q1, .inr (9, F4)), (q13, .inl (c14, 12, .inr (.inr (.inr (.inr f53))))), (q54, .inr (9, F57))] := hD
  refine W.widen (k := 35) (n := 7366) (by omega) (by omega) ?_
  obtain ⟨w56, K58, K59⟩ := w56
  refine va_astq (r := (RX9, TX9, 4)) hx hb hK hP hD hS 2 3 3 9 rfl rfl rfl rfl (by unfold vp_in; decide) dX8_init_172 (fun H locs hP hD hS => ?_)
  obtain ⟨f60, ef60⟩ : ∃ g : Nat → Option Nat, g = va_up f53 (1 : Int32).toNatClampNeg (some q54) := ⟨_, rfl⟩
  rw [← ef60] at hP hD
  have hP : va_P (dC, dI) cls [(q, .inr (8, [.ref ac, .ref q1, .ref q7, .int 0, .int 0, .ref q9, .ref q11, .int 0, .ref q13, .int 0, .ref q15, .ref q17, .ref q19, .int 0, .ref q21, .int 0, .ref q27, .ref q29, .ref q31, .ref q37, .ref q39, .ref q41])), (q1, .inr (9, F4)), (q13, .inl (c14, 12, .inr (.inr (.inr (.inr f60))))), (q54, .inr (9, F57))] H := hP
  have hD : va_D A [(q, .inr (8, [.ref ac, .ref q1, .ref q7, .int 0, .int 0, .ref q9, .ref q11, .int 0, .ref q13, .int 0, .ref q15, .ref q17, .ref q19, .int 0, .ref q21, .int 0, .ref q27, .ref q29, .ref q31, .ref q37, .ref q39, .ref q41])), (q1, .inr (9, F4)), (q13, .inl (c14, 12, .inr (.inr (.inr (.inr f60))))), (q54, .inr (9, F57))] := hD
  have hP := hP.sub (ws' := [(q, .inr (8, [.ref ac, .ref q1, .ref q7, .int 0, .int 0, .ref q9, .ref q11, .int 0, .ref q13, .int 0, .ref q15, .ref q17, .ref q19, .int 0, .ref q21, .int 0, .ref q27, .ref q29, .ref q31, .ref q37, .ref q39, .ref q41])), (q1, .inr (9, F4)), (q13, .inl (c14, 12, .inr (.inr (.inr (.inr f60)))))]) [0, 1, 2] rfl
  have hD := hD.sub (ws' := [(q, .inr (8, [.ref ac, .ref q1, .ref q7, .int 0, .int 0, .ref q9, .ref q11, .int 0, .ref q13, .int 0, .ref q15, .ref q17, .ref q19, .int 0, .ref q21, .int 0, .ref q27, .ref q29, .ref q31, .ref q37, .ref q39, .ref q41])), (q1, .inr (9, F4)), (q13, .inl (c14, 12, .inr (.inr (.inr (.inr f60)))))]) [0, 1, 2] (by decide) rfl
  refine lv_iinc (v := 2) (lv' := [(2, .int 2), (0, .ref q), (1, .ref ac)]) hx hb dX8_init_173 hl (k := 0) rfl (by decide) (by decide) rfl (fun ls hl => ?_)
  refine lv_goto (tgt := 152) hx hb dX8_init_176 (by decide) ?_
  refine lv_iload_n hx hb dX8_init_152 rfl (lv_at hl 0 rfl) ?_
  refine lv_bipush (v := 12) hx hb dX8_init_153 (by decide) ?_
  refine lv_icmp_ge (tgt := 179) hx hb dX8_init_155 (by decide) (fun c0 => absurd c0 (by decide)) (fun _ => ?_)
  refine lv_aload_n hx hb dX8_init_158 rfl (lv_at hl 1 rfl) ?_
  refine va_get (D := (dC, dI)) (ci := 8) (v := .ref q13) (C := RX8) (T := TX8) (N := 22) hx hb ht uX8 hown hK hP 0 rfl rfl 8 (by decide) (ht _ k_3_37) (fun _ h9 => h9) rfl dX8_init_159 ?_
  refine lv_iload_n hx hb dX8_init_162 rfl (lv_at hl 0 rfl) ?_
  refine va_new (ci := 9) (fs := [.null, .null, .null, .int 0]) (C := RX9) (T := TX9) (N := 4) hx hb ht uX9 tyX9 tkX9 hown (ht _ k_3_20) (ht _ k_1_101) (ht _ k_1_7) hK hP hD hS hA rfl (by decide +kernel) (Nat.le_of_ble_eq_true rfl) (Nat.le_of_ble_eq_true rfl) dX8_init_163 (fun q61 H hP hD hS => ?_)
  have hP : va_P (dC, dI) cls [(q, .inr (8, [.ref ac, .ref q1, .ref q7, .int 0, .int 0, .ref q9, .ref q11, .int 0, .ref q13, .int 0, .ref q15, .ref q17, .ref q19, .int 0, .ref q21, .int 0, .ref q27, .ref q29, .ref q31, .ref q37, .ref q39, .ref q41])), (q1, .inr (9, F4)), (q13, .inl (c14, 12, .inr (.inr (.inr (.inr f60))))), (q61, .inr (9, [.null, .null, .null, .int 0]))] H := hP
  have hD : va_D A [(q, .inr (8, [.ref ac, .ref q1, .ref q7, .int 0, .int 0, .ref q9, .ref q11, .int 0, .ref q13, .int 0, .ref q15, .ref q17, .ref q19, .int 0, .ref q21, .int 0, .ref q27, .ref q29, .ref q31, .ref q37, .ref q39, .ref q41])), (q1, .inr (9, F4)), (q13, .inl (c14, 12, .inr (.inr (.inr (.inr f60))))), (q61, .inr (9, [.null, .null, .null, .int 0]))] := hD
  refine W.widen (k := 36) (n := 7370) (by omega) (by omega) ?_
  refine lv_dup hx hb dX8_init_166 rfl ?_
  refine lv_bipush (v := 30) hx hb dX8_init_167 (by decide) ?_
  refine ca_v (wr := [(q, .inr (8, [.ref ac, .ref q1, .ref q7, .int 0, .int 0, .ref q9, .ref q11, .int 0, .ref q13, .int 0, .ref q15, .ref q17, .ref q19, .int 0, .ref q21, .int 0, .ref q27, .ref q29, .ref q31, .ref q37, .ref q39, .ref q41])), (q1, .inr (9, F4)), (q13, .inl (c14, 12, .inr (.inr (.inr (.inr f60)))))]) (va_runI (As := [.int 30]) (rest := [.ref q61, .int 2, .ref q13]) ⟨hx, hb, hml, hown, ht⟩ (k9_30 l dC dI H.size q61  ) (cwI 1 ht (gdI k_1_104) rfl rfl rfl (ht _ k_1_7) (ht _ k_3_21) (ht _ k_1_103) rfl (by decide +kernel) ⟨Nat.le_of_ble_eq_true rfl, Nat.le_of_ble_eq_true rfl⟩) ⟨pcw_blind, pcw_at hP hD hK [3] [] (by decide) rfl rfl rfl⟩ rfl rfl hl.1 rfl (lv_room (Nat.le_of_ble_eq_true rfl)) dX8_init_169 ⟨Nat.le_of_ble_eq_true rfl, Nat.le_of_ble_eq_true rfl⟩) hP hD hK hS hA [3] [0, 1, 2] rfl rfl (by decide) (by decide) (fun u H locs w63 hK hP hD hS => ?_)
  obtain ⟨F64, rfl⟩ : ∃ z, z = u := ⟨_, rfl⟩
  have hK : va_K (dC, dI) cls [(c8, .byte), (c10, .int), (c12, .int), (c14, .object "FinderHouse$Term"), (c16, .int), (c18, .byte), (c20, .byte), (c28, .int), (c30, .int), (c38, .int), (c40, .int)] s := hK
  have hP : va_P (dC, dI) cls [(q, .inr (8, [.ref ac, .ref q1, .ref q7, .int 0, .int 0, .ref q9, .ref q11, .int 0, .ref q13, .int 0, .ref q15, .ref q17, .ref q19, .int 0, .ref q21, .int 0, .ref q27, .ref q29, .ref q31, .ref q37, .ref q39, .ref q41])), (q1, .inr (9, F4)), (q13, .inl (c14, 12, .inr (.inr (.inr (.inr f60))))), (q61, .inr (9, F64))] H := hP
  have hD : va_D A [(q, .inr (8, [.ref ac, .ref q1, .ref q7, .int 0, .int 0, .ref q9, .ref q11, .int 0, .ref q13, .int 0, .ref q15, .ref q17, .ref q19, .int 0, .ref q21, .int 0, .ref q27, .ref q29, .ref q31, .ref q37, .ref q39, .ref q41])), (q1, .inr (9, F4)), (q13, .inl (c14, 12, .inr (.inr (.inr (.inr f60))))), (q61, .inr (9, F64))] := hD
  refine W.widen (k := 39) (n := 7460) (by omega) (by omega) ?_
  obtain ⟨w63, K65, K66⟩ := w63
  refine va_astq (r := (RX9, TX9, 4)) hx hb hK hP hD hS 2 3 3 9 rfl rfl rfl rfl (by unfold vp_in; decide) dX8_init_172 (fun H locs hP hD hS => ?_)
  obtain ⟨f67, ef67⟩ : ∃ g : Nat → Option Nat, g = va_up f60 (2 : Int32).toNatClampNeg (some q61) := ⟨_, rfl⟩
  rw [← ef67] at hP hD
  have hP : va_P (dC, dI) cls [(q, .inr (8, [.ref ac, .ref q1, .ref q7, .int 0, .int 0, .ref q9, .ref q11, .int 0, .ref q13, .int 0, .ref q15, .ref q17, .ref q19, .int 0, .ref q21, .int 0, .ref q27, .ref q29, .ref q31, .ref q37, .ref q39, .ref q41])), (q1, .inr (9, F4)), (q13, .inl (c14, 12, .inr (.inr (.inr (.inr f67))))), (q61, .inr (9, F64))] H := hP
  have hD : va_D A [(q, .inr (8, [.ref ac, .ref q1, .ref q7, .int 0, .int 0, .ref q9, .ref q11, .int 0, .ref q13, .int 0, .ref q15, .ref q17, .ref q19, .int 0, .ref q21, .int 0, .ref q27, .ref q29, .ref q31, .ref q37, .ref q39, .ref q41])), (q1, .inr (9, F4)), (q13, .inl (c14, 12, .inr (.inr (.inr (.inr f67))))), (q61, .inr (9, F64))] := hD
  have hP := hP.sub (ws' := [(q, .inr (8, [.ref ac, .ref q1, .ref q7, .int 0, .int 0, .ref q9, .ref q11, .int 0, .ref q13, .int 0, .ref q15, .ref q17, .ref q19, .int 0, .ref q21, .int 0, .ref q27, .ref q29, .ref q31, .ref q37, .ref q39, .ref q41])), (q1, .inr (9, F4)), (q13, .inl (c14, 12, .inr (.inr (.inr (.inr f67)))))]) [0, 1, 2] rfl
  have hD := hD.sub (ws' := [(q, .inr (8, [.ref ac, .ref q1, .ref q7, .int 0, .int 0, .ref q9, .ref q11, .int 0, .ref q13, .int 0, .ref q15, .ref q17, .ref q19, .int 0, .ref q21, .int 0, .ref q27, .ref q29, .ref q31, .ref q37, .ref q39, .ref q41])), (q1, .inr (9, F4)), (q13, .inl (c14, 12, .inr (.inr (.inr (.inr f67)))))]) [0, 1, 2] (by decide) rfl
  refine lv_iinc (v := 3) (lv' := [(2, .int 3), (0, .ref q), (1, .ref ac)]) hx hb dX8_init_173 hl (k := 0) rfl (by decide) (by decide) rfl (fun ls hl => ?_)
  refine lv_goto (tgt := 152) hx hb dX8_init_176 (by decide) ?_
  refine lv_iload_n hx hb dX8_init_152 rfl (lv_at hl 0 rfl) ?_
  refine lv_bipush (v := 12) hx hb dX8_init_153 (by decide) ?_
  refine lv_icmp_ge (tgt := 179) hx hb dX8_init_155 (by decide) (fun c0 => absurd c0 (by decide)) (fun _ => ?_)
  refine lv_aload_n hx hb dX8_init_158 rfl (lv_at hl 1 rfl) ?_
  refine va_get (D := (dC, dI)) (ci := 8) (v := .ref q13) (C := RX8) (T := TX8) (N := 22) hx hb ht uX8 hown hK hP 0 rfl rfl 8 (by decide) (ht _ k_3_37) (fun _ h9 => h9) rfl dX8_init_159 ?_
  refine lv_iload_n hx hb dX8_init_162 rfl (lv_at hl 0 rfl) ?_
  refine va_new (ci := 9) (fs := [.null, .null, .null, .int 0]) (C := RX9) (T := TX9) (N := 4) hx hb ht uX9 tyX9 tkX9 hown (ht _ k_3_20) (ht _ k_1_101) (ht _ k_1_7) hK hP hD hS hA rfl (by decide +kernel) (Nat.le_of_ble_eq_true rfl) (Nat.le_of_ble_eq_true rfl) dX8_init_163 (fun q68 H hP hD hS => ?_)
  have hP : va_P (dC, dI) cls [(q, .inr (8, [.ref ac, .ref q1, .ref q7, .int 0, .int 0, .ref q9, .ref q11, .int 0, .ref q13, .int 0, .ref q15, .ref q17, .ref q19, .int 0, .ref q21, .int 0, .ref q27, .ref q29, .ref q31, .ref q37, .ref q39, .ref q41])), (q1, .inr (9, F4)), (q13, .inl (c14, 12, .inr (.inr (.inr (.inr f67))))), (q68, .inr (9, [.null, .null, .null, .int 0]))] H := hP
  have hD : va_D A [(q, .inr (8, [.ref ac, .ref q1, .ref q7, .int 0, .int 0, .ref q9, .ref q11, .int 0, .ref q13, .int 0, .ref q15, .ref q17, .ref q19, .int 0, .ref q21, .int 0, .ref q27, .ref q29, .ref q31, .ref q37, .ref q39, .ref q41])), (q1, .inr (9, F4)), (q13, .inl (c14, 12, .inr (.inr (.inr (.inr f67))))), (q68, .inr (9, [.null, .null, .null, .int 0]))] := hD
  refine W.widen (k := 40) (n := 7464) (by omega) (by omega) ?_
  refine lv_dup hx hb dX8_init_166 rfl ?_
  refine lv_bipush (v := 30) hx hb dX8_init_167 (by decide) ?_
  refine ca_v (wr := [(q, .inr (8, [.ref ac, .ref q1, .ref q7, .int 0, .int 0, .ref q9, .ref q11, .int 0, .ref q13, .int 0, .ref q15, .ref q17, .ref q19, .int 0, .ref q21, .int 0, .ref q27, .ref q29, .ref q31, .ref q37, .ref q39, .ref q41])), (q1, .inr (9, F4)), (q13, .inl (c14, 12, .inr (.inr (.inr (.inr f67)))))]) (va_runI (As := [.int 30]) (rest := [.ref q68, .int 3, .ref q13]) ⟨hx, hb, hml, hown, ht⟩ (k9_30 l dC dI H.size q68  ) (cwI 1 ht (gdI k_1_104) rfl rfl rfl (ht _ k_1_7) (ht _ k_3_21) (ht _ k_1_103) rfl (by decide +kernel) ⟨Nat.le_of_ble_eq_true rfl, Nat.le_of_ble_eq_true rfl⟩) ⟨pcw_blind, pcw_at hP hD hK [3] [] (by decide) rfl rfl rfl⟩ rfl rfl hl.1 rfl (lv_room (Nat.le_of_ble_eq_true rfl)) dX8_init_169 ⟨Nat.le_of_ble_eq_true rfl, Nat.le_of_ble_eq_true rfl⟩) hP hD hK hS hA [3] [0, 1, 2] rfl rfl (by decide) (by decide) (fun u H locs w70 hK hP hD hS => ?_)
  obtain ⟨F71, rfl⟩ : ∃ z, z = u := ⟨_, rfl⟩
  have hK : va_K (dC, dI) cls [(c8, .byte), (c10, .int), (c12, .int), (c14, .object "FinderHouse$Term"), (c16, .int), (c18, .byte), (c20, .byte), (c28, .int), (c30, .int), (c38, .int), (c40, .int)] s := hK
  have hP : va_P (dC, dI) cls [(q, .inr (8, [.ref ac, .ref q1, .ref q7, .int 0, .int 0, .ref q9, .ref q11, .int 0, .ref q13, .int 0, .ref q15, .ref q17, .ref q19, .int 0, .ref q21, .int 0, .ref q27, .ref q29, .ref q31, .ref q37, .ref q39, .ref q41])), (q1, .inr (9, F4)), (q13, .inl (c14, 12, .inr (.inr (.inr (.inr f67))))), (q68, .inr (9, F71))] H := hP
  have hD : va_D A [(q, .inr (8, [.ref ac, .ref q1, .ref q7, .int 0, .int 0, .ref q9, .ref q11, .int 0, .ref q13, .int 0, .ref q15, .ref q17, .ref q19, .int 0, .ref q21, .int 0, .ref q27, .ref q29, .ref q31, .ref q37, .ref q39, .ref q41])), (q1, .inr (9, F4)), (q13, .inl (c14, 12, .inr (.inr (.inr (.inr f67))))), (q68, .inr (9, F71))] := hD
  refine W.widen (k := 43) (n := 7554) (by omega) (by omega) ?_
  obtain ⟨w70, K72, K73⟩ := w70
  refine va_astq (r := (RX9, TX9, 4)) hx hb hK hP hD hS 2 3 3 9 rfl rfl rfl rfl (by unfold vp_in; decide) dX8_init_172 (fun H locs hP hD hS => ?_)
  obtain ⟨f74, ef74⟩ : ∃ g : Nat → Option Nat, g = va_up f67 (3 : Int32).toNatClampNeg (some q68) := ⟨_, rfl⟩
  rw [← ef74] at hP hD
  have hP : va_P (dC, dI) cls [(q, .inr (8, [.ref ac, .ref q1, .ref q7, .int 0, .int 0, .ref q9, .ref q11, .int 0, .ref q13, .int 0, .ref q15, .ref q17, .ref q19, .int 0, .ref q21, .int 0, .ref q27, .ref q29, .ref q31, .ref q37, .ref q39, .ref q41])), (q1, .inr (9, F4)), (q13, .inl (c14, 12, .inr (.inr (.inr (.inr f74))))), (q68, .inr (9, F71))] H := hP
  have hD : va_D A [(q, .inr (8, [.ref ac, .ref q1, .ref q7, .int 0, .int 0, .ref q9, .ref q11, .int 0, .ref q13, .int 0, .ref q15, .ref q17, .ref q19, .int 0, .ref q21, .int 0, .ref q27, .ref q29, .ref q31, .ref q37, .ref q39, .ref q41])), (q1, .inr (9, F4)), (q13, .inl (c14, 12, .inr (.inr (.inr (.inr f74))))), (q68, .inr (9, F71))] := hD
  have hP := hP.sub (ws' := [(q, .inr (8, [.ref ac, .ref q1, .ref q7, .int 0, .int 0, .ref q9, .ref q11, .int 0, .ref q13, .int 0, .ref q15, .ref q17, .ref q19, .int 0, .ref q21, .int 0, .ref q27, .ref q29, .ref q31, .ref q37, .ref q39, .ref q41])), (q1, .inr (9, F4)), (q13, .inl (c14, 12, .inr (.inr (.inr (.inr f74)))))]) [0, 1, 2] rfl
  have hD := hD.sub (ws' := [(q, .inr (8, [.ref ac, .ref q1, .ref q7, .int 0, .int 0, .ref q9, .ref q11, .int 0, .ref q13, .int 0, .ref q15, .ref q17, .ref q19, .int 0, .ref q21, .int 0, .ref q27, .ref q29, .ref q31, .ref q37, .ref q39, .ref q41])), (q1, .inr (9, F4)), (q13, .inl (c14, 12, .inr (.inr (.inr (.inr f74)))))]) [0, 1, 2] (by decide) rfl
  refine lv_iinc (v := 4) (lv' := [(2, .int 4), (0, .ref q), (1, .ref ac)]) hx hb dX8_init_173 hl (k := 0) rfl (by decide) (by decide) rfl (fun ls hl => ?_)
  refine lv_goto (tgt := 152) hx hb dX8_init_176 (by decide) ?_
  refine lv_iload_n hx hb dX8_init_152 rfl (lv_at hl 0 rfl) ?_
  refine lv_bipush (v := 12) hx hb dX8_init_153 (by decide) ?_
  refine lv_icmp_ge (tgt := 179) hx hb dX8_init_155 (by decide) (fun c0 => absurd c0 (by decide)) (fun _ => ?_)
  refine lv_aload_n hx hb dX8_init_158 rfl (lv_at hl 1 rfl) ?_
  refine va_get (D := (dC, dI)) (ci := 8) (v := .ref q13) (C := RX8) (T := TX8) (N := 22) hx hb ht uX8 hown hK hP 0 rfl rfl 8 (by decide) (ht _ k_3_37) (fun _ h9 => h9) rfl dX8_init_159 ?_
  refine lv_iload_n hx hb dX8_init_162 rfl (lv_at hl 0 rfl) ?_
  refine va_new (ci := 9) (fs := [.null, .null, .null, .int 0]) (C := RX9) (T := TX9) (N := 4) hx hb ht uX9 tyX9 tkX9 hown (ht _ k_3_20) (ht _ k_1_101) (ht _ k_1_7) hK hP hD hS hA rfl (by decide +kernel) (Nat.le_of_ble_eq_true rfl) (Nat.le_of_ble_eq_true rfl) dX8_init_163 (fun q75 H hP hD hS => ?_)
  have hP : va_P (dC, dI) cls [(q, .inr (8, [.ref ac, .ref q1, .ref q7, .int 0, .int 0, .ref q9, .ref q11, .int 0, .ref q13, .int 0, .ref q15, .ref q17, .ref q19, .int 0, .ref q21, .int 0, .ref q27, .ref q29, .ref q31, .ref q37, .ref q39, .ref q41])), (q1, .inr (9, F4)), (q13, .inl (c14, 12, .inr (.inr (.inr (.inr f74))))), (q75, .inr (9, [.null, .null, .null, .int 0]))] H := hP
  have hD : va_D A [(q, .inr (8, [.ref ac, .ref q1, .ref q7, .int 0, .int 0, .ref q9, .ref q11, .int 0, .ref q13, .int 0, .ref q15, .ref q17, .ref q19, .int 0, .ref q21, .int 0, .ref q27, .ref q29, .ref q31, .ref q37, .ref q39, .ref q41])), (q1, .inr (9, F4)), (q13, .inl (c14, 12, .inr (.inr (.inr (.inr f74))))), (q75, .inr (9, [.null, .null, .null, .int 0]))] := hD
  refine W.widen (k := 44) (n := 7558) (by omega) (by omega) ?_
  refine lv_dup hx hb dX8_init_166 rfl ?_
  refine lv_bipush (v := 30) hx hb dX8_init_167 (by decide) ?_
  refine ca_v (wr := [(q, .inr (8, [.ref ac, .ref q1, .ref q7, .int 0, .int 0, .ref q9, .ref q11, .int 0, .ref q13, .int 0, .ref q15, .ref q17, .ref q19, .int 0, .ref q21, .int 0, .ref q27, .ref q29, .ref q31, .ref q37, .ref q39, .ref q41])), (q1, .inr (9, F4)), (q13, .inl (c14, 12, .inr (.inr (.inr (.inr f74)))))]) (va_runI (As := [.int 30]) (rest := [.ref q75, .int 4, .ref q13]) ⟨hx, hb, hml, hown, ht⟩ (k9_30 l dC dI H.size q75  ) (cwI 1 ht (gdI k_1_104) rfl rfl rfl (ht _ k_1_7) (ht _ k_3_21) (ht _ k_1_103) rfl (by decide +kernel) ⟨Nat.le_of_ble_eq_true rfl, Nat.le_of_ble_eq_true rfl⟩) ⟨pcw_blind, pcw_at hP hD hK [3] [] (by decide) rfl rfl rfl⟩ rfl rfl hl.1 rfl (lv_room (Nat.le_of_ble_eq_true rfl)) dX8_init_169 ⟨Nat.le_of_ble_eq_true rfl, Nat.le_of_ble_eq_true rfl⟩) hP hD hK hS hA [3] [0, 1, 2] rfl rfl (by decide) (by decide) (fun u H locs w77 hK hP hD hS => ?_)
  obtain ⟨F78, rfl⟩ : ∃ z, z = u := ⟨_, rfl⟩
  have hK : va_K (dC, dI) cls [(c8, .byte), (c10, .int), (c12, .int), (c14, .object "FinderHouse$Term"), (c16, .int), (c18, .byte), (c20, .byte), (c28, .int), (c30, .int), (c38, .int), (c40, .int)] s := hK
  have hP : va_P (dC, dI) cls [(q, .inr (8, [.ref ac, .ref q1, .ref q7, .int 0, .int 0, .ref q9, .ref q11, .int 0, .ref q13, .int 0, .ref q15, .ref q17, .ref q19, .int 0, .ref q21, .int 0, .ref q27, .ref q29, .ref q31, .ref q37, .ref q39, .ref q41])), (q1, .inr (9, F4)), (q13, .inl (c14, 12, .inr (.inr (.inr (.inr f74))))), (q75, .inr (9, F78))] H := hP
  have hD : va_D A [(q, .inr (8, [.ref ac, .ref q1, .ref q7, .int 0, .int 0, .ref q9, .ref q11, .int 0, .ref q13, .int 0, .ref q15, .ref q17, .ref q19, .int 0, .ref q21, .int 0, .ref q27, .ref q29, .ref q31, .ref q37, .ref q39, .ref q41])), (q1, .inr (9, F4)), (q13, .inl (c14, 12, .inr (.inr (.inr (.inr f74))))), (q75, .inr (9, F78))] := hD
  refine W.widen (k := 47) (n := 7648) (by omega) (by omega) ?_
  obtain ⟨w77, K79, K80⟩ := w77
  refine va_astq (r := (RX9, TX9, 4)) hx hb hK hP hD hS 2 3 3 9 rfl rfl rfl rfl (by unfold vp_in; decide) dX8_init_172 (fun H locs hP hD hS => ?_)
  obtain ⟨f81, ef81⟩ : ∃ g : Nat → Option Nat, g = va_up f74 (4 : Int32).toNatClampNeg (some q75) := ⟨_, rfl⟩
  rw [← ef81] at hP hD
  have hP : va_P (dC, dI) cls [(q, .inr (8, [.ref ac, .ref q1, .ref q7, .int 0, .int 0, .ref q9, .ref q11, .int 0, .ref q13, .int 0, .ref q15, .ref q17, .ref q19, .int 0, .ref q21, .int 0, .ref q27, .ref q29, .ref q31, .ref q37, .ref q39, .ref q41])), (q1, .inr (9, F4)), (q13, .inl (c14, 12, .inr (.inr (.inr (.inr f81))))), (q75, .inr (9, F78))] H := hP
  have hD : va_D A [(q, .inr (8, [.ref ac, .ref q1, .ref q7, .int 0, .int 0, .ref q9, .ref q11, .int 0, .ref q13, .int 0, .ref q15, .ref q17, .ref q19, .int 0, .ref q21, .int 0, .ref q27, .ref q29, .ref q31, .ref q37, .ref q39, .ref q41])), (q1, .inr (9, F4)), (q13, .inl (c14, 12, .inr (.inr (.inr (.inr f81))))), (q75, .inr (9, F78))] := hD
  have hP := hP.sub (ws' := [(q, .inr (8, [.ref ac, .ref q1, .ref q7, .int 0, .int 0, .ref q9, .ref q11, .int 0, .ref q13, .int 0, .ref q15, .ref q17, .ref q19, .int 0, .ref q21, .int 0, .ref q27, .ref q29, .ref q31, .ref q37, .ref q39, .ref q41])), (q1, .inr (9, F4)), (q13, .inl (c14, 12, .inr (.inr (.inr (.inr f81)))))]) [0, 1, 2] rfl
  have hD := hD.sub (ws' := [(q, .inr (8, [.ref ac, .ref q1, .ref q7, .int 0, .int 0, .ref q9, .ref q11, .int 0, .ref q13, .int 0, .ref q15, .ref q17, .ref q19, .int 0, .ref q21, .int 0, .ref q27, .ref q29, .ref q31, .ref q37, .ref q39, .ref q41])), (q1, .inr (9, F4)), (q13, .inl (c14, 12, .inr (.inr (.inr (.inr f81)))))]) [0, 1, 2] (by decide) rfl
  refine lv_iinc (v := 5) (lv' := [(2, .int 5), (0, .ref q), (1, .ref ac)]) hx hb dX8_init_173 hl (k := 0) rfl (by decide) (by decide) rfl (fun ls hl => ?_)
  refine lv_goto (tgt := 152) hx hb dX8_init_176 (by decide) ?_
  refine lv_iload_n hx hb dX8_init_152 rfl (lv_at hl 0 rfl) ?_
  refine lv_bipush (v := 12) hx hb dX8_init_153 (by decide) ?_
  refine lv_icmp_ge (tgt := 179) hx hb dX8_init_155 (by decide) (fun c0 => absurd c0 (by decide)) (fun _ => ?_)
  refine lv_aload_n hx hb dX8_init_158 rfl (lv_at hl 1 rfl) ?_
  refine va_get (D := (dC, dI)) (ci := 8) (v := .ref q13) (C := RX8) (T := TX8) (N := 22) hx hb ht uX8 hown hK hP 0 rfl rfl 8 (by decide) (ht _ k_3_37) (fun _ h9 => h9) rfl dX8_init_159 ?_
  refine lv_iload_n hx hb dX8_init_162 rfl (lv_at hl 0 rfl) ?_
  refine va_new (ci := 9) (fs := [.null, .null, .null, .int 0]) (C := RX9) (T := TX9) (N := 4) hx hb ht uX9 tyX9 tkX9 hown (ht _ k_3_20) (ht _ k_1_101) (ht _ k_1_7) hK hP hD hS hA rfl (by decide +kernel) (Nat.le_of_ble_eq_true rfl) (Nat.le_of_ble_eq_true rfl) dX8_init_163 (fun q82 H hP hD hS => ?_)
  have hP : va_P (dC, dI) cls [(q, .inr (8, [.ref ac, .ref q1, .ref q7, .int 0, .int 0, .ref q9, .ref q11, .int 0, .ref q13, .int 0, .ref q15, .ref q17, .ref q19, .int 0, .ref q21, .int 0, .ref q27, .ref q29, .ref q31, .ref q37, .ref q39, .ref q41])), (q1, .inr (9, F4)), (q13, .inl (c14, 12, .inr (.inr (.inr (.inr f81))))), (q82, .inr (9, [.null, .null, .null, .int 0]))] H := hP
  have hD : va_D A [(q, .inr (8, [.ref ac, .ref q1, .ref q7, .int 0, .int 0, .ref q9, .ref q11, .int 0, .ref q13, .int 0, .ref q15, .ref q17, .ref q19, .int 0, .ref q21, .int 0, .ref q27, .ref q29, .ref q31, .ref q37, .ref q39, .ref q41])), (q1, .inr (9, F4)), (q13, .inl (c14, 12, .inr (.inr (.inr (.inr f81))))), (q82, .inr (9, [.null, .null, .null, .int 0]))] := hD
  refine W.widen (k := 48) (n := 7652) (by omega) (by omega) ?_
  refine lv_dup hx hb dX8_init_166 rfl ?_
  refine lv_bipush (v := 30) hx hb dX8_init_167 (by decide) ?_
  refine ca_v (wr := [(q, .inr (8, [.ref ac, .ref q1, .ref q7, .int 0, .int 0, .ref q9, .ref q11, .int 0, .ref q13, .int 0, .ref q15, .ref q17, .ref q19, .int 0, .ref q21, .int 0, .ref q27, .ref q29, .ref q31, .ref q37, .ref q39, .ref q41])), (q1, .inr (9, F4)), (q13, .inl (c14, 12, .inr (.inr (.inr (.inr f81)))))]) (va_runI (As := [.int 30]) (rest := [.ref q82, .int 5, .ref q13]) ⟨hx, hb, hml, hown, ht⟩ (k9_30 l dC dI H.size q82  ) (cwI 1 ht (gdI k_1_104) rfl rfl rfl (ht _ k_1_7) (ht _ k_3_21) (ht _ k_1_103) rfl (by decide +kernel) ⟨Nat.le_of_ble_eq_true rfl, Nat.le_of_ble_eq_true rfl⟩) ⟨pcw_blind, pcw_at hP hD hK [3] [] (by decide) rfl rfl rfl⟩ rfl rfl hl.1 rfl (lv_room (Nat.le_of_ble_eq_true rfl)) dX8_init_169 ⟨Nat.le_of_ble_eq_true rfl, Nat.le_of_ble_eq_true rfl⟩) hP hD hK hS hA [3] [0, 1, 2] rfl rfl (by decide) (by decide) (fun u H locs w84 hK hP hD hS => ?_)
  obtain ⟨F85, rfl⟩ : ∃ z, z = u := ⟨_, rfl⟩
  have hK : va_K (dC, dI) cls [(c8, .byte), (c10, .int), (c12, .int), (c14, .object "FinderHouse$Term"), (c16, .int), (c18, .byte), (c20, .byte), (c28, .int), (c30, .int), (c38, .int), (c40, .int)] s := hK
  have hP : va_P (dC, dI) cls [(q, .inr (8, [.ref ac, .ref q1, .ref q7, .int 0, .int 0, .ref q9, .ref q11, .int 0, .ref q13, .int 0, .ref q15, .ref q17, .ref q19, .int 0, .ref q21, .int 0, .ref q27, .ref q29, .ref q31, .ref q37, .ref q39, .ref q41])), (q1, .inr (9, F4)), (q13, .inl (c14, 12, .inr (.inr (.inr (.inr f81))))), (q82, .inr (9, F85))] H := hP
  have hD : va_D A [(q, .inr (8, [.ref ac, .ref q1, .ref q7, .int 0, .int 0, .ref q9, .ref q11, .int 0, .ref q13, .int 0, .ref q15, .ref q17, .ref q19, .int 0, .ref q21, .int 0, .ref q27, .ref q29, .ref q31, .ref q37, .ref q39, .ref q41])), (q1, .inr (9, F4)), (q13, .inl (c14, 12, .inr (.inr (.inr (.inr f81))))), (q82, .inr (9, F85))] := hD
  refine W.widen (k := 51) (n := 7742) (by omega) (by omega) ?_
  obtain ⟨w84, K86, K87⟩ := w84
  refine va_astq (r := (RX9, TX9, 4)) hx hb hK hP hD hS 2 3 3 9 rfl rfl rfl rfl (by unfold vp_in; decide) dX8_init_172 (fun H locs hP hD hS => ?_)
  obtain ⟨f88, ef88⟩ : ∃ g : Nat → Option Nat, g = va_up f81 (5 : Int32).toNatClampNeg (some q82) := ⟨_, rfl⟩
  rw [← ef88] at hP hD
  have hP : va_P (dC, dI) cls [(q, .inr (8, [.ref ac, .ref q1, .ref q7, .int 0, .int 0, .ref q9, .ref q11, .int 0, .ref q13, .int 0, .ref q15, .ref q17, .ref q19, .int 0, .ref q21, .int 0, .ref q27, .ref q29, .ref q31, .ref q37, .ref q39, .ref q41])), (q1, .inr (9, F4)), (q13, .inl (c14, 12, .inr (.inr (.inr (.inr f88))))), (q82, .inr (9, F85))] H := hP
  have hD : va_D A [(q, .inr (8, [.ref ac, .ref q1, .ref q7, .int 0, .int 0, .ref q9, .ref q11, .int 0, .ref q13, .int 0, .ref q15, .ref q17, .ref q19, .int 0, .ref q21, .int 0, .ref q27, .ref q29, .ref q31, .ref q37, .ref q39, .ref q41])), (q1, .inr (9, F4)), (q13, .inl (c14, 12, .inr (.inr (.inr (.inr f88))))), (q82, .inr (9, F85))] := hD
  have hP := hP.sub (ws' := [(q, .inr (8, [.ref ac, .ref q1, .ref q7, .int 0, .int 0, .ref q9, .ref q11, .int 0, .ref q13, .int 0, .ref q15, .ref q17, .ref q19, .int 0, .ref q21, .int 0, .ref q27, .ref q29, .ref q31, .ref q37, .ref q39, .ref q41])), (q1, .inr (9, F4)), (q13, .inl (c14, 12, .inr (.inr (.inr (.inr f88)))))]) [0, 1, 2] rfl
  have hD := hD.sub (ws' := [(q, .inr (8, [.ref ac, .ref q1, .ref q7, .int 0, .int 0, .ref q9, .ref q11, .int 0, .ref q13, .int 0, .ref q15, .ref q17, .ref q19, .int 0, .ref q21, .int 0, .ref q27, .ref q29, .ref q31, .ref q37, .ref q39, .ref q41])), (q1, .inr (9, F4)), (q13, .inl (c14, 12, .inr (.inr (.inr (.inr f88)))))]) [0, 1, 2] (by decide) rfl
  refine lv_iinc (v := 6) (lv' := [(2, .int 6), (0, .ref q), (1, .ref ac)]) hx hb dX8_init_173 hl (k := 0) rfl (by decide) (by decide) rfl (fun ls hl => ?_)
  refine lv_goto (tgt := 152) hx hb dX8_init_176 (by decide) ?_
  refine lv_iload_n hx hb dX8_init_152 rfl (lv_at hl 0 rfl) ?_
  refine lv_bipush (v := 12) hx hb dX8_init_153 (by decide) ?_
  refine lv_icmp_ge (tgt := 179) hx hb dX8_init_155 (by decide) (fun c0 => absurd c0 (by decide)) (fun _ => ?_)
  refine lv_aload_n hx hb dX8_init_158 rfl (lv_at hl 1 rfl) ?_
  refine va_get (D := (dC, dI)) (ci := 8) (v := .ref q13) (C := RX8) (T := TX8) (N := 22) hx hb ht uX8 hown hK hP 0 rfl rfl 8 (by decide) (ht _ k_3_37) (fun _ h9 => h9) rfl dX8_init_159 ?_
  refine lv_iload_n hx hb dX8_init_162 rfl (lv_at hl 0 rfl) ?_
  refine va_new (ci := 9) (fs := [.null, .null, .null, .int 0]) (C := RX9) (T := TX9) (N := 4) hx hb ht uX9 tyX9 tkX9 hown (ht _ k_3_20) (ht _ k_1_101) (ht _ k_1_7) hK hP hD hS hA rfl (by decide +kernel) (Nat.le_of_ble_eq_true rfl) (Nat.le_of_ble_eq_true rfl) dX8_init_163 (fun q89 H hP hD hS => ?_)
  have hP : va_P (dC, dI) cls [(q, .inr (8, [.ref ac, .ref q1, .ref q7, .int 0, .int 0, .ref q9, .ref q11, .int 0, .ref q13, .int 0, .ref q15, .ref q17, .ref q19, .int 0, .ref q21, .int 0, .ref q27, .ref q29, .ref q31, .ref q37, .ref q39, .ref q41])), (q1, .inr (9, F4)), (q13, .inl (c14, 12, .inr (.inr (.inr (.inr f88))))), (q89, .inr (9, [.null, .null, .null, .int 0]))] H := hP
  have hD : va_D A [(q, .inr (8, [.ref ac, .ref q1, .ref q7, .int 0, .int 0, .ref q9, .ref q11, .int 0, .ref q13, .int 0, .ref q15, .ref q17, .ref q19, .int 0, .ref q21, .int 0, .ref q27, .ref q29, .ref q31, .ref q37, .ref q39, .ref q41])), (q1, .inr (9, F4)), (q13, .inl (c14, 12, .inr (.inr (.inr (.inr f88))))), (q89, .inr (9, [.null, .null, .null, .int 0]))] := hD
  refine W.widen (k := 52) (n := 7746) (by omega) (by omega) ?_
  refine lv_dup hx hb dX8_init_166 rfl ?_
  refine lv_bipush (v := 30) hx hb dX8_init_167 (by decide) ?_
  refine ca_v (wr := [(q, .inr (8, [.ref ac, .ref q1, .ref q7, .int 0, .int 0, .ref q9, .ref q11, .int 0, .ref q13, .int 0, .ref q15, .ref q17, .ref q19, .int 0, .ref q21, .int 0, .ref q27, .ref q29, .ref q31, .ref q37, .ref q39, .ref q41])), (q1, .inr (9, F4)), (q13, .inl (c14, 12, .inr (.inr (.inr (.inr f88)))))]) (va_runI (As := [.int 30]) (rest := [.ref q89, .int 6, .ref q13]) ⟨hx, hb, hml, hown, ht⟩ (k9_30 l dC dI H.size q89  ) (cwI 1 ht (gdI k_1_104) rfl rfl rfl (ht _ k_1_7) (ht _ k_3_21) (ht _ k_1_103) rfl (by decide +kernel) ⟨Nat.le_of_ble_eq_true rfl, Nat.le_of_ble_eq_true rfl⟩) ⟨pcw_blind, pcw_at hP hD hK [3] [] (by decide) rfl rfl rfl⟩ rfl rfl hl.1 rfl (lv_room (Nat.le_of_ble_eq_true rfl)) dX8_init_169 ⟨Nat.le_of_ble_eq_true rfl, Nat.le_of_ble_eq_true rfl⟩) hP hD hK hS hA [3] [0, 1, 2] rfl rfl (by decide) (by decide) (fun u H locs w91 hK hP hD hS => ?_)
  obtain ⟨F92, rfl⟩ : ∃ z, z = u := ⟨_, rfl⟩
  have hK : va_K (dC, dI) cls [(c8, .byte), (c10, .int), (c12, .int), (c14, .object "FinderHouse$Term"), (c16, .int), (c18, .byte), (c20, .byte), (c28, .int), (c30, .int), (c38, .int), (c40, .int)] s := hK
  have hP : va_P (dC, dI) cls [(q, .inr (8, [.ref ac, .ref q1, .ref q7, .int 0, .int 0, .ref q9, .ref q11, .int 0, .ref q13, .int 0, .ref q15, .ref q17, .ref q19, .int 0, .ref q21, .int 0, .ref q27, .ref q29, .ref q31, .ref q37, .ref q39, .ref q41])), (q1, .inr (9, F4)), (q13, .inl (c14, 12, .inr (.inr (.inr (.inr f88))))), (q89, .inr (9, F92))] H := hP
  have hD : va_D A [(q, .inr (8, [.ref ac, .ref q1, .ref q7, .int 0, .int 0, .ref q9, .ref q11, .int 0, .ref q13, .int 0, .ref q15, .ref q17, .ref q19, .int 0, .ref q21, .int 0, .ref q27, .ref q29, .ref q31, .ref q37, .ref q39, .ref q41])), (q1, .inr (9, F4)), (q13, .inl (c14, 12, .inr (.inr (.inr (.inr f88))))), (q89, .inr (9, F92))] := hD
  refine W.widen (k := 55) (n := 7836) (by omega) (by omega) ?_
  obtain ⟨w91, K93, K94⟩ := w91
  refine va_astq (r := (RX9, TX9, 4)) hx hb hK hP hD hS 2 3 3 9 rfl rfl rfl rfl (by unfold vp_in; decide) dX8_init_172 (fun H locs hP hD hS => ?_)
  obtain ⟨f95, ef95⟩ : ∃ g : Nat → Option Nat, g = va_up f88 (6 : Int32).toNatClampNeg (some q89) := ⟨_, rfl⟩
  rw [← ef95] at hP hD
  have hP : va_P (dC, dI) cls [(q, .inr (8, [.ref ac, .ref q1, .ref q7, .int 0, .int 0, .ref q9, .ref q11, .int 0, .ref q13, .int 0, .ref q15, .ref q17, .ref q19, .int 0, .ref q21, .int 0, .ref q27, .ref q29, .ref q31, .ref q37, .ref q39, .ref q41])), (q1, .inr (9, F4)), (q13, .inl (c14, 12, .inr (.inr (.inr (.inr f95))))), (q89, .inr (9, F92))] H := hP
  have hD : va_D A [(q, .inr (8, [.ref ac, .ref q1, .ref q7, .int 0, .int 0, .ref q9, .ref q11, .int 0, .ref q13, .int 0, .ref q15, .ref q17, .ref q19, .int 0, .ref q21, .int 0, .ref q27, .ref q29, .ref q31, .ref q37, .ref q39, .ref q41])), (q1, .inr (9, F4)), (q13, .inl (c14, 12, .inr (.inr (.inr (.inr f95))))), (q89, .inr (9, F92))] := hD
  have hP := hP.sub (ws' := [(q, .inr (8, [.ref ac, .ref q1, .ref q7, .int 0, .int 0, .ref q9, .ref q11, .int 0, .ref q13, .int 0, .ref q15, .ref q17, .ref q19, .int 0, .ref q21, .int 0, .ref q27, .ref q29, .ref q31, .ref q37, .ref q39, .ref q41])), (q1, .inr (9, F4)), (q13, .inl (c14, 12, .inr (.inr (.inr (.inr f95)))))]) [0, 1, 2] rfl
  have hD := hD.sub (ws' := [(q, .inr (8, [.ref ac, .ref q1, .ref q7, .int 0, .int 0, .ref q9, .ref q11, .int 0, .ref q13, .int 0, .ref q15, .ref q17, .ref q19, .int 0, .ref q21, .int 0, .ref q27, .ref q29, .ref q31, .ref q37, .ref q39, .ref q41])), (q1, .inr (9, F4)), (q13, .inl (c14, 12, .inr (.inr (.inr (.inr f95)))))]) [0, 1, 2] (by decide) rfl
  refine lv_iinc (v := 7) (lv' := [(2, .int 7), (0, .ref q), (1, .ref ac)]) hx hb dX8_init_173 hl (k := 0) rfl (by decide) (by decide) rfl (fun ls hl => ?_)
  refine lv_goto (tgt := 152) hx hb dX8_init_176 (by decide) ?_
  refine lv_iload_n hx hb dX8_init_152 rfl (lv_at hl 0 rfl) ?_
  refine lv_bipush (v := 12) hx hb dX8_init_153 (by decide) ?_
  refine lv_icmp_ge (tgt := 179) hx hb dX8_init_155 (by decide) (fun c0 => absurd c0 (by decide)) (fun _ => ?_)
  refine lv_aload_n hx hb dX8_init_158 rfl (lv_at hl 1 rfl) ?_
  refine va_get (D := (dC, dI)) (ci := 8) (v := .ref q13) (C := RX8) (T := TX8) (N := 22) hx hb ht uX8 hown hK hP 0 rfl rfl 8 (by decide) (ht _ k_3_37) (fun _ h9 => h9) rfl dX8_init_159 ?_
  refine lv_iload_n hx hb dX8_init_162 rfl (lv_at hl 0 rfl) ?_
  refine va_new (ci := 9) (fs := [.null, .null, .null, .int 0]) (C := RX9) (T := TX9) (N := 4) hx hb ht uX9 tyX9 tkX9 hown (ht _ k_3_20) (ht _ k_1_101) (ht _ k_1_7) hK hP hD hS hA rfl (by decide +kernel) (Nat.le_of_ble_eq_true rfl) (Nat.le_of_ble_eq_true rfl) dX8_init_163 (fun q96 H hP hD hS => ?_)
  have hP : va_P (dC, dI) cls [(q, .inr (8, [.ref ac, .ref q1, .ref q7, .int 0, .int 0, .ref q9, .ref q11, .int 0, .ref q13, .int 0, .ref q15, .ref q17, .ref q19, .int 0, .ref q21, .int 0, .ref q27, .ref q29, .ref q31, .ref q37, .ref q39, .ref q41])), (q1, .inr (9, F4)), (q13, .inl (c14, 12, .inr (.inr (.inr (.inr f95))))), (q96, .inr (9, [.null, .null, .null, .int 0]))] H := hP
  have hD : va_D A [(q, .inr (8, [.ref ac, .ref q1, .ref q7, .int 0, .int 0, .ref q9, .ref q11, .int 0, .ref q13, .int 0, .ref q15, .ref q17, .ref q19, .int 0, .ref q21, .int 0, .ref q27, .ref q29, .ref q31, .ref q37, .ref q39, .ref q41])), (q1, .inr (9, F4)), (q13, .inl (c14, 12, .inr (.inr (.inr (.inr f95))))), (q96, .inr (9, [.null, .null, .null, .int 0]))] := hD
  refine W.widen (k := 56) (n := 7840) (by omega) (by omega) ?_
  refine lv_dup hx hb dX8_init_166 rfl ?_
  refine lv_bipush (v := 30) hx hb dX8_init_167 (by decide) ?_
  refine ca_v (wr := [(q, .inr (8, [.ref ac, .ref q1, .ref q7, .int 0, .int 0, .ref q9, .ref q11, .int 0, .ref q13, .int 0, .ref q15, .ref q17, .ref q19, .int 0, .ref q21, .int 0, .ref q27, .ref q29, .ref q31, .ref q37, .ref q39, .ref q41])), (q1, .inr (9, F4)), (q13, .inl (c14, 12, .inr (.inr (.inr (.inr f95)))))]) (va_runI (As := [.int 30]) (rest := [.ref q96, .int 7, .ref q13]) ⟨hx, hb, hml, hown, ht⟩ (k9_30 l dC dI H.size q96  ) (cwI 1 ht (gdI k_1_104) rfl rfl rfl (ht _ k_1_7) (ht _ k_3_21) (ht _ k_1_103) rfl (by decide +kernel) ⟨Nat.le_of_ble_eq_true rfl, Nat.le_of_ble_eq_true rfl⟩) ⟨pcw_blind, pcw_at hP hD hK [3] [] (by decide) rfl rfl rfl⟩ rfl rfl hl.1 rfl (lv_room (Nat.le_of_ble_eq_true rfl)) dX8_init_169 ⟨Nat.le_of_ble_eq_true rfl, Nat.le_of_ble_eq_true rfl⟩) hP hD hK hS hA [3] [0, 1, 2] rfl rfl (by decide) (by decide) (fun u H locs w98 hK hP hD hS => ?_)
  obtain ⟨F99, rfl⟩ : ∃ z, z = u := ⟨_, rfl⟩
  have hK : va_K (dC, dI) cls [(c8, .byte), (c10, .int), (c12, .int), (c14, .object "FinderHouse$Term"), (c16, .int), (c18, .byte), (c20, .byte), (c28, .int), (c30, .int), (c38, .int), (c40, .int)] s := hK
  have hP : va_P (dC, dI) cls [(q, .inr (8, [.ref ac, .ref q1, .ref q7, .int 0, .int 0, .ref q9, .ref q11, .int 0, .ref q13, .int 0, .ref q15, .ref q17, .ref q19, .int 0, .ref q21, .int 0, .ref q27, .ref q29, .ref q31, .ref q37, .ref q39, .ref q41])), (q1, .inr (9, F4)), (q13, .inl (c14, 12, .inr (.inr (.inr (.inr f95))))), (q96, .inr (9, F99))] H := hP
  have hD : va_D A [(q, .inr (8, [.ref ac, .ref q1, .ref q7, .int 0, .int 0, .ref q9, .ref q11, .int 0, .ref q13, .int 0, .ref q15, .ref q17, .ref q19, .int 0, .ref q21, .int 0, .ref q27, .ref q29, .ref q31, .ref q37, .ref q39, .ref q41])), (q1, .inr (9, F4)), (q13, .inl (c14, 12, .inr (.inr (.inr (.inr f95))))), (q96, .inr (9, F99))] := hD
  refine W.widen (k := 59) (n := 7930) (by omega) (by omega) ?_
  obtain ⟨w98, K100, K101⟩ := w98
  refine va_astq (r := (RX9, TX9, 4)) hx hb hK hP hD hS 2 3 3 9 rfl rfl rfl rfl (by unfold vp_in; decide) dX8_init_172 (fun H locs hP hD hS => ?_)
  obtain ⟨f102, ef102⟩ : ∃ g : Nat → Option Nat, g = va_up f95 (7 : Int32).toNatClampNeg (some q96) := ⟨_, rfl⟩
  rw [← ef102] at hP hD
  have hP : va_P (dC, dI) cls [(q, .inr (8, [.ref ac, .ref q1, .ref q7, .int 0, .int 0, .ref q9, .ref q11, .int 0, .ref q13, .int 0, .ref q15, .ref q17, .ref q19, .int 0, .ref q21, .int 0, .ref q27, .ref q29, .ref q31, .ref q37, .ref q39, .ref q41])), (q1, .inr (9, F4)), (q13, .inl (c14, 12, .inr (.inr (.inr (.inr f102))))), (q96, .inr (9, F99))] H := hP
  have hD : va_D A [(q, .inr (8, [.ref ac, .ref q1, .ref q7, .int 0, .int 0, .ref q9, .ref q11, .int 0, .ref q13, .int 0, .ref q15, .ref q17, .ref q19, .int 0, .ref q21, .int 0, .ref q27, .ref q29, .ref q31, .ref q37, .ref q39, .ref q41])), (q1, .inr (9, F4)), (q13, .inl (c14, 12, .inr (.inr (.inr (.inr f102))))), (q96, .inr (9, F99))] := hD
  have hP := hP.sub (ws' := [(q, .inr (8, [.ref ac, .ref q1, .ref q7, .int 0, .int 0, .ref q9, .ref q11, .int 0, .ref q13, .int 0, .ref q15, .ref q17, .ref q19, .int 0, .ref q21, .int 0, .ref q27, .ref q29, .ref q31, .ref q37, .ref q39, .ref q41])), (q1, .inr (9, F4)), (q13, .inl (c14, 12, .inr (.inr (.inr (.inr f102)))))]) [0, 1, 2] rfl
  have hD := hD.sub (ws' := [(q, .inr (8, [.ref ac, .ref q1, .ref q7, .int 0, .int 0, .ref q9, .ref q11, .int 0, .ref q13, .int 0, .ref q15, .ref q17, .ref q19, .int 0, .ref q21, .int 0, .ref q27, .ref q29, .ref q31, .ref q37, .ref q39, .ref q41])), (q1, .inr (9, F4)), (q13, .inl (c14, 12, .inr (.inr (.inr (.inr f102)))))]) [0, 1, 2] (by decide) rfl
  refine lv_iinc (v := 8) (lv' := [(2, .int 8), (0, .ref q), (1, .ref ac)]) hx hb dX8_init_173 hl (k := 0) rfl (by decide) (by decide) rfl (fun ls hl => ?_)
  refine lv_goto (tgt := 152) hx hb dX8_init_176 (by decide) ?_
  refine lv_iload_n hx hb dX8_init_152 rfl (lv_at hl 0 rfl) ?_
  refine lv_bipush (v := 12) hx hb dX8_init_153 (by decide) ?_
  refine lv_icmp_ge (tgt := 179) hx hb dX8_init_155 (by decide) (fun c0 => absurd c0 (by decide)) (fun _ => ?_)
  refine lv_aload_n hx hb dX8_init_158 rfl (lv_at hl 1 rfl) ?_
  refine va_get (D := (dC, dI)) (ci := 8) (v := .ref q13) (C := RX8) (T := TX8) (N := 22) hx hb ht uX8 hown hK hP 0 rfl rfl 8 (by decide) (ht _ k_3_37) (fun _ h9 => h9) rfl dX8_init_159 ?_
  refine lv_iload_n hx hb dX8_init_162 rfl (lv_at hl 0 rfl) ?_
  refine va_new (ci := 9) (fs := [.null, .null, .null, .int 0]) (C := RX9) (T := TX9) (N := 4) hx hb ht uX9 tyX9 tkX9 hown (ht _ k_3_20) (ht _ k_1_101) (ht _ k_1_7) hK hP hD hS hA rfl (by decide +kernel) (Nat.le_of_ble_eq_true rfl) (Nat.le_of_ble_eq_true rfl) dX8_init_163 (fun q103 H hP hD hS => ?_)
  have hP : va_P (dC, dI) cls [(q, .inr (8, [.ref ac, .ref q1, .ref q7, .int 0, .int 0, .ref q9, .ref q11, .int 0, .ref q13, .int 0, .ref q15, .ref q17, .ref q19, .int 0, .ref q21, .int 0, .ref q27, .ref q29, .ref q31, .ref q37, .ref q39, .ref q41])), (q1, .inr (9, F4)), (q13, .inl (c14, 12, .inr (.inr (.inr (.inr f102))))), (q103, .inr (9, [.null, .null, .null, .int 0]))] H := hP
  have hD : va_D A [(q, .inr (8, [.ref ac, .ref q1, .ref q7, .int 0, .int 0, .ref q9, .ref q11, .int 0, .ref q13, .int 0, .ref q15, .ref q17, .ref q19, .int 0, .ref q21, .int 0, .ref q27, .ref q29, .ref q31, .ref q37, .ref q39, .ref q41])), (q1, .inr (9, F4)), (q13, .inl (c14, 12, .inr (.inr (.inr (.inr f102))))), (q103, .inr (9, [.null, .null, .null, .int 0]))] := hD
  refine W.widen (k := 60) (n := 7934) (by omega) (by omega) ?_
  refine lv_dup hx hb dX8_init_166 rfl ?_
  refine lv_bipush (v := 30) hx hb dX8_init_167 (by decide) ?_
  refine ca_v (wr := [(q, .inr (8, [.ref ac, .ref q1, .ref q7, .int 0, .int 0, .ref q9, .ref q11, .int 0, .ref q13, .int 0, .ref q15, .ref q17, .ref q19, .int 0, .ref q21, .int 0, .ref q27, .ref q29, .ref q31, .ref q37, .ref q39, .ref q41])), (q1, .inr (9, F4)), (q13, .inl (c14, 12, .inr (.inr (.inr (.inr f102)))))]) (va_runI (As := [.int 30]) (rest := [.ref q103, .int 8, .ref q13]) ⟨hx, hb, hml, hown, ht⟩ (k9_30 l dC dI H.size q103  ) (cwI 1 ht (gdI k_1_104) rfl rfl rfl (ht _ k_1_7) (ht _ k_3_21) (ht _ k_1_103) rfl (by decide +kernel) ⟨Nat.le_of_ble_eq_true rfl, Nat.le_of_ble_eq_true rfl⟩) ⟨pcw_blind, pcw_at hP hD hK [3] [] (by decide) rfl rfl rfl⟩ rfl rfl hl.1 rfl (lv_room (Nat.le_of_ble_eq_true rfl)) dX8_init_169 ⟨Nat.le_of_ble_eq_true rfl, Nat.le_of_ble_eq_true rfl⟩) hP hD hK hS hA [3] [0, 1, 2] rfl rfl (by decide) (by decide) (fun u H locs w105 hK hP hD hS => ?_)
  obtain ⟨F106, rfl⟩ : ∃ z, z = u := ⟨_, rfl⟩
  have hK : va_K (dC, dI) cls [(c8, .byte), (c10, .int), (c12, .int), (c14, .object "FinderHouse$Term"), (c16, .int), (c18, .byte), (c20, .byte), (c28, .int), (c30, .int), (c38, .int), (c40, .int)] s := hK
  have hP : va_P (dC, dI) cls [(q, .inr (8, [.ref ac, .ref q1, .ref q7, .int 0, .int 0, .ref q9, .ref q11, .int 0, .ref q13, .int 0, .ref q15, .ref q17, .ref q19, .int 0, .ref q21, .int 0, .ref q27, .ref q29, .ref q31, .ref q37, .ref q39, .ref q41])), (q1, .inr (9, F4)), (q13, .inl (c14, 12, .inr (.inr (.inr (.inr f102))))), (q103, .inr (9, F106))] H := hP
  have hD : va_D A [(q, .inr (8, [.ref ac, .ref q1, .ref q7, .int 0, .int 0, .ref q9, .ref q11, .int 0, .ref q13, .int 0, .ref q15, .ref q17, .ref q19, .int 0, .ref q21, .int 0, .ref q27, .ref q29, .ref q31, .ref q37, .ref q39, .ref q41])), (q1, .inr (9, F4)), (q13, .inl (c14, 12, .inr (.inr (.inr (.inr f102))))), (q103, .inr (9, F106))] := hD
  refine W.widen (k := 63) (n := 8024) (by omega) (by omega) ?_
  obtain ⟨w105, K107, K108⟩ := w105
  refine va_astq (r := (RX9, TX9, 4)) hx hb hK hP hD hS 2 3 3 9 rfl rfl rfl rfl (by unfold vp_in; decide) dX8_init_172 (fun H locs hP hD hS => ?_)
  obtain ⟨f109, ef109⟩ : ∃ g : Nat → Option Nat, g = va_up f102 (8 : Int32).toNatClampNeg (some q103) := ⟨_, rfl⟩
  rw [← ef109] at hP hD
  have hP : va_P (dC, dI) cls [(q, .inr (8, [.ref ac, .ref q1, .ref q7, .int 0, .int 0, .ref q9, .ref q11, .int 0, .ref q13, .int 0, .ref q15, .ref q17, .ref q19, .int 0, .ref q21, .int 0, .ref q27, .ref q29, .ref q31, .ref q37, .ref q39, .ref q41])), (q1, .inr (9, F4)), (q13, .inl (c14, 12, .inr (.inr (.inr (.inr f109))))), (q103, .inr (9, F106))] H := hP
  have hD : va_D A [(q, .inr (8, [.ref ac, .ref q1, .ref q7, .int 0, .int 0, .ref q9, .ref q11, .int 0, .ref q13, .int 0, .ref q15, .ref q17, .ref q19, .int 0, .ref q21, .int 0, .ref q27, .ref q29, .ref q31, .ref q37, .ref q39, .ref q41])), (q1, .inr (9, F4)), (q13, .inl (c14, 12, .inr (.inr (.inr (.inr f109))))), (q103, .inr (9, F106))] := hD
  have hP := hP.sub (ws' := [(q, .inr (8, [.ref ac, .ref q1, .ref q7, .int 0, .int 0, .ref q9, .ref q11, .int 0, .ref q13, .int 0, .ref q15, .ref q17, .ref q19, .int 0, .ref q21, .int 0, .ref q27, .ref q29, .ref q31, .ref q37, .ref q39, .ref q41])), (q1, .inr (9, F4)), (q13, .inl (c14, 12, .inr (.inr (.inr (.inr f109)))))]) [0, 1, 2] rfl
  have hD := hD.sub (ws' := [(q, .inr (8, [.ref ac, .ref q1, .ref q7, .int 0, .int 0, .ref q9, .ref q11, .int 0, .ref q13, .int 0, .ref q15, .ref q17, .ref q19, .int 0, .ref q21, .int 0, .ref q27, .ref q29, .ref q31, .ref q37, .ref q39, .ref q41])), (q1, .inr (9, F4)), (q13, .inl (c14, 12, .inr (.inr (.inr (.inr f109)))))]) [0, 1, 2] (by decide) rfl
  refine lv_iinc (v := 9) (lv' := [(2, .int 9), (0, .ref q), (1, .ref ac)]) hx hb dX8_init_173 hl (k := 0) rfl (by decide) (by decide) rfl (fun ls hl => ?_)
  refine lv_goto (tgt := 152) hx hb dX8_init_176 (by decide) ?_
  refine lv_iload_n hx hb dX8_init_152 rfl (lv_at hl 0 rfl) ?_
  refine lv_bipush (v := 12) hx hb dX8_init_153 (by decide) ?_
  refine lv_icmp_ge (tgt := 179) hx hb dX8_init_155 (by decide) (fun c0 => absurd c0 (by decide)) (fun _ => ?_)
  refine lv_aload_n hx hb dX8_init_158 rfl (lv_at hl 1 rfl) ?_
  refine va_get (D := (dC, dI)) (ci := 8) (v := .ref q13) (C := RX8) (T := TX8) (N := 22) hx hb ht uX8 hown hK hP 0 rfl rfl 8 (by decide) (ht _ k_3_37) (fun _ h9 => h9) rfl dX8_init_159 ?_
  refine lv_iload_n hx hb dX8_init_162 rfl (lv_at hl 0 rfl) ?_
  refine va_new (ci := 9) (fs := [.null, .null, .null, .int 0]) (C := RX9) (T := TX9) (N := 4) hx hb ht uX9 tyX9 tkX9 hown (ht _ k_3_20) (ht _ k_1_101) (ht _ k_1_7) hK hP hD hS hA rfl (by decide +kernel) (Nat.le_of_ble_eq_true rfl) (Nat.le_of_ble_eq_true rfl) dX8_init_163 (fun q110 H hP hD hS => ?_)
  have hP : va_P (dC, dI) cls [(q, .inr (8, [.ref ac, .ref q1, .ref q7, .int 0, .int 0, .ref q9, .ref q11, .int 0, .ref q13, .int 0, .ref q15, .ref q17, .ref q19, .int 0, .ref q21, .int 0, .ref q27, .ref q29, .ref q31, .ref q37, .ref q39, .ref q41])), (q1, .inr (9, F4)), (q13, .inl (c14, 12, .inr (.inr (.inr (.inr f109))))), (q110, .inr (9, [.null, .null, .null, .int 0]))] H := hP
  have hD : va_D A [(q, .inr (8, [.ref ac, .ref q1, .ref q7, .int 0, .int 0, .ref q9, .ref q11, .int 0, .ref q13, .int 0, .ref q15, .ref q17, .ref q19, .int 0, .ref q21, .int 0, .ref q27, .ref q29, .ref q31, .ref q37, .ref q39, .ref q41])), (q1, .inr (9, F4)), (q13, .inl (c14, 12, .inr (.inr (.inr (.inr f109))))), (q110, .inr (9, [.null, .null, .null, .int 0]))] := hD
  refine W.widen (k := 64) (n := 8028) (by omega) (by omega) ?_
  refine lv_dup hx hb dX8_init_166 rfl ?_
  refine lv_bipush (v := 30) hx hb dX8_init_167 (by decide) ?_
  refine ca_v (wr := [(q, .inr (8, [.ref ac, .ref q1, .ref q7, .int 0, .int 0, .ref q9, .ref q11, .int 0, .ref q13, .int 0, .ref q15, .ref q17, .ref q19, .int 0, .ref q21, .int 0, .ref q27, .ref q29, .ref q31, .ref q37, .ref q39, .ref q41])), (q1, .inr (9, F4)), (q13, .inl (c14, 12, .inr (.inr (.inr (.inr f109)))))]) (va_runI (As := [.int 30]) (rest := [.ref q110, .int 9, .ref q13]) ⟨hx, hb, hml, hown, ht⟩ (k9_30 l dC dI H.size q110  ) (cwI 1 ht (gdI k_1_104) rfl rfl rfl (ht _ k_1_7) (ht _ k_3_21) (ht _ k_1_103) rfl (by decide +kernel) ⟨Nat.le_of_ble_eq_true rfl, Nat.le_of_ble_eq_true rfl⟩) ⟨pcw_blind, pcw_at hP hD hK [3] [] (by decide) rfl rfl rfl⟩ rfl rfl hl.1 rfl (lv_room (Nat.le_of_ble_eq_true rfl)) dX8_init_169 ⟨Nat.le_of_ble_eq_true rfl, Nat.le_of_ble_eq_true rfl⟩) hP hD hK hS hA [3] [0, 1, 2] rfl rfl (by decide) (by decide) (fun u H locs w112 hK hP hD hS => ?_)
  obtain ⟨F113, rfl⟩ : ∃ z, z = u := ⟨_, rfl⟩
  have hK : va_K (dC, dI) cls [(c8, .byte), (c10, .int), (c12, .int), (c14, .object "FinderHouse$Term"), (c16, .int), (c18, .byte), (c20, .byte), (c28, .int), (c30, .int), (c38, .int), (c40, .int)] s := hK
  have hP : va_P (dC, dI) cls [(q, .inr (8, [.ref ac, .ref q1, .ref q7, .int 0, .int 0, .ref q9, .ref q11, .int 0, .ref q13, .int 0, .ref q15, .ref q17, .ref q19, .int 0, .ref q21, .int 0, .ref q27, .ref q29, .ref q31, .ref q37, .ref q39, .ref q41])), (q1, .inr (9, F4)), (q13, .inl (c14, 12, .inr (.inr (.inr (.inr f109))))), (q110, .inr (9, F113))] H := hP
  have hD : va_D A [(q, .inr (8, [.ref ac, .ref q1, .ref q7, .int 0, .int 0, .ref q9, .ref q11, .int 0, .ref q13, .int 0, .ref q15, .ref q17, .ref q19, .int 0, .ref q21, .int 0, .ref q27, .ref q29, .ref q31, .ref q37, .ref q39, .ref q41])), (q1, .inr (9, F4)), (q13, .inl (c14, 12, .inr (.inr (.inr (.inr f109))))), (q110, .inr (9, F113))] := hD
  refine W.widen (k := 67) (n := 8118) (by omega) (by omega) ?_
  obtain ⟨w112, K114, K115⟩ := w112
  refine va_astq (r := (RX9, TX9, 4)) hx hb hK hP hD hS 2 3 3 9 rfl rfl rfl rfl (by unfold vp_in; decide) dX8_init_172 (fun H locs hP hD hS => ?_)
  obtain ⟨f116, ef116⟩ : ∃ g : Nat → Option Nat, g = va_up f109 (9 : Int32).toNatClampNeg (some q110) := ⟨_, rfl⟩
  rw [← ef116] at hP hD
  have hP : va_P (dC, dI) cls [(q, .inr (8, [.ref ac, .ref q1, .ref q7, .int 0, .int 0, .ref q9, .ref q11, .int 0, .ref q13, .int 0, .ref q15, .ref q17, .ref q19, .int 0, .ref q21, .int 0, .ref q27, .ref q29, .ref q31, .ref q37, .ref q39, .ref q41])), (q1, .inr (9, F4)), (q13, .inl (c14, 12, .inr (.inr (.inr (.inr f116))))), (q110, .inr (9, F113))] H := hP
  have hD : va_D A [(q, .inr (8, [.ref ac, .ref q1, .ref q7, .int 0, .int 0, .ref q9, .ref q11, .int 0, .ref q13, .int 0, .ref q15, .ref q17, .ref q19, .int 0, .ref q21, .int 0, .ref q27, .ref q29, .ref q31, .ref q37, .ref q39, .ref q41])), (q1, .inr (9, F4)), (q13, .inl (c14, 12, .inr (.inr (.inr (.inr f116))))), (q110, .inr (9, F113))] := hD
  have hP := hP.sub (ws' := [(q, .inr (8, [.ref ac, .ref q1, .ref q7, .int 0, .int 0, .ref q9, .ref q11, .int 0, .ref q13, .int 0, .ref q15, .ref q17, .ref q19, .int 0, .ref q21, .int 0, .ref q27, .ref q29, .ref q31, .ref q37, .ref q39, .ref q41])), (q1, .inr (9, F4)), (q13, .inl (c14, 12, .inr (.inr (.inr (.inr f116)))))]) [0, 1, 2] rfl
  have hD := hD.sub (ws' := [(q, .inr (8, [.ref ac, .ref q1, .ref q7, .int 0, .int 0, .ref q9, .ref q11, .int 0, .ref q13, .int 0, .ref q15, .ref q17, .ref q19, .int 0, .ref q21, .int 0, .ref q27, .ref q29, .ref q31, .ref q37, .ref q39, .ref q41])), (q1, .inr (9, F4)), (q13, .inl (c14, 12, .inr (.inr (.inr (.inr f116)))))]) [0, 1, 2] (by decide) rfl
  refine lv_iinc (v := 10) (lv' := [(2, .int 10), (0, .ref q), (1, .ref ac)]) hx hb dX8_init_173 hl (k := 0) rfl (by decide) (by decide) rfl (fun ls hl => ?_)
  refine lv_goto (tgt := 152) hx hb dX8_init_176 (by decide) ?_
  refine lv_iload_n hx hb dX8_init_152 rfl (lv_at hl 0 rfl) ?_
  refine lv_bipush (v := 12) hx hb dX8_init_153 (by decide) ?_
  refine lv_icmp_ge (tgt := 179) hx hb dX8_init_155 (by decide) (fun c0 => absurd c0 (by decide)) (fun _ => ?_)
  refine lv_aload_n hx hb dX8_init_158 rfl (lv_at hl 1 rfl) ?_
  refine va_get (D := (dC, dI)) (ci := 8) (v := .ref q13) (C := RX8) (T := TX8) (N := 22) hx hb ht uX8 hown hK hP 0 rfl rfl 8 (by decide) (ht _ k_3_37) (fun _ h9 => h9) rfl dX8_init_159 ?_
  refine lv_iload_n hx hb dX8_init_162 rfl (lv_at hl 0 rfl) ?_
  refine va_new (ci := 9) (fs := [.null, .null, .null, .int 0]) (C := RX9) (T := TX9) (N := 4) hx hb ht uX9 tyX9 tkX9 hown (ht _ k_3_20) (ht _ k_1_101) (ht _ k_1_7) hK hP hD hS hA rfl (by decide +kernel) (Nat.le_of_ble_eq_true rfl) (Nat.le_of_ble_eq_true rfl) dX8_init_163 (fun q117 H hP hD hS => ?_)
  have hP : va_P (dC, dI) cls [(q, .inr (8, [.ref ac, .ref q1, .ref q7, .int 0, .int 0, .ref q9, .ref q11, .int 0, .ref q13, .int 0, .ref q15, .ref q17, .ref q19, .int 0, .ref q21, .int 0, .ref q27, .ref q29, .ref q31, .ref q37, .ref q39, .ref q41])), (q1, .inr (9, F4)), (q13, .inl (c14, 12, .inr (.inr (.inr (.inr f116))))), (q117, .inr (9, [.null, .null, .null, .int 0]))] H := hP
  have hD : va_D A [(q, .inr (8, [.ref ac, .ref q1, .ref q7, .int 0, .int 0, .ref q9, .ref q11, .int 0, .ref q13, .int 0, .ref q15, .ref q17, .ref q19, .int 0, .ref q21, .int 0, .ref q27, .ref q29, .ref q31, .ref q37, .ref q39, .ref q41])), (q1, .inr (9, F4)), (q13, .inl (c14, 12, .inr (.inr (.inr (.inr f116))))), (q117, .inr (9, [.null, .null, .null, .int 0]))] := hD
  refine W.widen (k := 68) (n := 8122) (by omega) (by omega) ?_
  refine lv_dup hx hb dX8_init_166 rfl ?_
  refine lv_bipush (v := 30) hx hb dX8_init_167 (by decide) ?_
  refine ca_v (wr := [(q, .inr (8, [.ref ac, .ref q1, .ref q7, .int 0, .int 0, .ref q9, .ref q11, .int 0, .ref q13, .int 0, .ref q15, .ref q17, .ref q19, .int 0, .ref q21, .int 0, .ref q27, .ref q29, .ref q31, .ref q37, .ref q39, .ref q41])), (q1, .inr (9, F4)), (q13, .inl (c14, 12, .inr (.inr (.inr (.inr f116)))))]) (va_runI (As := [.int 30]) (rest := [.ref q117, .int 10, .ref q13]) ⟨hx, hb, hml, hown, ht⟩ (k9_30 l dC dI H.size q117  ) (cwI 1 ht (gdI k_1_104) rfl rfl rfl (ht _ k_1_7) (ht _ k_3_21) (ht _ k_1_103) rfl (by decide +kernel) ⟨Nat.le_of_ble_eq_true rfl, Nat.le_of_ble_eq_true rfl⟩) ⟨pcw_blind, pcw_at hP hD hK [3] [] (by decide) rfl rfl rfl⟩ rfl rfl hl.1 rfl (lv_room (Nat.le_of_ble_eq_true rfl)) dX8_init_169 ⟨Nat.le_of_ble_eq_true rfl, Nat.le_of_ble_eq_true rfl⟩) hP hD hK hS hA [3] [0, 1, 2] rfl rfl (by decide) (by decide) (fun u H locs w119 hK hP hD hS => ?_)
  obtain ⟨F120, rfl⟩ : ∃ z, z = u := ⟨_, rfl⟩
  have hK : va_K (dC, dI) cls [(c8, .byte), (c10, .int), (c12, .int), (c14, .object "FinderHouse$Term"), (c16, .int), (c18, .byte), (c20, .byte), (c28, .int), (c30, .int), (c38, .int), (c40, .int)] s := hK
  have hP : va_P (dC, dI) cls [(q, .inr (8, [.ref ac, .ref q1, .ref q7, .int 0, .int 0, .ref q9, .ref q11, .int 0, .ref q13, .int 0, .ref q15, .ref q17, .ref q19, .int 0, .ref q21, .int 0, .ref q27, .ref q29, .ref q31, .ref q37, .ref q39, .ref q41])), (q1, .inr (9, F4)), (q13, .inl (c14, 12, .inr (.inr (.inr (.inr f116))))), (q117, .inr (9, F120))] H := hP
  have hD : va_D A [(q, .inr (8, [.ref ac, .ref q1, .ref q7, .int 0, .int 0, .ref q9, .ref q11, .int 0, .ref q13, .int 0, .ref q15, .ref q17, .ref q19, .int 0, .ref q21, .int 0, .ref q27, .ref q29, .ref q31, .ref q37, .ref q39, .ref q41])), (q1, .inr (9, F4)), (q13, .inl (c14, 12, .inr (.inr (.inr (.inr f116))))), (q117, .inr (9, F120))] := hD
  refine W.widen (k := 71) (n := 8212) (by omega) (by omega) ?_
  obtain ⟨w119, K121, K122⟩ := w119
  refine va_astq (r := (RX9, TX9, 4)) hx hb hK hP hD hS 2 3 3 9 rfl rfl rfl rfl (by unfold vp_in; decide) dX8_init_172 (fun H locs hP hD hS => ?_)
  obtain ⟨f123, ef123⟩ : ∃ g : Nat → Option Nat, g = va_up f116 (10 : Int32).toNatClampNeg (some q117) := ⟨_, rfl⟩
  rw [← ef123] at hP hD
  have hP : va_P (dC, dI) cls [(q, .inr (8, [.ref ac, .ref q1, .ref q7, .int 0, .int 0, .ref q9, .ref q11, .int 0, .ref q13, .int 0, .ref q15, .ref q17, .ref q19, .int 0, .ref q21, .int 0, .ref q27, .ref q29, .ref q31, .ref q37, .ref q39, .ref q41])), (q1, .inr (9, F4)), (q13, .inl (c14, 12, .inr (.inr (.inr (.inr f123))))), (q117, .inr (9, F120))] H := hP
  have hD : va_D A [(q, .inr (8, [.ref ac, .ref q1, .ref q7, .int 0, .int 0, .ref q9, .ref q11, .int 0, .ref q13, .int 0, .ref q15, .ref q17, .ref q19, .int 0, .ref q21, .int 0, .ref q27, .ref q29, .ref q31, .ref q37, .ref q39, .ref q41])), (q1, .inr (9, F4)), (q13, .inl (c14, 12, .inr (.inr (.inr (.inr f123))))), (q117, .inr (9, F120))] := hD
  have hP := hP.sub (ws' := [(q, .inr (8, [.ref ac, .ref q1, .ref q7, .int 0, .int 0, .ref q9, .ref q11, .int 0, .ref q13, .int 0, .ref q15, .ref q17, .ref q19, .int 0, .ref q21, .int 0, .ref q27, .ref q29, .ref q31, .ref q37, .ref q39, .ref q41])), (q1, .inr (9, F4)), (q13, .inl (c14, 12, .inr (.inr (.inr (.inr f123)))))]) [0, 1, 2] rfl
  have hD := hD.sub (ws' := [(q, .inr (8, [.ref ac, .ref q1, .ref q7, .int 0, .int 0, .ref q9, .ref q11, .int 0, .ref q13, .int 0, .ref q15, .ref q17, .ref q19, .int 0, .ref q21, .int 0, .ref q27, .ref q29, .ref q31, .ref q37, .ref q39, .ref q41])), (q1, .inr (9, F4)), (q13, .inl (c14, 12, .inr (.inr (.inr (.inr f123)))))]) [0, 1, 2] (by decide) rfl
  refine lv_iinc (v := 11) (lv' := [(2, .int 11), (0, .ref q), (1, .ref ac)]) hx hb dX8_init_173 hl (k := 0) rfl (by decide) (by decide) rfl (fun ls hl => ?_)
  refine lv_goto (tgt := 152) hx hb dX8_init_176 (by decide) ?_
  refine lv_iload_n hx hb dX8_init_152 rfl (lv_at hl 0 rfl) ?_
  refine lv_bipush (v := 12) hx hb dX8_init_153 (by decide) ?_
  refine lv_icmp_ge (tgt := 179) hx hb dX8_init_155 (by decide) (fun c0 => absurd c0 (by decide)) (fun _ => ?_)
  refine lv_aload_n hx hb dX8_init_158 rfl (lv_at hl 1 rfl) ?_
  refine va_get (D := (dC, dI)) (ci := 8) (v := .ref q13) (C := RX8) (T := TX8) (N := 22) hx hb ht uX8 hown hK hP 0 rfl rfl 8 (by decide) (ht _ k_3_37) (fun _ h9 => h9) rfl dX8_init_159 ?_
  refine lv_iload_n hx hb dX8_init_162 rfl (lv_at hl 0 rfl) ?_
  refine va_new (ci := 9) (fs := [.null, .null, .null, .int 0]) (C := RX9) (T := TX9) (N := 4) hx hb ht uX9 tyX9 tkX9 hown (ht _ k_3_20) (ht _ k_1_101) (ht _ k_1_7) hK hP hD hS hA rfl (by decide +kernel) (Nat.le_of_ble_eq_true rfl) (Nat.le_of_ble_eq_true rfl) dX8_init_163 (fun q124 H hP hD hS => ?_)
  have hP : va_P (dC, dI) cls [(q, .inr (8, [.ref ac, .ref q1, .ref q7, .int 0, .int 0, .ref q9, .ref q11, .int 0, .ref q13, .int 0, .ref q15, .ref q17, .ref q19, .int 0, .ref q21, .int 0, .ref q27, .ref q29, .ref q31, .ref q37, .ref q39, .ref q41])), (q1, .inr (9, F4)), (q13, .inl (c14, 12, .inr (.inr (.inr (.inr f123))))), (q124, .inr (9, [.null, .null, .null, .int 0]))] H := hP
  have hD : va_D A [(q, .inr (8, [.ref ac, .ref q1, .ref q7, .int 0, .int 0, .ref q9, .ref q11, .int 0, .ref q13, .int 0, .ref q15, .ref q17, .ref q19, .int 0, .ref q21, .int 0, .ref q27, .ref q29, .ref q31, .ref q37, .ref q39, .ref q41])), (q1, .inr (9, F4)), (q13, .inl (c14, 12, .inr (.inr (.inr (.inr f123))))), (q124, .inr (9, [.null, .null, .null, .int 0]))] := hD
  refine W.widen (k := 72) (n := 8216) (by omega) (by omega) ?_
  refine lv_dup hx hb dX8_init_166 rfl ?_
  refine lv_bipush (v := 30) hx hb dX8_init_167 (by decide) ?_
  refine ca_v (wr := [(q, .inr (8, [.ref ac, .ref q1, .ref q7, .int 0, .int 0, .ref q9, .ref q11, .int 0, .ref q13, .int 0, .ref q15, .ref q17, .ref q19, .int 0, .ref q21, .int 0, .ref q27, .ref q29, .ref q31, .ref q37, .ref q39, .ref q41])), (q1, .inr (9, F4)), (q13, .inl (c14, 12, .inr (.inr (.inr (.inr f123)))))]) (va_runI (As := [.int 30]) (rest := [.ref q124, .int 11, .ref q13]) ⟨hx, hb, hml, hown, ht⟩ (k9_30 l dC dI H.size q124  ) (cwI 1 ht (gdI k_1_104) rfl rfl rfl (ht _ k_1_7) (ht _ k_3_21) (ht _ k_1_103) rfl (by decide +kernel) ⟨Nat.le_of_ble_eq_true rfl, Nat.le_of_ble_eq_true rfl⟩) ⟨pcw_blind, pcw_at hP hD hK [3] [] (by decide) rfl rfl rfl⟩ rfl rfl hl.1 rfl (lv_room (Nat.le_of_ble_eq_true rfl)) dX8_init_169 ⟨Nat.le_of_ble_eq_true rfl, Nat.le_of_ble_eq_true rfl⟩) hP hD hK hS hA [3] [0, 1, 2] rfl rfl (by decide) (by decide) (fun u H locs w126 hK hP hD hS => ?_)
  obtain ⟨F127, rfl⟩ : ∃ z, z = u := ⟨_, rfl⟩
  have hK : va_K (dC, dI) cls [(c8, .byte), (c10, .int), (c12, .int), (c14, .object "FinderHouse$Term"), (c16, .int), (c18, .byte), (c20, .byte), (c28, .int), (c30, .int), (c38, .int), (c40, .int)] s := hK
  have hP : va_P (dC, dI) cls [(q, .inr (8, [.ref ac, .ref q1, .ref q7, .int 0, .int 0, .ref q9, .ref q11, .int 0, .ref q13, .int 0, .ref q15, .ref q17, .ref q19, .int 0, .ref q21, .int 0, .ref q27, .ref q29, .ref q31, .ref q37, .ref q39, .ref q41])), (q1, .inr (9, F4)), (q13, .inl (c14, 12, .inr (.inr (.inr (.inr f123))))), (q124, .inr (9, F127))] H := hP
  have hD : va_D A [(q, .inr (8, [.ref ac, .ref q1, .ref q7, .int 0, .int 0, .ref q9, .ref q11, .int 0, .ref q13, .int 0, .ref q15, .ref q17, .ref q19, .int 0, .ref q21, .int 0, .ref q27, .ref q29, .ref q31, .ref q37, .ref q39, .ref q41])), (q1, .inr (9, F4)), (q13, .inl (c14, 12, .inr (.inr (.inr (.inr f123))))), (q124, .inr (9, F127))] := hD
  refine W.widen (k := 75) (n := 8306) (by omega) (by omega) ?_
  obtain ⟨w126, K128, K129⟩ := w126
  refine va_astq (r := (RX9, TX9, 4)) hx hb hK hP hD hS 2 3 3 9 rfl rfl rfl rfl (by unfold vp_in; decide) dX8_init_172 (fun H locs hP hD hS => ?_)
  obtain ⟨f130, ef130⟩ : ∃ g : Nat → Option Nat, g = va_up f123 (11 : Int32).toNatClampNeg (some q124) := ⟨_, rfl⟩
  rw [← ef130] at hP hD
  have hP : va_P (dC, dI) cls [(q, .inr (8, [.ref ac, .ref q1, .ref q7, .int 0, .int 0, .ref q9, .ref q11, .int 0, .ref q13, .int 0, .ref q15, .ref q17, .ref q19, .int 0, .ref q21, .int 0, .ref q27, .ref q29, .ref q31, .ref q37, .ref q39, .ref q41])), (q1, .inr (9, F4)), (q13, .inl (c14, 12, .inr (.inr (.inr (.inr f130))))), (q124, .inr (9, F127))] H := hP
  have hD : va_D A [(q, .inr (8, [.ref ac, .ref q1, .ref q7, .int 0, .int 0, .ref q9, .ref q11, .int 0, .ref q13, .int 0, .ref q15, .ref q17, .ref q19, .int 0, .ref q21, .int 0, .ref q27, .ref q29, .ref q31, .ref q37, .ref q39, .ref q41])), (q1, .inr (9, F4)), (q13, .inl (c14, 12, .inr (.inr (.inr (.inr f130))))), (q124, .inr (9, F127))] := hD
  have hP := hP.sub (ws' := [(q, .inr (8, [.ref ac, .ref q1, .ref q7, .int 0, .int 0, .ref q9, .ref q11, .int 0, .ref q13, .int 0, .ref q15, .ref q17, .ref q19, .int 0, .ref q21, .int 0, .ref q27, .ref q29, .ref q31, .ref q37, .ref q39, .ref q41])), (q1, .inr (9, F4)), (q13, .inl (c14, 12, .inr (.inr (.inr (.inr f130)))))]) [0, 1, 2] rfl
  have hD := hD.sub (ws' := [(q, .inr (8, [.ref ac, .ref q1, .ref q7, .int 0, .int 0, .ref q9, .ref q11, .int 0, .ref q13, .int 0, .ref q15, .ref q17, .ref q19, .int 0, .ref q21, .int 0, .ref q27, .ref q29, .ref q31, .ref q37, .ref q39, .ref q41])), (q1, .inr (9, F4)), (q13, .inl (c14, 12, .inr (.inr (.inr (.inr f130)))))]) [0, 1, 2] (by decide) rfl
  refine lv_iinc (v := 12) (lv' := [(2, .int 12), (0, .ref q), (1, .ref ac)]) hx hb dX8_init_173 hl (k := 0) rfl (by decide) (by decide) rfl (fun ls hl => ?_)
  refine lv_goto (tgt := 152) hx hb dX8_init_176 (by decide) ?_
  refine lv_iload_n hx hb dX8_init_152 rfl (lv_at hl 0 rfl) ?_
  refine lv_bipush (v := 12) hx hb dX8_init_153 (by decide) ?_
  refine lv_icmp_ge (tgt := 179) hx hb dX8_init_155 (by decide) (fun _ => ?_) (fun c0 => absurd c0 (by decide))
  exact W.vret hx hb hr (fun t ht9 hW => ⟨⟨([.ref ac, .ref q1, .ref q7, .int 0, .int 0, .ref q9, .ref q11, .int 0, .ref q13, .int 0, .ref q15, .ref q17, .ref q19, .int 0, .ref q21, .int 0, .ref q27, .ref q29, .ref q31, .ref q37, .ref q39, .ref q41], q1, F4), rfl, ⟨trivial, rfl, rfl, rfl, rfl, rfl, K5, K6⟩, by rw [ht9]; exact hP.sub [0, 1] rfl, va_K.moved hW.alike (hK.sub [] rfl), hD.sub [0, 1] (by decide) rfl⟩, hS.F ht9⟩) hS.2.2 dX8_init_179
set_option maxHeartbeats 4000000 in
set_option maxRecDepth 100000 in
theorem k4 (l : Launch) (dC : Nat → ClassId) (dI : Nat → Nat → Nat) (sz : Nat) (q : Nat) (ac : Nat)  : Met l yX4_init (Cond.code yX4_init cX4_init 3 none :: tb) ({ frames := 2, cells := 43, slots := 27784, locals := 33 }) (pcx [.inr (.inr (.inr (.inl "FinderHouse$Term")))] [.ref q, .ref ac] (dC, dI) [(q, .inr (4, [.null, .int 0, .int 0, .null, .int 0, .int 0, .null, .int 0, .null, .null, .int 0, .null, .null, .null, .null, .null, .null, .null]))] [] sz) (va_Qv (fun (u : (List Value) × Nat) => match u with | (fs1, vk) => (True) ∧ (fs1.length = 18) ∧ (fs1[1]? = some (.int 0)) ∧ (fs1[3]? = some (.ref vk))) (bw (dC, dI) (va_A [(q, .inr (4, [.null, .int 0, .int 0, .null, .int 0, .int 0, .null, .int 0, .null, .null, .int 0, .null, .null, .null, .null, .null, .null, .null]))] sz) (fun (u : (List Value) × Nat) => match u with | (fs1, vk) => [(q, .inr (4, fs1))]) (fun (u : (List Value) × Nat) => match u with | (fs1, vk) => [])) (va_A [(q, .inr (4, [.null, .int 0, .int 0, .null, .int 0, .int 0, .null, .int 0, .null, .null, .int 0, .null, .null, .null, .null, .null, .null, .null]))] sz)) 43 27784 (va_A [(q, .inr (4, [.null, .int 0, .int 0, .null, .int 0, .int 0, .null, .int 0, .null, .null, .int 0, .null, .null, .null, .null, .null, .null, .null]))] sz) := by
  refine Met.ofW (cc := cX4_init) (maxL := 3) (ret := none) (by decide) rfl ?_
  intro p e s m args below meth c s₁ B hml hv
  obtain ⟨rfl, hsz, hP, hK, hD0, hE⟩ := hv
  have hx := B.exec
  have hb := B.bytes
  have hr := B.returns
  have hts := atoms_spec (ws := Cond.code yX4_init cX4_init 3 none :: tb) B.pre
  have ht : ∀ w ∈ tb, w.before _ s = true := fun w h => hts w (List.mem_cons_of_mem _ h)
  have hown : s.vm.findClass RX4 = some m.cls := findClass_of_methodNamed B.named
  have hlocks := B.notSynchronized
  have hin : meth.name = "<init>" := (name_of_methodNamed B.named B.method).1
  subst hsz
  have hD := hD0.self (sz := s.heap.size)
  generalize hAe : va_A [(q, .inr (4, [.null, .int 0, .int 0, .null, .int 0, .int 0, .null, .int 0, .null, .null, .int 0, .null, .null, .null, .null, .null, .null, .null]))] s.heap.size = A at hD hE ⊢
  have hA : ∀ q : Nat, s.heap.size ≤ q → A q := fun q h => by rw [← hAe]; exact Or.inr h
  have hS : va_S A s.heap s.heap [] := va_S.rf
  have hl := lv_entry ([.ref q, .ref ac]) (n := 3) (Nat.le_of_ble_eq_true rfl)
  rw [lg_entry_eq]
  generalize (lg_sl ([.ref q, .ref ac]) ++ List.replicate (3 - (lg_sl ([.ref q, .ref ac])).length) Slot.unset).toArray = ls at hl ⊢
  have hl : lv_has ls 3 [(0, .ref q), (1, .ref ac)] := hl
  have hP : va_P (dC, dI) cls [(q, .inr (4, [.null, .int 0, .int 0, .null, .int 0, .int 0, .null, .int 0, .null, .null, .int 0, .null, .null, .null, .null, .null, .null, .null]))] s.heap := hP
  refine lv_aload_n hx hb dX4_init_0 rfl (lv_at hl 0 rfl) ?_
  refine tk_o hx hb hown ht k_3_103 k_1_36 k_1_37 hml hl.1 dX4_init_1 (Nat.le_of_ble_eq_true rfl) (Nat.le_of_ble_eq_true rfl) ?_
  refine lv_aload_n hx hb dX4_init_4 rfl (lv_at hl 0 rfl) ?_
  refine lv_iconst (v := 3) hx hb dX4_init_5 (by decide) ?_
  refine va_newa (atype := .int) (ty := .int) (N' := 3) (a0 := (3, .inl (fun _ => 0))) hx hb (ht _ k_1_139) rfl hK hP hD hS hA (fun _ => rfl) (by decide) (by decide) (Nat.le_of_ble_eq_true rfl) (Nat.le_of_ble_eq_true rfl) (Nat.le_of_ble_eq_true rfl) dX4_init_6 (fun q1 c2 H hK hP hD hS => ?_)
  have hK : va_K (dC, dI) cls [(c2, .int)] s := hK
  have hP : va_P (dC, dI) cls [(q, .inr (4, [.null, .int 0, .int 0, .null, .int 0, .int 0, .null, .int 0, .null, .null, .int 0, .null, .null, .null, .null, .null, .null, .null])), (q1, .inl (c2, 3, .inl (fun _ => 0)))] H := hP
  have hD : va_D A [(q, .inr (4, [.null, .int 0, .int 0, .null, .int 0, .int 0, .null, .int 0, .null, .null, .int 0, .null, .null, .null, .null, .null, .null, .null])), (q1, .inl (c2, 3, .inl (fun _ => 0)))] := hD
  refine W.widen (k := 1) (n := 3) (by omega) (by omega) ?_
  refine va_putF (D := (dC, dI)) (ci := 4) (v := .ref q1) (ty := .array .int) (C := RX4) (T := TX4) (N := 18) hx hb ht uX4 tyX4 tkX4 nmX4 hown hK hP hD hS 0 rfl rfl 3 (by decide) (ht _ k_3_111) (fun _ h9 => h9) rfl hin rfl (by decide +kernel) rfl rfl (Nat.le_of_ble_eq_true rfl) dX4_init_8 (fun H locs hP hD hS => ?_)
  have hP : va_P (dC, dI) cls [(q, .inr (4, [.null, .int 0, .int 0, .ref q1, .int 0, .int 0, .null, .int 0, .null, .null, .int 0, .null, .null, .null, .null, .null, .null, .null])), (q1, .inl (c2, 3, .inl (fun _ => 0)))] H := hP
  have hD : va_D A [(q, .inr (4, [.null, .int 0, .int 0, .ref q1, .int 0, .int 0, .null, .int 0, .null, .null, .int 0, .null, .null, .null, .null, .null, .null, .null])), (q1, .inl (c2, 3, .inl (fun _ => 0)))] := hD
  have hP := hP.sub (ws' := [(q, .inr (4, [.null, .int 0, .int 0, .ref q1, .int 0, .int 0, .null, .int 0, .null, .null, .int 0, .null, .null, .null, .null, .null, .null, .null]))]) [0] rfl
  have hD := hD.sub (ws' := [(q, .inr (4, [.null, .int 0, .int 0, .ref q1, .int 0, .int 0, .null, .int 0, .null, .null, .int 0, .null, .null, .null, .null, .null, .null, .null]))]) [0] (by decide) rfl
  refine lv_aload_n hx hb dX4_init_11 rfl (lv_at hl 0 rfl) ?_
  refine lv_iconst (v := 2) hx hb dX4_init_12 (by decide) ?_
  refine va_newa (atype := .int) (ty := .int) (N' := 2) (a0 := (2, .inl (fun _ => 0))) hx hb (ht _ k_1_139) rfl hK hP hD hS hA (fun _ => rfl) (by decide) (by decide) (Nat.le_of_ble_eq_true rfl) (Nat.le_of_ble_eq_true rfl) (Nat.le_of_ble_eq_true rfl) dX4_init_13 (fun q3 c4 H hK hP hD hS => ?_)
  have hK : va_K (dC, dI) cls [(c2, .int), (c4, .int)] s := hK
  have hP : va_P (dC, dI) cls [(q, .inr (4, [.null, .int 0, .int 0, .ref q1, .int 0, .int 0, .null, .int 0, .null, .null, .int 0, .null, .null, .null, .null, .null, .null, .null])), (q3, .inl (c4, 2, .inl (fun _ => 0)))] H := hP
  have hD : va_D A [(q, .inr (4, [.null, .int 0, .int 0, .ref q1, .int 0, .int 0, .null, .int 0, .null, .null, .int 0, .null, .null, .null, .null, .null, .null, .null])), (q3, .inl (c4, 2, .inl (fun _ => 0)))] := hD
  refine W.widen (k := 2) (n := 5) (by omega) (by omega) ?_
  refine va_putF (D := (dC, dI)) (ci := 4) (v := .ref q3) (ty := .array .int) (C := RX4) (T := TX4) (N := 18) hx hb ht uX4 tyX4 tkX4 nmX4 hown hK hP hD hS 0 rfl rfl 6 (by decide) (ht _ k_3_117) (fun _ h9 => h9) rfl hin rfl (by decide +kernel) rfl rfl (Nat.le_of_ble_eq_true rfl) dX4_init_15 (fun H locs hP hD hS => ?_)
  have hP : va_P (dC, dI) cls [(q, .inr (4, [.null, .int 0, .int 0, .ref q1, .int 0, .int 0, .ref q3, .int 0, .null, .null, .int 0, .null, .null, .null, .null, .null, .null, .null])), (q3, .inl (c4, 2, .inl (fun _ => 0)))] H := hP
  have hD : va_D A [(q, .inr (4, [.null, .int 0, .int 0, .ref q1, .int 0, .int 0, .ref q3, .int 0, .null, .null, .int 0, .null, .null, .null, .null, .null, .null, .null])), (q3, .inl (c4, 2, .inl (fun _ => 0)))] := hD
  have hP := hP.sub (ws' := [(q, .inr (4, [.null, .int 0, .int 0, .ref q1, .int 0, .int 0, .ref q3, .int 0, .null, .null, .int 0, .null, .null, .null, .null, .null, .null, .null]))]) [0] rfl
  have hD := hD.sub (ws' := [(q, .inr (4, [.null, .int 0, .int 0, .ref q1, .int 0, .int 0, .ref q3, .int 0, .null, .null, .int 0, .null, .null, .null, .null, .null, .null, .null]))]) [0] (by decide) rfl
  refine lv_aload_n hx hb dX4_init_18 rfl (lv_at hl 0 rfl) ?_
  refine lv_iconst (v := 3) hx hb dX4_init_19 (by decide) ?_
  refine va_newa (atype := .int) (ty := .int) (N' := 3) (a0 := (3, .inl (fun _ => 0))) hx hb (ht _ k_1_139) rfl hK hP hD hS hA (fun _ => rfl) (by decide) (by decide) (Nat.le_of_ble_eq_true rfl) (Nat.le_of_ble_eq_true rfl) (Nat.le_of_ble_eq_true rfl) dX4_init_20 (fun q5 c6 H hK hP hD hS => ?_)
  have hK : va_K (dC, dI) cls [(c2, .int), (c4, .int), (c6, .int)] s := hK
  have hP : va_P (dC, dI) cls [(q, .inr (4, [.null, .int 0, .int 0, .ref q1, .int 0, .int 0, .ref q3, .int 0, .null, .null, .int 0, .null, .null, .null, .null, .null, .null, .null])), (q5, .inl (c6, 3, .inl (fun _ => 0)))] H := hP
  have hD : va_D A [(q, .inr (4, [.null, .int 0, .int 0, .ref q1, .int 0, .int 0, .ref q3, .int 0, .null, .null, .int 0, .null, .null, .null, .null, .null, .null, .null])), (q5, .inl (c6, 3, .inl (fun _ => 0)))] := hD
  refine W.widen (k := 3) (n := 8) (by omega) (by omega) ?_
  refine va_putF (D := (dC, dI)) (ci := 4) (v := .ref q5) (ty := .array .int) (C := RX4) (T := TX4) (N := 18) hx hb ht uX4 tyX4 tkX4 nmX4 hown hK hP hD hS 0 rfl rfl 8 (by decide) (ht _ k_3_121) (fun _ h9 => h9) rfl hin rfl (by decide +kernel) rfl rfl (Nat.le_of_ble_eq_true rfl) dX4_init_22 (fun H locs hP hD hS => ?_)
  have hP : va_P (dC, dI) cls [(q, .inr (4, [.null, .int 0, .int 0, .ref q1, .int 0, .int 0, .ref q3, .int 0, .ref q5, .null, .int 0, .null, .null, .null, .null, .null, .null, .null])), (q5, .inl (c6, 3, .inl (fun _ => 0)))] H := hP
  have hD : va_D A [(q, .inr (4, [.null, .int 0, .int 0, .ref q1, .int 0, .int 0, .ref q3, .int 0, .ref q5, .null, .int 0, .null, .null, .null, .null, .null, .null, .null])), (q5, .inl (c6, 3, .inl (fun _ => 0)))] := hD
  have hP := hP.sub (ws' := [(q, .inr (4, [.null, .int 0, .int 0, .ref q1, .int 0, .int 0, .ref q3, .int 0, .ref q5, .null, .int 0, .null, .null, .null, .null, .null, .null, .null]))]) [0] rfl
  have hD := hD.sub (ws' := [(q, .inr (4, [.null, .int 0, .int 0, .ref q1, .int 0, .int 0, .ref q3, .int 0, .ref q5, .null, .int 0, .null, .null, .null, .null, .null, .null, .null]))]) [0] (by decide) rfl
  refine lv_aload_n hx hb dX4_init_25 rfl (lv_at hl 0 rfl) ?_
  refine lv_bipush (v := 8) hx hb dX4_init_26 (by decide) ?_
  refine va_newq (C := "FinderHouse$Term") (N' := 8) hx hb hown (ht _ k_3_104) (xf_o hE 0 rfl) hK hP hD hS hA (by decide) (by decide) (Nat.le_of_ble_eq_true rfl) (Nat.le_of_ble_eq_true rfl) (Nat.le_of_ble_eq_true rfl) dX4_init_28 (fun q7 c8 H hK hP hD hS => ?_)
  have hK : va_K (dC, dI) cls [(c2, .int), (c4, .int), (c6, .int), (c8, .object "FinderHouse$Term")] s := hK
  have hP : va_P (dC, dI) cls [(q, .inr (4, [.null, .int 0, .int 0, .ref q1, .int 0, .int 0, .ref q3, .int 0, .ref q5, .null, .int 0, .null, .null, .null, .null, .null, .null, .null])), (q7, .inl (c8, 8, .inr (.inr (.inr (.inr (fun _ => none))))))] H := hP
  have hD : va_D A [(q, .inr (4, [.null, .int 0, .int 0, .ref q1, .int 0, .int 0, .ref q3, .int 0, .ref q5, .null, .int 0, .null, .null, .null, .null, .null, .null, .null])), (q7, .inl (c8, 8, .inr (.inr (.inr (.inr (fun _ => none))))))] := hD
  refine W.widen (k := 4) (n := 16) (by omega) (by omega) ?_
  refine va_putF (D := (dC, dI)) (ci := 4) (v := .ref q7) (ty := .array (.object "FinderHouse$Term")) (C := RX4) (T := TX4) (N := 18) hx hb ht uX4 tyX4 tkX4 nmX4 hown hK hP hD hS 0 rfl rfl 9 (by decide) (ht _ k_3_123) (fun _ h9 => h9) rfl hin rfl (by decide +kernel) rfl rfl (Nat.le_of_ble_eq_true rfl) dX4_init_31 (fun H locs hP hD hS => ?_)
  have hP : va_P (dC, dI) cls [(q, .inr (4, [.null, .int 0, .int 0, .ref q1, .int 0, .int 0, .ref q3, .int 0, .ref q5, .ref q7, .int 0, .null, .null, .null, .null, .null, .null, .null])), (q7, .inl (c8, 8, .inr (.inr (.inr (.inr (fun _ => none))))))] H := hP
  have hD : va_D A [(q, .inr (4, [.null, .int 0, .int 0, .ref q1, .int 0, .int 0, .ref q3, .int 0, .ref q5, .ref q7, .int 0, .null, .null, .null, .null, .null, .null, .null])), (q7, .inl (c8, 8, .inr (.inr (.inr (.inr (fun _ => none))))))] := hD
  refine lv_aload_n hx hb dX4_init_34 rfl (lv_at hl 0 rfl) ?_
  refine lv_sipush (v := 256) hx hb dX4_init_35 (by decide) ?_
  refine va_newa (atype := .int) (ty := .int) (N' := 256) (a0 := (256, .inl (fun _ => 0))) hx hb (ht _ k_1_139) rfl hK hP hD hS hA (fun _ => rfl) (by decide) (by decide) (Nat.le_of_ble_eq_true rfl) (Nat.le_of_ble_eq_true rfl) (Nat.le_of_ble_eq_true rfl) dX4_init_38 (fun q9 c10 H hK hP hD hS => ?_)
  have hK : va_K (dC, dI) cls [(c2, .int), (c4, .int), (c6, .int), (c8, .object "FinderHouse$Term"), (c10, .int)] s := hK
  have hP : va_P (dC, dI) cls [(q, .inr (4, [.null, .int 0, .int 0, .ref q1, .int 0, .int 0, .ref q3, .int 0, .ref q5, .ref q7, .int 0, .null, .null, .null, .null, .null, .null, .null])), (q7, .inl (c8, 8, .inr (.inr (.inr (.inr (fun _ => none)))))), (q9, .inl (c10, 256, .inl (fun _ => 0)))] H := hP
  have hD : va_D A [(q, .inr (4, [.null, .int 0, .int 0, .ref q1, .int 0, .int 0, .ref q3, .int 0, .ref q5, .ref q7, .int 0, .null, .null, .null, .null, .null, .null, .null])), (q7, .inl (c8, 8, .inr (.inr (.inr (.inr (fun _ => none)))))), (q9, .inl (c10, 256, .inl (fun _ => 0)))] := hD
  refine W.widen (k := 5) (n := 272) (by omega) (by omega) ?_
  refine va_putF (D := (dC, dI)) (ci := 4) (v := .ref q9) (ty := .array .int) (C := RX4) (T := TX4) (N := 18) hx hb ht uX4 tyX4 tkX4 nmX4 hown hK hP hD hS 0 rfl rfl 11 (by decide) (ht _ k_3_125) (fun _ h9 => h9) rfl hin rfl (by decide +kernel) rfl rfl (Nat.le_of_ble_eq_true rfl) dX4_init_40 (fun H locs hP hD hS => ?_)
  have hP : va_P (dC, dI) cls [(q, .inr (4, [.null, .int 0, .int 0, .ref q1, .int 0, .int 0, .ref q3, .int 0, .ref q5, .ref q7, .int 0, .ref q9, .null, .null, .null, .null, .null, .null])), (q7, .inl (c8, 8, .inr (.inr (.inr (.inr (fun _ => none)))))), (q9, .inl (c10, 256, .inl (fun _ => 0)))] H := hP
  have hD : va_D A [(q, .inr (4, [.null, .int 0, .int 0, .ref q1, .int 0, .int 0, .ref q3, .int 0, .ref q5, .ref q7, .int 0, .ref q9, .null, .null, .null, .null, .null, .null])), (q7, .inl (c8, 8, .inr (.inr (.inr (.inr (fun _ => none)))))), (q9, .inl (c10, 256, .inl (fun _ => 0)))] := hD
  have hP := hP.sub (ws' := [(q, .inr (4, [.null, .int 0, .int 0, .ref q1, .int 0, .int 0, .ref q3, .int 0, .ref q5, .ref q7, .int 0, .ref q9, .null, .null, .null, .null, .null, .null])), (q7, .inl (c8, 8, .inr (.inr (.inr (.inr (fun _ => none))))))]) [0, 1] rfl
  have hD := hD.sub (ws' := [(q, .inr (4, [.null, .int 0, .int 0, .ref q1, .int 0, .int 0, .ref q3, .int 0, .ref q5, .ref q7, .int 0, .ref q9, .null, .null, .null, .null, .null, .null])), (q7, .inl (c8, 8, .inr (.inr (.inr (.inr (fun _ => none))))))]) [0, 1] (by decide) rfl
  refine lv_aload_n hx hb dX4_init_43 rfl (lv_at hl 0 rfl) ?_
  refine lv_sipush (v := 4096) hx hb dX4_init_44 (by decide) ?_
  refine va_newa (atype := .int) (ty := .int) (N' := 4096) (a0 := (4096, .inl (fun _ => 0))) hx hb (ht _ k_1_139) rfl hK hP hD hS hA (fun _ => rfl) (by decide) (by decide) (Nat.le_of_ble_eq_true rfl) (Nat.le_of_ble_eq_true rfl) (Nat.le_of_ble_eq_true rfl) dX4_init_47 (fun q11 c12 H hK hP hD hS => ?_)
  have hK : va_K (dC, dI) cls [(c2, .int), (c4, .int), (c6, .int), (c8, .object "FinderHouse$Term"), (c10, .int), (c12, .int)] s := hK
  have hP : va_P (dC, dI) cls [(q, .inr (4, [.null, .int 0, .int 0, .ref q1, .int 0, .int 0, .ref q3, .int 0, .ref q5, .ref q7, .int 0, .ref q9, .null, .null, .null, .null, .null, .null])), (q7, .inl (c8, 8, .inr (.inr (.inr (.inr (fun _ => none)))))), (q11, .inl (c12, 4096, .inl (fun _ => 0)))] H := hP
  have hD : va_D A [(q, .inr (4, [.null, .int 0, .int 0, .ref q1, .int 0, .int 0, .ref q3, .int 0, .ref q5, .ref q7, .int 0, .ref q9, .null, .null, .null, .null, .null, .null])), (q7, .inl (c8, 8, .inr (.inr (.inr (.inr (fun _ => none)))))), (q11, .inl (c12, 4096, .inl (fun _ => 0)))] := hD
  refine W.widen (k := 6) (n := 4368) (by omega) (by omega) ?_
  refine va_putF (D := (dC, dI)) (ci := 4) (v := .ref q11) (ty := .array .int) (C := RX4) (T := TX4) (N := 18) hx hb ht uX4 tyX4 tkX4 nmX4 hown hK hP hD hS 0 rfl rfl 12 (by decide) (ht _ k_3_126) (fun _ h9 => h9) rfl hin rfl (by decide +kernel) rfl rfl (Nat.le_of_ble_eq_true rfl) dX4_init_49 (fun H locs hP hD hS => ?_)
  have hP : va_P (dC, dI) cls [(q, .inr (4, [.null, .int 0, .int 0, .ref q1, .int 0, .int 0, .ref q3, .int 0, .ref q5, .ref q7, .int 0, .ref q9, .ref q11, .null, .null, .null, .null, .null])), (q7, .inl (c8, 8, .inr (.inr (.inr (.inr (fun _ => none)))))), (q11, .inl (c12, 4096, .inl (fun _ => 0)))] H := hP
  have hD : va_D A [(q, .inr (4, [.null, .int 0, .int 0, .ref q1, .int 0, .int 0, .ref q3, .int 0, .ref q5, .ref q7, .int 0, .ref q9, .ref q11, .null, .null, .null, .null, .null])), (q7, .inl (c8, 8, .inr (.inr (.inr (.inr (fun _ => none)))))), (q11, .inl (c12, 4096, .inl (fun _ => 0)))] := hD
  have hP := hP.sub (ws' := [(q, .inr (4, [.null, .int 0, .int 0, .ref q1, .int 0, .int 0, .ref q3, .int 0, .ref q5, .ref q7, .int 0, .ref q9, .ref q11, .null, .null, .null, .null, .null])), (q7, .inl (c8, 8, .inr (.inr (.inr (.inr (fun _ => none))))))]) [0, 1] rfl
  have hD := hD.sub (ws' := [(q, .inr (4, [.null, .int 0, .int 0, .ref q1, .int 0, .int 0, .ref q3, .int 0, .ref q5, .ref q7, .int 0, .ref q9, .ref q11, .null, .null, .null, .null, .null])), (q7, .inl (c8, 8, .inr (.inr (.inr (.inr (fun _ => none))))))]) [0, 1] (by decide) rfl
  refine lv_aload_n hx hb dX4_init_52 rfl (lv_at hl 0 rfl) ?_
  refine lv_sipush (v := 4096) hx hb dX4_init_53 (by decide) ?_
  refine va_newa (atype := .int) (ty := .int) (N' := 4096) (a0 := (4096, .inl (fun _ => 0))) hx hb (ht _ k_1_139) rfl hK hP hD hS hA (fun _ => rfl) (by decide) (by decide) (Nat.le_of_ble_eq_true rfl) (Nat.le_of_ble_eq_true rfl) (Nat.le_of_ble_eq_true rfl) dX4_init_56 (fun q13 c14 H hK hP hD hS => ?_)
  have hK : va_K (dC, dI) cls [(c2, .int), (c4, .int), (c6, .int), (c8, .object "FinderHouse$Term"), (c10, .int), (c12, .int), (c14, .int)] s := hK
  have hP : va_P (dC, dI) cls [(q, .inr (4, [.null, .int 0, .int 0, .ref q1, .int 0, .int 0, .ref q3, .int 0, .ref q5, .ref q7, .int 0, .ref q9, .ref q11, .null, .null, .null, .null, .null])), (q7, .inl (c8, 8, .inr (.inr (.inr (.inr (fun _ => none)))))), (q13, .inl (c14, 4096, .inl (fun _ => 0)))] H := hP
  have hD : va_D A [(q, .inr (4, [.null, .int 0, .int 0, .ref q1, .int 0, .int 0, .ref q3, .int 0, .ref q5, .ref q7, .int 0, .ref q9, .ref q11, .null, .null, .null, .null, .null])), (q7, .inl (c8, 8, .inr (.inr (.inr (.inr (fun _ => none)))))), (q13, .inl (c14, 4096, .inl (fun _ => 0)))] := hD
  refine W.widen (k := 7) (n := 8464) (by omega) (by omega) ?_
  refine va_putF (D := (dC, dI)) (ci := 4) (v := .ref q13) (ty := .array .int) (C := RX4) (T := TX4) (N := 18) hx hb ht uX4 tyX4 tkX4 nmX4 hown hK hP hD hS 0 rfl rfl 13 (by decide) (ht _ k_3_127) (fun _ h9 => h9) rfl hin rfl (by decide +kernel) rfl rfl (Nat.le_of_ble_eq_true rfl) dX4_init_58 (fun H locs hP hD hS => ?_)
  have hP : va_P (dC, dI) cls [(q, .inr (4, [.null, .int 0, .int 0, .ref q1, .int 0, .int 0, .ref q3, .int 0, .ref q5, .ref q7, .int 0, .ref q9, .ref q11, .ref q13, .null, .null, .null, .null])), (q7, .inl (c8, 8, .inr (.inr (.inr (.inr (fun _ => none)))))), (q13, .inl (c14, 4096, .inl (fun _ => 0)))] H := hP
  have hD : va_D A [(q, .inr (4, [.null, .int 0, .int 0, .ref q1, .int 0, .int 0, .ref q3, .int 0, .ref q5, .ref q7, .int 0, .ref q9, .ref q11, .ref q13, .null, .null, .null, .null])), (q7, .inl (c8, 8, .inr (.inr (.inr (.inr (fun _ => none)))))), (q13, .inl (c14, 4096, .inl (fun _ => 0)))] := hD
  have hP := hP.sub (ws' := [(q, .inr (4, [.null, .int 0, .int 0, .ref q1, .int 0, .int 0, .ref q3, .int 0, .ref q5, .ref q7, .int 0, .ref q9, .ref q11, .ref q13, .null, .null, .null, .null])), (q7, .inl (c8, 8, .inr (.inr (.inr (.inr (fun _ => none))))))]) [0, 1] rfl
  have hD := hD.sub (ws' := [(q, .inr (4, [.null, .int 0, .int 0, .ref q1, .int 0, .int 0, .ref q3, .int 0, .ref q5, .ref q7, .int 0, .ref q9, .ref q11, .ref q13, .null, .null, .null, .null])), (q7, .inl (c8, 8, .inr (.inr (.inr (.inr (fun _ => none))))))]) [0, 1] (by decide) rfl
  refine lv_aload_n hx hb dX4_init_61 rfl (lv_at hl 0 rfl) ?_
  refine lv_sipush (v := 4096) hx hb dX4_init_62 (by decide) ?_
  refine va_newa (atype := .int) (ty := .int) (N' := 4096) (a0 := (4096, .inl (fun _ => 0))) hx hb (ht _ k_1_139) rfl hK hP hD hS hA (fun _ => rfl) (by decide) (by decide) (Nat.le_of_ble_eq_true rfl) (Nat.le_of_ble_eq_true rfl) (Nat.le_of_ble_eq_true rfl) dX4_init_65 (fun q15 c16 H hK hP hD hS => ?_)
  have hK : va_K (dC, dI) cls [(c2, .int), (c4, .int), (c6, .int), (c8, .object "FinderHouse$Term"), (c10, .int), (c12, .int), (c14, .int), (c16, .int)] s := hK
  have hP : va_P (dC, dI) cls [(q, .inr (4, [.null, .int 0, .int 0, .ref q1, .int 0, .int 0, .ref q3, .int 0, .ref q5, .ref q7, .int 0, .ref q9, .ref q11, .ref q13, .null, .null, .null, .null])), (q7, .inl (c8, 8, .inr (.inr (.inr (.inr (fun _ => none)))))), (q15, .inl (c16, 4096, .inl (fun _ => 0)))] H := hP
  have hD : va_D A [(q, .inr (4, [.null, .int 0, .int 0, .ref q1, .int 0, .int 0, .ref q3, .int 0, .ref q5, .ref q7, .int 0, .ref q9, .ref q11, .ref q13, .null, .null, .null, .null])), (q7, .inl (c8, 8, .inr (.inr (.inr (.inr (fun _ => none)))))), (q15, .inl (c16, 4096, .inl (fun _ => 0)))] := hD
  refine W.widen (k := 8) (n := 12560) (by omega) (by omega) ?_
  refine va_putF (D := (dC, dI)) (ci := 4) (v := .ref q15) (ty := .array .int) (C := RX4) (T := TX4) (N := 18) hx hb ht uX4 tyX4 tkX4 nmX4 hown hK hP hD hS 0 rfl rfl 14 (by decide) (ht _ k_3_128) (fun _ h9 => h9) rfl hin rfl (by decide +kernel) rfl rfl (Nat.le_of_ble_eq_true rfl) dX4_init_67 (fun H locs hP hD hS => ?_)
  have hP : va_P (dC, dI) cls [(q, .inr (4, [.null, .int 0, .int 0, .ref q1, .int 0, .int 0, .ref q3, .int 0, .ref q5, .ref q7, .int 0, .ref q9, .ref q11, .ref q13, .ref q15, .null, .null, .null])), (q7, .inl (c8, 8, .inr (.inr (.inr (.inr (fun _ => none)))))), (q15, .inl (c16, 4096, .inl (fun _ => 0)))] H := hP
  have hD : va_D A [(q, .inr (4, [.null, .int 0, .int 0, .ref q1, .int 0, .int 0, .ref q3, .int 0, .ref q5, .ref q7, .int 0, .ref q9, .ref q11, .ref q13, .ref q15, .null, .null, .null])), (q7, .inl (c8, 8, .inr (.inr (.inr (.inr (fun _ => none)))))), (q15, .inl (c16, 4096, .inl (fun _ => 0)))] := hD
  have hP := hP.sub (ws' := [(q, .inr (4, [.null, .int 0, .int 0, .ref q1, .int 0, .int 0, .ref q3, .int 0, .ref q5, .ref q7, .int 0, .ref q9, .ref q11, .ref q13, .ref q15, .null, .null, .null])), (q7, .inl (c8, 8, .inr (.inr (.inr (.inr (fun _ => none))))))]) [0, 1] rfl
  have hD := hD.sub (ws' := [(q, .inr (4, [.null, .int 0, .int 0, .ref q1, .int 0, .int 0, .ref q3, .int 0, .ref q5, .ref q7, .int 0, .ref q9, .ref q11, .ref q13, .ref q15, .null, .null, .null])), (q7, .inl (c8, 8, .inr (.inr (.inr (.inr (fun _ => none))))))]) [0, 1] (by decide) rfl
  refine lv_aload_n hx hb dX4_init_70 rfl (lv_at hl 0 rfl) ?_
  refine lv_sipush (v := 4096) hx hb dX4_init_71 (by decide) ?_
  refine va_newa (atype := .int) (ty := .int) (N' := 4096) (a0 := (4096, .inl (fun _ => 0))) hx hb (ht _ k_1_139) rfl hK hP hD hS hA (fun _ => rfl) (by decide) (by decide) (Nat.le_of_ble_eq_true rfl) (Nat.le_of_ble_eq_true rfl) (Nat.le_of_ble_eq_true rfl) dX4_init_74 (fun q17 c18 H hK hP hD hS => ?_)
  have hK : va_K (dC, dI) cls [(c2, .int), (c4, .int), (c6, .int), (c8, .object "FinderHouse$Term"), (c10, .int), (c12, .int), (c14, .int), (c16, .int), (c18, .int)] s := hK
  have hP : va_P (dC, dI) cls [(q, .inr (4, [.null, .int 0, .int 0, .ref q1, .int 0, .int 0, .ref q3, .int 0, .ref q5, .ref q7, .int 0, .ref q9, .ref q11, .ref q13, .ref q15, .null, .null, .null])), (q7, .inl (c8, 8, .inr (.inr (.inr (.inr (fun _ => none)))))), (q17, .inl (c18, 4096, .inl (fun _ => 0)))] H := hP
  have hD : va_D A [(q, .inr (4, [.null, .int 0, .int 0, .ref q1, .int 0, .int 0, .ref q3, .int 0, .ref q5, .ref q7, .int 0, .ref q9, .ref q11, .ref q13, .ref q15, .null, .null, .null])), (q7, .inl (c8, 8, .inr (.inr (.inr (.inr (fun _ => none)))))), (q17, .inl (c18, 4096, .inl (fun _ => 0)))] := hD
  refine W.widen (k := 9) (n := 16656) (by omega) (by omega) ?_
  refine va_putF (D := (dC, dI)) (ci := 4) (v := .ref q17) (ty := .array .int) (C := RX4) (T := TX4) (N := 18) hx hb ht uX4 tyX4 tkX4 nmX4 hown hK hP hD hS 0 rfl rfl 15 (by decide) (ht _ k_3_129) (fun _ h9 => h9) rfl hin rfl (by decide +kernel) rfl rfl (Nat.le_of_ble_eq_true rfl) dX4_init_76 (fun H locs hP hD hS => ?_)
  have hP : va_P (dC, dI) cls [(q, .inr (4, [.null, .int 0, .int 0, .ref q1, .int 0, .int 0, .ref q3, .int 0, .ref q5, .ref q7, .int 0, .ref q9, .ref q11, .ref q13, .ref q15, .ref q17, .null, .null])), (q7, .inl (c8, 8, .inr (.inr (.inr (.inr (fun _ => none)))))), (q17, .inl (c18, 4096, .inl (fun _ => 0)))] H := hP
  have hD : va_D A [(q, .inr (4, [.null, .int 0, .int 0, .ref q1, .int 0, .int 0, .ref q3, .int 0, .ref q5, .ref q7, .int 0, .ref q9, .ref q11, .ref q13, .ref q15, .ref q17, .null, .null])), (q7, .inl (c8, 8, .inr (.inr (.inr (.inr (fun _ => none)))))), (q17, .inl (c18, 4096, .inl (fun _ => 0)))] := hD
  have hP := hP.sub (ws' := [(q, .inr (4, [.null, .int 0, .int 0, .ref q1, .int 0, .int 0, .ref q3, .int 0, .ref q5, .ref q7, .int 0, .ref q9, .ref q11, .ref q13, .ref q15, .ref q17, .null, .null])), (q7, .inl (c8, 8, .inr (.inr (.inr (.inr (fun _ => none))))))]) [0, 1] rfl
  have hD := hD.sub (ws' := [(q, .inr (4, [.null, .int 0, .int 0, .ref q1, .int 0, .int 0, .ref q3, .int 0, .ref q5, .ref q7, .int 0, .ref q9, .ref q11, .ref q13, .ref q15, .ref q17, .null, .null])), (q7, .inl (c8, 8, .inr (.inr (.inr (.inr (fun _ => none))))))]) [0, 1] (by decide) rfl
  refine lv_aload_n hx hb dX4_init_79 rfl (lv_at hl 0 rfl) ?_
  refine lv_sipush (v := 4096) hx hb dX4_init_80 (by decide) ?_
  refine va_newa (atype := .int) (ty := .int) (N' := 4096) (a0 := (4096, .inl (fun _ => 0))) hx hb (ht _ k_1_139) rfl hK hP hD hS hA (fun _ => rfl) (by decide) (by decide) (Nat.le_of_ble_eq_true rfl) (Nat.le_of_ble_eq_true rfl) (Nat.le_of_ble_eq_true rfl) dX4_init_83 (fun q19 c20 H hK hP hD hS => ?_)
  have hK : va_K (dC, dI) cls [(c2, .int), (c4, .int), (c6, .int), (c8, .object "FinderHouse$Term"), (c10, .int), (c12, .int), (c14, .int), (c16, .int), (c18, .int), (c20, .int)] s := hK
  have hP : va_P (dC, dI) cls [(q, .inr (4, [.null, .int 0, .int 0, .ref q1, .int 0, .int 0, .ref q3, .int 0, .ref q5, .ref q7, .int 0, .ref q9, .ref q11, .ref q13, .ref q15, .ref q17, .null, .null])), (q7, .inl (c8, 8, .inr (.inr (.inr (.inr (fun _ => none)))))), (q19, .inl (c20, 4096, .inl (fun _ => 0)))] H := hP
  have hD : va_D A [(q, .inr (4, [.null, .int 0, .int 0, .ref q1, .int 0, .int 0, .ref q3, .int 0, .ref q5, .ref q7, .int 0, .ref q9, .ref q11, .ref q13, .ref q15, .ref q17, .null, .null])), (q7, .inl (c8, 8, .inr (.inr (.inr (.inr (fun _ => none)))))), (q19, .inl (c20, 4096, .inl (fun _ => 0)))] := hD
  refine W.widen (k := 10) (n := 20752) (by omega) (by omega) ?_
  refine va_putF (D := (dC, dI)) (ci := 4) (v := .ref q19) (ty := .array .int) (C := RX4) (T := TX4) (N := 18) hx hb ht uX4 tyX4 tkX4 nmX4 hown hK hP hD hS 0 rfl rfl 16 (by decide) (ht _ k_3_130) (fun _ h9 => h9) rfl hin rfl (by decide +kernel) rfl rfl (Nat.le_of_ble_eq_true rfl) dX4_init_85 (fun H locs hP hD hS => ?_)
  have hP : va_P (dC, dI) cls [(q, .inr (4, [.null, .int 0, .int 0, .ref q1, .int 0, .int 0, .ref q3, .int 0, .ref q5, .ref q7, .int 0, .ref q9, .ref q11, .ref q13, .ref q15, .ref q17, .ref q19, .null])), (q7, .inl (c8, 8, .inr (.inr (.inr (.inr (fun _ => none)))))), (q19, .inl (c20, 4096, .inl (fun _ => 0)))] H := hP
  have hD : va_D A [(q, .inr (4, [.null, .int 0, .int 0, .ref q1, .int 0, .int 0, .ref q3, .int 0, .ref q5, .ref q7, .int 0, .ref q9, .ref q11, .ref q13, .ref q15, .ref q17, .ref q19, .null])), (q7, .inl (c8, 8, .inr (.inr (.inr (.inr (fun _ => none)))))), (q19, .inl (c20, 4096, .inl (fun _ => 0)))] := hD
  have hP := hP.sub (ws' := [(q, .inr (4, [.null, .int 0, .int 0, .ref q1, .int 0, .int 0, .ref q3, .int 0, .ref q5, .ref q7, .int 0, .ref q9, .ref q11, .ref q13, .ref q15, .ref q17, .ref q19, .null])), (q7, .inl (c8, 8, .inr (.inr (.inr (.inr (fun _ => none))))))]) [0, 1] rfl
  have hD := hD.sub (ws' := [(q, .inr (4, [.null, .int 0, .int 0, .ref q1, .int 0, .int 0, .ref q3, .int 0, .ref q5, .ref q7, .int 0, .ref q9, .ref q11, .ref q13, .ref q15, .ref q17, .ref q19, .null])), (q7, .inl (c8, 8, .inr (.inr (.inr (.inr (fun _ => none))))))]) [0, 1] (by decide) rfl
  refine lv_aload_n hx hb dX4_init_88 rfl (lv_at hl 0 rfl) ?_
  refine lv_sipush (v := 4096) hx hb dX4_init_89 (by decide) ?_
  refine va_newa (atype := .int) (ty := .int) (N' := 4096) (a0 := (4096, .inl (fun _ => 0))) hx hb (ht _ k_1_139) rfl hK hP hD hS hA (fun _ => rfl) (by decide) (by decide) (Nat.le_of_ble_eq_true rfl) (Nat.le_of_ble_eq_true rfl) (Nat.le_of_ble_eq_true rfl) dX4_init_92 (fun q21 c22 H hK hP hD hS => ?_)
  have hK : va_K (dC, dI) cls [(c2, .int), (c4, .int), (c6, .int), (c8, .object "FinderHouse$Term"), (c10, .int), (c12, .int), (c14, .int), (c16, .int), (c18, .int), (c20, .int), (c22, .int)] s := hK
  have hP : va_P (dC, dI) cls [(q, .inr (4, [.null, .int 0, .int 0, .ref q1, .int 0, .int 0, .ref q3, .int 0, .ref q5, .ref q7, .int 0, .ref q9, .ref q11, .ref q13, .ref q15, .ref q17, .ref q19, .null])), (q7, .inl (c8, 8, .inr (.inr (.inr (.inr (fun _ => none)))))), (q21, .inl (c22, 4096, .inl (fun _ => 0)))] H := hP
  have hD : va_D A [(q, .inr (4, [.null, .int 0, .int 0, .ref q1, .int 0, .int 0, .ref q3, .int 0, .ref q5, .ref q7, .int 0, .ref q9, .ref q11, .ref q13, .ref q15, .ref q17, .ref q19, .null])), (q7, .inl (c8, 8, .inr (.inr (.inr (.inr (fun _ => none)))))), (q21, .inl (c22, 4096, .inl (fun _ => 0)))] := hD
  refine W.widen (k := 11) (n := 24848) (by omega) (by omega) ?_
  refine va_putF (D := (dC, dI)) (ci := 4) (v := .ref q21) (ty := .array .int) (C := RX4) (T := TX4) (N := 18) hx hb ht uX4 tyX4 tkX4 nmX4 hown hK hP hD hS 0 rfl rfl 17 (by decide) (ht _ k_3_131) (fun _ h9 => h9) rfl hin rfl (by decide +kernel) rfl rfl (Nat.le_of_ble_eq_true rfl) dX4_init_94 (fun H locs hP hD hS => ?_)
  have hP : va_P (dC, dI) cls [(q, .inr (4, [.null, .int 0, .int 0, .ref q1, .int 0, .int 0, .ref q3, .int 0, .ref q5, .ref q7, .int 0, .ref q9, .ref q11, .ref q13, .ref q15, .ref q17, .ref q19, .ref q21])), (q7, .inl (c8, 8, .inr (.inr (.inr (.inr (fun _ => none)))))), (q21, .inl (c22, 4096, .inl (fun _ => 0)))] H := hP
  have hD : va_D A [(q, .inr (4, [.null, .int 0, .int 0, .ref q1, .int 0, .int 0, .ref q3, .int 0, .ref q5, .ref q7, .int 0, .ref q9, .ref q11, .ref q13, .ref q15, .ref q17, .ref q19, .ref q21])), (q7, .inl (c8, 8, .inr (.inr (.inr (.inr (fun _ => none)))))), (q21, .inl (c22, 4096, .inl (fun _ => 0)))] := hD
  have hP := hP.sub (ws' := [(q, .inr (4, [.null, .int 0, .int 0, .ref q1, .int 0, .int 0, .ref q3, .int 0, .ref q5, .ref q7, .int 0, .ref q9, .ref q11, .ref q13, .ref q15, .ref q17, .ref q19, .ref q21])), (q7, .inl (c8, 8, .inr (.inr (.inr (.inr (fun _ => none))))))]) [0, 1] rfl
  have hD := hD.sub (ws' := [(q, .inr (4, [.null, .int 0, .int 0, .ref q1, .int 0, .int 0, .ref q3, .int 0, .ref q5, .ref q7, .int 0, .ref q9, .ref q11, .ref q13, .ref q15, .ref q17, .ref q19, .ref q21])), (q7, .inl (c8, 8, .inr (.inr (.inr (.inr (fun _ => none))))))]) [0, 1] (by decide) rfl
  refine lv_aload_n hx hb dX4_init_97 rfl (lv_at hl 0 rfl) ?_
  refine lv_aload_n hx hb dX4_init_98 rfl (lv_at hl 1 rfl) ?_
  refine va_putF (D := (dC, dI)) (ci := 4) (v := .ref ac) (ty := .object "FinderHouse$Acts") (C := RX4) (T := TX4) (N := 18) hx hb ht uX4 tyX4 tkX4 nmX4 hown hK hP hD hS 0 rfl rfl 0 (by decide) (ht _ k_3_106) (fun _ h9 => h9) rfl hin rfl (by decide +kernel) rfl rfl (Nat.le_of_ble_eq_true rfl) dX4_init_99 (fun H locs hP hD hS => ?_)
  have hP : va_P (dC, dI) cls [(q, .inr (4, [.ref ac, .int 0, .int 0, .ref q1, .int 0, .int 0, .ref q3, .int 0, .ref q5, .ref q7, .int 0, .ref q9, .ref q11, .ref q13, .ref q15, .ref q17, .ref q19, .ref q21])), (q7, .inl (c8, 8, .inr (.inr (.inr (.inr (fun _ => none))))))] H := hP
  have hD : va_D A [(q, .inr (4, [.ref ac, .int 0, .int 0, .ref q1, .int 0, .int 0, .ref q3, .int 0, .ref q5, .ref q7, .int 0, .ref q9, .ref q11, .ref q13, .ref q15, .ref q17, .ref q19, .ref q21])), (q7, .inl (c8, 8, .inr (.inr (.inr (.inr (fun _ => none))))))] := hD
  refine lv_iconst (v := 0) hx hb dX4_init_102 (by decide) ?_
  refine lv_istore_n (lv' := [(2, .int 0), (0, .ref q), (1, .ref ac)]) hx hb dX4_init_103 rfl hl (by decide) rfl (fun ls hl => ?_)
  refine lv_iload_n hx hb dX4_init_104 rfl (lv_at hl 0 rfl) ?_
  refine lv_aload_n hx hb dX4_init_105 rfl (lv_at hl 1 rfl) ?_
  refine va_get (D := (dC, dI)) (ci := 4) (v := .ref q7) (C := RX4) (T := TX4) (N := 18) hx hb ht uX4 hown hK hP 0 rfl rfl 9 (by decide) (ht _ k_3_123) (fun _ h9 => h9) rfl dX4_init_106 ?_
  refine va_alen (x := (8, .inr (.inr (.inr (.inr (fun _ => none)))))) (v := 8) hx hb hK hP 1 3 rfl rfl (show Int32.ofNat 8 = 8 by decide) dX4_init_109 ?_
  refine lv_icmp_ge (tgt := 134) hx hb dX4_init_110 (by decide) (fun c0 => absurd c0 (by decide)) (fun _ => ?_)
  refine lv_aload_n hx hb dX4_init_113 rfl (lv_at hl 1 rfl) ?_
  refine va_get (D := (dC, dI)) (ci := 4) (v := .ref q7) (C := RX4) (T := TX4) (N := 18) hx hb ht uX4 hown hK hP 0 rfl rfl 9 (by decide) (ht _ k_3_123) (fun _ h9 => h9) rfl dX4_init_114 ?_
  refine lv_iload_n hx hb dX4_init_117 rfl (lv_at hl 0 rfl) ?_
  refine va_new (ci := 9) (fs := [.null, .null, .null, .int 0]) (C := RX9) (T := TX9) (N := 4) hx hb ht uX9 tyX9 tkX9 hown (ht _ k_3_104) (ht _ k_1_101) (ht _ k_1_7) hK hP hD hS hA rfl (by decide +kernel) (Nat.le_of_ble_eq_true rfl) (Nat.le_of_ble_eq_true rfl) dX4_init_118 (fun q23 H hP hD hS => ?_)
  have hP : va_P (dC, dI) cls [(q, .inr (4, [.ref ac, .int 0, .int 0, .ref q1, .int 0, .int 0, .ref q3, .int 0, .ref q5, .ref q7, .int 0, .ref q9, .ref q11, .ref q13, .ref q15, .ref q17, .ref q19, .ref q21])), (q7, .inl (c8, 8, .inr (.inr (.inr (.inr (fun _ => none)))))), (q23, .inr (9, [.null, .null, .null, .int 0]))] H := hP
  have hD : va_D A [(q, .inr (4, [.ref ac, .int 0, .int 0, .ref q1, .int 0, .int 0, .ref q3, .int 0, .ref q5, .ref q7, .int 0, .ref q9, .ref q11, .ref q13, .ref q15, .ref q17, .ref q19, .ref q21])), (q7, .inl (c8, 8, .inr (.inr (.inr (.inr (fun _ => none)))))), (q23, .inr (9, [.null, .null, .null, .int 0]))] := hD
  refine W.widen (k := 12) (n := 24852) (by omega) (by omega) ?_
  refine lv_dup hx hb dX4_init_121 rfl ?_
  refine lv_bipush (v := 121) hx hb dX4_init_122 (by decide) ?_
  refine ca_v (wr := [(q, .inr (4, [.ref ac, .int 0, .int 0, .ref q1, .int 0, .int 0, .ref q3, .int 0, .ref q5, .ref q7, .int 0, .ref q9, .ref q11, .ref q13, .ref q15, .ref q17, .ref q19, .ref q21])), (q7, .inl (c8, 8, .inr (.inr (.inr (.inr (fun _ => none))))))]) (va_runI (As := [.int 121]) (rest := [.ref q23, .int 0, .ref q7]) ⟨hx, hb, hml, hown, ht⟩ (k9_121 l dC dI H.size q23  ) (cwI 1 ht (gdI k_1_104) rfl rfl rfl (ht _ k_1_7) (ht _ k_3_105) (ht _ k_1_103) rfl (by decide +kernel) ⟨Nat.le_of_ble_eq_true rfl, Nat.le_of_ble_eq_true rfl⟩) ⟨pcw_blind, pcw_at hP hD hK [2] [] (by decide) rfl rfl rfl⟩ rfl rfl hl.1 rfl (lv_room (Nat.le_of_ble_eq_true rfl)) dX4_init_124 ⟨Nat.le_of_ble_eq_true rfl, Nat.le_of_ble_eq_true rfl⟩) hP hD hK hS hA [2] [0, 1] rfl rfl (by decide) (by decide) (fun u H locs w25 hK hP hD hS => ?_)
  obtain ⟨F26, rfl⟩ : ∃ z, z = u := ⟨_, rfl⟩
  have hK : va_K (dC, dI) cls [(c2, .int), (c4, .int), (c6, .int), (c8, .object "FinderHouse$Term"), (c10, .int), (c12, .int), (c14, .int), (c16, .int), (c18, .int), (c20, .int), (c22, .int)] s := hK
  have hP : va_P (dC, dI) cls [(q, .inr (4, [.ref ac, .int 0, .int 0, .ref q1, .int 0, .int 0, .ref q3, .int 0, .ref q5, .ref q7, .int 0, .ref q9, .ref q11, .ref q13, .ref q15, .ref q17, .ref q19, .ref q21])), (q7, .inl (c8, 8, .inr (.inr (.inr (.inr (fun _ => none)))))), (q23, .inr (9, F26))] H := hP
  have hD : va_D A [(q, .inr (4, [.ref ac, .int 0, .int 0, .ref q1, .int 0, .int 0, .ref q3, .int 0, .ref q5, .ref q7, .int 0, .ref q9, .ref q11, .ref q13, .ref q15, .ref q17, .ref q19, .ref q21])), (q7, .inl (c8, 8, .inr (.inr (.inr (.inr (fun _ => none)))))), (q23, .inr (9, F26))] := hD
  refine W.widen (k := 15) (n := 25215) (by omega) (by omega) ?_
  obtain ⟨w25, K27, K28⟩ := w25
  refine va_astq (r := (RX9, TX9, 4)) hx hb hK hP hD hS 1 3 2 9 rfl rfl rfl rfl (by unfold vp_in; decide) dX4_init_127 (fun H locs hP hD hS => ?_)
  obtain ⟨f29, ef29⟩ : ∃ g : Nat → Option Nat, g = va_up (fun _ => none) (0 : Int32).toNatClampNeg (some q23) := ⟨_, rfl⟩
  rw [← ef29] at hP hD
  have hP : va_P (dC, dI) cls [(q, .inr (4, [.ref ac, .int 0, .int 0, .ref q1, .int 0, .int 0, .ref q3, .int 0, .ref q5, .ref q7, .int 0, .ref q9, .ref q11, .ref q13, .ref q15, .ref q17, .ref q19, .ref q21])), (q7, .inl (c8, 8, .inr (.inr (.inr (.inr f29))))), (q23, .inr (9, F26))] H := hP
  have hD : va_D A [(q, .inr (4, [.ref ac, .int 0, .int 0, .ref q1, .int 0, .int 0, .ref q3, .int 0, .ref q5, .ref q7, .int 0, .ref q9, .ref q11, .ref q13, .ref q15, .ref q17, .ref q19, .ref q21])), (q7, .inl (c8, 8, .inr (.inr (.inr (.inr f29))))), (q23, .inr (9, F26))] := hD
  have hP := hP.sub (ws' := [(q, .inr (4, [.ref ac, .int 0, .int 0, .ref q1, .int 0, .int 0, .ref q3, .int 0, .ref q5, .ref q7, .int 0, .ref q9, .ref q11, .ref q13, .ref q15, .ref q17, .ref q19, .ref q21])), (q7, .inl (c8, 8, .inr (.inr (.inr (.inr f29)))))]) [0, 1] rfl
  have hD := hD.sub (ws' := [(q, .inr (4, [.ref ac, .int 0, .int 0, .ref q1, .int 0, .int 0, .ref q3, .int 0, .ref q5, .ref q7, .int 0, .ref q9, .ref q11, .ref q13, .ref q15, .ref q17, .ref q19, .ref q21])), (q7, .inl (c8, 8, .inr (.inr (.inr (.inr f29)))))]) [0, 1] (by decide) rfl
  refine lv_iinc (v := 1) (lv' := [(2, .int 1), (0, .ref q), (1, .ref ac)]) hx hb dX4_init_128 hl (k := 0) rfl (by decide) (by decide) rfl (fun ls hl => ?_)
  refine lv_goto (tgt := 104) hx hb dX4_init_131 (by decide) ?_
  refine lv_iload_n hx hb dX4_init_104 rfl (lv_at hl 0 rfl) ?_
  refine lv_aload_n hx hb dX4_init_105 rfl (lv_at hl 1 rfl) ?_
  refine va_get (D := (dC, dI)) (ci := 4) (v := .ref q7) (C := RX4) (T := TX4) (N := 18) hx hb ht uX4 hown hK hP 0 rfl rfl 9 (by decide) (ht _ k_3_123) (fun _ h9 => h9) rfl dX4_init_106 ?_
  refine va_alen (x := (8, .inr (.inr (.inr (.inr f29))))) (v := 8) hx hb hK hP 1 3 rfl rfl (show Int32.ofNat 8 = 8 by decide) dX4_init_109 ?_
  refine lv_icmp_ge (tgt := 134) hx hb dX4_init_110 (by decide) (fun c0 => absurd c0 (by decide)) (fun _ => ?_)
  refine lv_aload_n hx hb dX4_init_113 rfl (lv_at hl 1 rfl) ?_
  refine va_get (D := (dC, dI)) (ci := 4) (v := .ref q7) (C := RX4) (T := TX4) (N := 18) hx hb ht uX4 hown hK hP 0 rfl rfl 9 (by decide) (ht _ k_3_123) (fun _ h9 => h9) rfl dX4_init_114 ?_
  refine lv_iload_n hx hb dX4_init_117 rfl (lv_at hl 0 rfl) ?_
  refine va_new (ci := 9) (fs := [.null, .null, .null, .int 0]) (C := RX9) (T := TX9) (N := 4) hx hb ht uX9 tyX9 tkX9 hown (ht _ k_3_104) (ht _ k_1_101) (ht _ k_1_7) hK hP hD hS hA rfl (by decide +kernel) (Nat.le_of_ble_eq_true rfl) (Nat.le_of_ble_eq_true rfl) dX4_init_118 (fun q30 H hP hD hS => ?_)
  have hP : va_P (dC, dI) cls [(q, .inr (4, [.ref ac, .int 0, .int 0, .ref q1, .int 0, .int 0, .ref q3, .int 0, .ref q5, .ref q7, .int 0, .ref q9, .ref q11, .ref q13, .ref q15, .ref q17, .ref q19, .ref q21])), (q7, .inl (c8, 8, .inr (.inr (.inr (.inr f29))))), (q30, .inr (9, [.null, .null, .null, .int 0]))] H := hP
  have hD : va_D A [(q, .inr (4, [.ref ac, .int 0, .int 0, .ref q1, .int 0, .int 0, .ref q3, .int 0, .ref q5, .ref q7, .int 0, .ref q9, .ref q11, .ref q13, .ref q15, .ref q17, .ref q19, .ref q21])), (q7, .inl (c8, 8, .inr (.inr (.inr (.inr f29))))), (q30, .inr (9, [.null, .null, .null, .int 0]))] := hD
  refine W.widen (k := 16) (n := 25219) (by omega) (by omega) ?_
  refine lv_dup hx hb dX4_init_121 rfl ?_
  refine lv_bipush (v := 121) hx hb dX4_init_122 (by decide) ?_
  refine ca_v (wr := [(q, .inr (4, [.ref ac, .int 0, .int 0, .ref q1, .int 0, .int 0, .ref q3, .int 0, .ref q5, .ref q7, .int 0, .ref q9, .ref q11, .ref q13, .ref q15, .ref q17, .ref q19, .ref q21])), (q7, .inl (c8, 8, .inr (.inr (.inr (.inr f29)))))]) (va_runI (As := [.int 121]) (rest := [.ref q30, .int 1, .ref q7]) ⟨hx, hb, hml, hown, ht⟩ (k9_121 l dC dI H.size q30  ) (cwI 1 ht (gdI k_1_104) rfl rfl rfl (ht _ k_1_7) (ht _ k_3_105) (ht _ k_1_103) rfl (by decide +kernel) ⟨Nat.le_of_ble_eq_true rfl, Nat.le_of_ble_eq_true rfl⟩) ⟨pcw_blind, pcw_at hP hD hK [2] [] (by decide) rfl rfl rfl⟩ rfl rfl hl.1 rfl (lv_room (Nat.le_of_ble_eq_true rfl)) dX4_init_124 ⟨Nat.le_of_ble_eq_true rfl, Nat.le_of_ble_eq_true rfl⟩) hP hD hK hS hA [2] [0, 1] rfl rfl (by decide) (by decide) (fun u H locs w32 hK hP hD hS => ?_)
  obtain ⟨F33, rfl⟩ : ∃ z, z = u := ⟨_, rfl⟩
  have hK : va_K (dC, dI) cls [(c2, .int), (c4, .int), (c6, .int), (c8, .object "FinderHouse$Term"), (c10, .int), (c12, .int), (c14, .int), (c16, .int), (c18, .int), (c20, .int), (c22, .int)] s := hK
  have hP : va_P (dC, dI) cls [(q, .inr (4, [.ref ac, .int 0, .int 0, .ref q1, .int 0, .int 0, .ref q3, .int 0, .ref q5, .ref q7, .int 0, .ref q9, .ref q11, .ref q13, .ref q15, .ref q17, .ref q19, .ref q21])), (q7, .inl (c8, 8, .inr (.inr (.inr (.inr f29))))), (q30, .inr (9, F33))] H := hP
  have hD : va_D A [(q, .inr (4, [.ref ac, .int 0, .int 0, .ref q1, .int 0, .int 0, .ref q3, .int 0, .ref q5, .ref q7, .int 0, .ref q9, .ref q11, .ref q13, .ref q15, .ref q17, .ref q19, .ref q21])), (q7, .inl (c8, 8, .inr (.inr (.inr (.inr f29))))), (q30, .inr (9, F33))] := hD
  refine W.widen (k := 19) (n := 25582) (by omega) (by omega) ?_
  obtain ⟨w32, K34, K35⟩ := w32
  refine va_astq (r := (RX9, TX9, 4)) hx hb hK hP hD hS 1 3 2 9 rfl rfl rfl rfl (by unfold vp_in; decide) dX4_init_127 (fun H locs hP hD hS => ?_)
  obtain ⟨f36, ef36⟩ : ∃ g : Nat → Option Nat, g = va_up f29 (1 : Int32).toNatClampNeg (some q30) := ⟨_, rfl⟩
  rw [← ef36] at hP hD
  have hP : va_P (dC, dI) cls [(q, .inr (4, [.ref ac, .int 0, .int 0, .ref q1, .int 0, .int 0, .ref q3, .int 0, .ref q5, .ref q7, .int 0, .ref q9, .ref q11, .ref q13, .ref q15, .ref q17, .ref q19, .ref q21])), (q7, .inl (c8, 8, .inr (.inr (.inr (.inr f36))))), (q30, .inr (9, F33))] H := hP
  have hD : va_D A [(q, .inr (4, [.ref ac, .int 0, .int 0, .ref q1, .int 0, .int 0, .ref q3, .int 0, .ref q5, .ref q7, .int 0, .ref q9, .ref q11, .ref q13, .ref q15, .ref q17, .ref q19, .ref q21])), (q7, .inl (c8, 8, .inr (.inr (.inr (.inr f36))))), (q30, .inr (9, F33))] := hD
  have hP := hP.sub (ws' := [(q, .inr (4, [.ref ac, .int 0, .int 0, .ref q1, .int 0, .int 0, .ref q3, .int 0, .ref q5, .ref q7, .int 0, .ref q9, .ref q11, .ref q13, .ref q15, .ref q17, .ref q19, .ref q21])), (q7, .inl (c8, 8, .inr (.inr (.inr (.inr f36)))))]) [0, 1] rfl
  have hD := hD.sub (ws' := [(q, .inr (4, [.ref ac, .int 0, .int 0, .ref q1, .int 0, .int 0, .ref q3, .int 0, .ref q5, .ref q7, .int 0, .ref q9, .ref q11, .ref q13, .ref q15, .ref q17, .ref q19, .ref q21])), (q7, .inl (c8, 8, .inr (.inr (.inr (.inr f36)))))]) [0, 1] (by decide) rfl
  refine lv_iinc (v := 2) (lv' := [(2, .int 2), (0, .ref q), (1, .ref ac)]) hx hb dX4_init_128 hl (k := 0) rfl (by decide) (by decide) rfl (fun ls hl => ?_)
  refine lv_goto (tgt := 104) hx hb dX4_init_131 (by decide) ?_
  refine lv_iload_n hx hb dX4_init_104 rfl (lv_at hl 0 rfl) ?_
  refine lv_aload_n hx hb dX4_init_105 rfl (lv_at hl 1 rfl) ?_
  refine va_get (D := (dC, dI)) (ci := 4) (v := .ref q7) (C := RX4) (T := TX4) (N := 18) hx hb ht uX4 hown hK hP 0 rfl rfl 9 (by decide) (ht _ k_3_123) (fun _ h9 => h9) rfl dX4_init_106 ?_
  refine va_alen (x := (8, .inr (.inr (.inr (.inr f36))))) (v := 8) hx hb hK hP 1 3 rfl rfl (show Int32.ofNat 8 = 8 by decide) dX4_init_109 ?_
  refine lv_icmp_ge (tgt := 134) hx hb dX4_init_110 (by decide) (fun c0 => absurd c0 (by decide)) (fun _ => ?_)
  refine lv_aload_n hx hb dX4_init_113 rfl (lv_at hl 1 rfl) ?_
  refine va_get (D := (dC, dI)) (ci := 4) (v := .ref q7) (C := RX4) (T := TX4) (N := 18) hx hb ht uX4 hown hK hP 0 rfl rfl 9 (by decide) (ht _ k_3_123) (fun _ h9 => h9) rfl dX4_init_114 ?_
  refine lv_iload_n hx hb dX4_init_117 rfl (lv_at hl 0 rfl) ?_
  refine va_new (ci := 9) (fs := [.null, .null, .null, .int 0]) (C := RX9) (T := TX9) (N := 4) hx hb ht uX9 tyX9 tkX9 hown (ht _ k_3_104) (ht _ k_1_101) (ht _ k_1_7) hK hP hD hS hA rfl (by decide +kernel) (Nat.le_of_ble_eq_true rfl) (Nat.le_of_ble_eq_true rfl) dX4_init_118 (fun q37 H hP hD hS => ?_)
  have hP : va_P (dC, dI) cls [(q, .inr (4, [.ref ac, .int 0, .int 0, .ref q1, .int 0, .int 0, .ref q3, .int 0, .ref q5, .ref q7, .int 0, .ref q9, .ref q11, .ref q13, .ref q15, .ref q17, .ref q19, .ref q21])), (q7, .inl (c8, 8, .inr (.inr (.inr (.inr f36))))), (q37, .inr (9, [.null, .null, .null, .int 0]))] H := hP
  have hD : va_D A [(q, .inr (4, [.ref ac, .int 0, .int 0, .ref q1, .int 0, .int 0, .ref q3, .int 0, .ref q5, .ref q7, .int 0, .ref q9, .ref q11, .ref q13, .ref q15, .ref q17, .ref q19, .ref q21])), (q7, .inl (c8, 8, .inr (.inr (.inr (.inr f36))))), (q37, .inr (9, [.null, .null, .null, .int 0]))] := hD
  refine W.widen (k := 20) (n := 25586) (by omega) (by omega) ?_
  refine lv_dup hx hb dX4_init_121 rfl ?_
  refine lv_bipush (v := 121) hx hb dX4_init_122 (by decide) ?_
  refine ca_v (wr := [(q, .inr (4, [.ref ac, .int 0, .int 0, .ref q1, .int 0, .int 0, .ref q3, .int 0, .ref q5, .ref q7, .int 0, .ref q9, .ref q11, .ref q13, .ref q15, .ref q17, .ref q19, .ref q21])), (q7, .inl (c8, 8, .inr (.inr (.inr (.inr f36)))))]) (va_runI (As := [.int 121]) (rest := [.ref q37, .int 2, .ref q7]) ⟨hx, hb, hml, hown, ht⟩ (k9_121 l dC dI H.size q37  ) (cwI 1 ht (gdI k_1_104) rfl rfl rfl (ht _ k_1_7) (ht _ k_3_105) (ht _ k_1_103) rfl (by decide +kernel) ⟨Nat.le_of_ble_eq_true rfl, Nat.le_of_ble_eq_true rfl⟩) ⟨pcw_blind, pcw_at hP hD hK [2] [] (by decide) rfl rfl rfl⟩ rfl rfl hl.1 rfl (lv_room (Nat.le_of_ble_eq_true rfl)) dX4_init_124 ⟨Nat.le_of_ble_eq_true rfl, Nat.le_of_ble_eq_true rfl⟩) hP hD hK hS hA [2] [0, 1] rfl rfl (by decide) (by decide) (fun u H locs w39 hK hP hD hS => ?_)
  obtain ⟨F40, rfl⟩ : ∃ z, z = u := ⟨_, rfl⟩
  have hK : va_K (dC, dI) cls [(c2, .int), (c4, .int), (c6, .int), (c8, .object "FinderHouse$Term"), (c10, .int), (c12, .int), (c14, .int), (c16, .int), (c18, .int), (c20, .int), (c22, .int)] s := hK
  have hP : va_P (dC, dI) cls [(q, .inr (4, [.ref ac, .int 0, .int 0, .ref q1, .int 0, .int 0, .ref q3, .int 0, .ref q5, .ref q7, .int 0, .ref q9, .ref q11, .ref q13, .ref q15, .ref q17, .ref q19, .ref q21])), (q7, .inl (c8, 8, .inr (.inr (.inr (.inr f36))))), (q37, .inr (9, F40))] H := hP
  have hD : va_D A [(q, .inr (4, [.ref ac, .int 0, .int 0, .ref q1, .int 0, .int 0, .ref q3, .int 0, .ref q5, .ref q7, .int 0, .ref q9, .ref q11, .ref q13, .ref q15, .ref q17, .ref q19, .ref q21])), (q7, .inl (c8, 8, .inr (.inr (.inr (.inr f36))))), (q37, .inr (9, F40))] := hD
  refine W.widen (k := 23) (n := 25949) (by omega) (by omega) ?_
  obtain ⟨w39, K41, K42⟩ := w39
  refine va_astq (r := (RX9, TX9, 4)) hx hb hK hP hD hS 1 3 2 9 rfl rfl rfl rfl (by unfold vp_in; decide) dX4_init_127 (fun H locs hP hD hS => ?_)
  obtain ⟨f43, ef43⟩ : ∃ g : Nat → Option Nat, g = va_up f36 (2 : Int32).toNatClampNeg (some q37) := ⟨_, rfl⟩
  rw [← ef43] at hP hD
  have hP : va_P (dC, dI) cls [(q, .inr (4, [.ref ac, .int 0, .int 0, .ref q1, .int 0, .int 0, .ref q3, .int 0, .ref q5, .ref q7, .int 0, .ref q9, .ref q11, .ref q13, .ref q15, .ref q17, .ref q19, .ref q21])), (q7, .inl (c8, 8, .inr (.inr (.inr (.inr f43))))), (q37, .inr (9, F40))] H := hP
  have hD : va_D A [(q, .inr (4, [.ref ac, .int 0, .int 0, .ref q1, .int 0, .int 0, .ref q3, .int 0, .ref q5, .ref q7, .int 0, .ref q9, .ref q11, .ref q13, .ref q15, .ref q17, .ref q19, .ref q21])), (q7, .inl (c8, 8, .inr (.inr (.inr (.inr f43))))), (q37, .inr (9, F40))] := hD
  have hP := hP.sub (ws' := [(q, .inr (4, [.ref ac, .int 0, .int 0, .ref q1, .int 0, .int 0, .ref q3, .int 0, .ref q5, .ref q7, .int 0, .ref q9, .ref q11, .ref q13, .ref q15, .ref q17, .ref q19, .ref q21])), (q7, .inl (c8, 8, .inr (.inr (.inr (.inr f43)))))]) [0, 1] rfl
  have hD := hD.sub (ws' := [(q, .inr (4, [.ref ac, .int 0, .int 0, .ref q1, .int 0, .int 0, .ref q3, .int 0, .ref q5, .ref q7, .int 0, .ref q9, .ref q11, .ref q13, .ref q15, .ref q17, .ref q19, .ref q21])), (q7, .inl (c8, 8, .inr (.inr (.inr (.inr f43)))))]) [0, 1] (by decide) rfl
  refine lv_iinc (v := 3) (lv' := [(2, .int 3), (0, .ref q), (1, .ref ac)]) hx hb dX4_init_128 hl (k := 0) rfl (by decide) (by decide) rfl (fun ls hl => ?_)
  refine lv_goto (tgt := 104) hx hb dX4_init_131 (by decide) ?_
  refine lv_iload_n hx hb dX4_init_104 rfl (lv_at hl 0 rfl) ?_
  refine lv_aload_n hx hb dX4_init_105 rfl (lv_at hl 1 rfl) ?_
  refine va_get (D := (dC, dI)) (ci := 4) (v := .ref q7) (C := RX4) (T := TX4) (N := 18) hx hb ht uX4 hown hK hP 0 rfl rfl 9 (by decide) (ht _ k_3_123) (fun _ h9 => h9) rfl dX4_init_106 ?_
  refine va_alen (x := (8, .inr (.inr (.inr (.inr f43))))) (v := 8) hx hb hK hP 1 3 rfl rfl (show Int32.ofNat 8 = 8 by decide) dX4_init_109 ?_
  refine lv_icmp_ge (tgt := 134) hx hb dX4_init_110 (by decide) (fun c0 => absurd c0 (by decide)) (fun _ => ?_)
  refine lv_aload_n hx hb dX4_init_113 rfl (lv_at hl 1 rfl) ?_
  refine va_get (D := (dC, dI)) (ci := 4) (v := .ref q7) (C := RX4) (T := TX4) (N := 18) hx hb ht uX4 hown hK hP 0 rfl rfl 9 (by decide) (ht _ k_3_123) (fun _ h9 => h9) rfl dX4_init_114 ?_
  refine lv_iload_n hx hb dX4_init_117 rfl (lv_at hl 0 rfl) ?_
  refine va_new (ci := 9) (fs := [.null, .null, .null, .int 0]) (C := RX9) (T := TX9) (N := 4) hx hb ht uX9 tyX9 tkX9 hown (ht _ k_3_104) (ht _ k_1_101) (ht _ k_1_7) hK hP hD hS hA rfl (by decide +kernel) (Nat.le_of_ble_eq_true rfl) (Nat.le_of_ble_eq_true rfl) dX4_init_118 (fun q44 H hP hD hS => ?_)
  have hP : va_P (dC, dI) cls [(q, .inr (4, [.ref ac, .int 0, .int 0, .ref q1, .int 0, .int 0, .ref q3, .int 0, .ref q5, .ref q7, .int 0, .ref q9, .ref q11, .ref q13, .ref q15, .ref q17, .ref q19, .ref q21])), (q7, .inl (c8, 8, .inr (.inr (.inr (.inr f43))))), (q44, .inr (9, [.null, .null, .null, .int 0]))] H := hP
  have hD : va_D A [(q, .inr (4, [.ref ac, .int 0, .int 0, .ref q1, .int 0, .int 0, .ref q3, .int 0, .ref q5, .ref q7, .int 0, .ref q9, .ref q11, .ref q13, .ref q15, .ref q17, .ref q19, .ref q21])), (q7, .inl (c8, 8, .inr (.inr (.inr (.inr f43))))), (q44, .inr (9, [.null, .null, .null, .int 0]))] := hD
  refine W.widen (k := 24) (n := 25953) (by omega) (by omega) ?_
  refine lv_dup hx hb dX4_init_121 rfl ?_
  refine lv_bipush (v := 121) hx hb dX4_init_122 (by decide) ?_
  refine ca_v (wr := [(q, .inr (4, [.ref ac, .int 0, .int 0, .ref q1, .int 0, .int 0, .ref q3, .int 0, .ref q5, .ref q7, .int 0, .ref q9, .ref q11, .ref q13, .ref q15, .ref q17, .ref q19, .ref q21])), (q7, .inl (c8, 8, .inr (.inr (.inr (.inr f43)))))]) (va_runI (As := [.int 121]) (rest := [.ref q44, .int 3, .ref q7]) ⟨hx, hb, hml, hown, ht⟩ (k9_121 l dC dI H.size q44  ) (cwI 1 ht (gdI k_1_104) rfl rfl rfl (ht _ k_1_7) (ht _ k_3_105) (ht _ k_1_103) rfl (by decide +kernel) ⟨Nat.le_of_ble_eq_true rfl, Nat.le_of_ble_eq_true rfl⟩) ⟨pcw_blind, pcw_at hP hD hK [2] [] (by decide) rfl rfl rfl⟩ rfl rfl hl.1 rfl (lv_room (Nat.le_of_ble_eq_true rfl)) dX4_init_124 ⟨Nat.le_of_ble_eq_true rfl, Nat.le_of_ble_eq_true rfl⟩) hP hD hK hS hA [2] [0, 1] rfl rfl (by decide) (by decide) (fun u H locs w46 hK hP hD hS => ?_)
  obtain ⟨F47, rfl⟩ : ∃ z, z = u := ⟨_, rfl⟩
  have hK : va_K (dC, dI) cls [(c2, .int), (c4, .int), (c6, .int), (c8, .object "FinderHouse$Term"), (c10, .int), (c12, .int), (c14, .int), (c16, .int), (c18, .int), (c20, .int), (c22, .int)] s := hK
  have hP : va_P (dC, dI) cls [(q, .inr (4, [.ref ac, .int 0, .int 0, .ref q1, .int 0, .int 0, .ref q3, .int 0, .ref q5, .ref q7, .int 0, .ref q9, .ref q11, .ref q13, .ref q15, .ref q17, .ref q19, .ref q21])), (q7, .inl (c8, 8, .inr (.inr (.inr (.inr f43))))), (q44, .inr (9, F47))] H := hP
  have hD : va_D A [(q, .inr (4, [.ref ac, .int 0, .int 0, .ref q1, .int 0, .int 0, .ref q3, .int 0, .ref q5, .ref q7, .int 0, .ref q9, .ref q11, .ref q13, .ref q15, .ref q17, .ref q19, .ref q21])), (q7, .inl (c8, 8, .inr (.inr (.inr (.inr f43))))), (q44, .inr (9, F47))] := hD
  refine W.widen (k := 27) (n := 26316) (by omega) (by omega) ?_
  obtain ⟨w46, K48, K49⟩ := w46
  refine va_astq (r := (RX9, TX9, 4)) hx hb hK hP hD hS 1 3 2 9 rfl rfl rfl rfl (by unfold vp_in; decide) dX4_init_127 (fun H locs hP hD hS => ?_)
  obtain ⟨f50, ef50⟩ : ∃ g : Nat → Option Nat, g = va_up f43 (3 : Int32).toNatClampNeg (some q44) := ⟨_, rfl⟩
  rw [← ef50] at hP hD
  have hP : va_P (dC, dI) cls [(q, .inr (4, [.ref ac, .int 0, .int 0, .ref q1, .int 0, .int 0, .ref q3, .int 0, .ref q5, .ref q7, .int 0, .ref q9, .ref q11, .ref q13, .ref q15, .ref q17, .ref q19, .ref q21])), (q7, .inl (c8, 8, .inr (.inr (.inr (.inr f50))))), (q44, .inr (9, F47))] H := hP
  have hD : va_D A [(q, .inr (4, [.ref ac, .int 0, .int 0, .ref q1, .int 0, .int 0, .ref q3, .int 0, .ref q5, .ref q7, .int 0, .ref q9, .ref q11, .ref q13, .ref q15, .ref q17, .ref q19, .ref q21])), (q7, .inl (c8, 8, .inr (.inr (.inr (.inr f50))))), (q44, .inr (9, F47))] := hD
  have hP := hP.sub (ws' := [(q, .inr (4, [.ref ac, .int 0, .int 0, .ref q1, .int 0, .int 0, .ref q3, .int 0, .ref q5, .ref q7, .int 0, .ref q9, .ref q11, .ref q13, .ref q15, .ref q17, .ref q19, .ref q21])), (q7, .inl (c8, 8, .inr (.inr (.inr (.inr f50)))))]) [0, 1] rfl
  have hD := hD.sub (ws' := [(q, .inr (4, [.ref ac, .int 0, .int 0, .ref q1, .int 0, .int 0, .ref q3, .int 0, .ref q5, .ref q7, .int 0, .ref q9, .ref q11, .ref q13, .ref q15, .ref q17, .ref q19, .ref q21])), (q7, .inl (c8, 8, .inr (.inr (.inr (.inr f50)))))]) [0, 1] (by decide) rfl
  refine lv_iinc (v := 4) (lv' := [(2, .int 4), (0, .ref q), (1, .ref ac)]) hx hb dX4_init_128 hl (k := 0) rfl (by decide) (by decide) rfl (fun ls hl => ?_)
  refine lv_goto (tgt := 104) hx hb dX4_init_131 (by decide) ?_
  refine lv_iload_n hx hb dX4_init_104 rfl (lv_at hl 0 rfl) ?_
  refine lv_aload_n hx hb dX4_init_105 rfl (lv_at hl 1 rfl) ?_
  refine va_get (D := (dC, dI)) (ci := 4) (v := .ref q7) (C := RX4) (T := TX4) (N := 18) hx hb ht uX4 hown hK hP 0 rfl rfl 9 (by decide) (ht _ k_3_123) (fun _ h9 => h9) rfl dX4_init_106 ?_
  refine va_alen (x := (8, .inr (.inr (.inr (.inr f50))))) (v := 8) hx hb hK hP 1 3 rfl rfl (show Int32.ofNat 8 = 8 by decide) dX4_init_109 ?_
  refine lv_icmp_ge (tgt := 134) hx hb dX4_init_110 (by decide) (fun c0 => absurd c0 (by decide)) (fun _ => ?_)
  refine lv_aload_n hx hb dX4_init_113 rfl (lv_at hl 1 rfl) ?_
  refine va_get (D := (dC, dI)) (ci := 4) (v := .ref q7) (C := RX4) (T := TX4) (N := 18) hx hb ht uX4 hown hK hP 0 rfl rfl 9 (by decide) (ht _ k_3_123) (fun _ h9 => h9) rfl dX4_init_114 ?_
  refine lv_iload_n hx hb dX4_init_117 rfl (lv_at hl 0 rfl) ?_
  refine va_new (ci := 9) (fs := [.null, .null, .null, .int 0]) (C := RX9) (T := TX9) (N := 4) hx hb ht uX9 tyX9 tkX9 hown (ht _ k_3_104) (ht _ k_1_101) (ht _ k_1_7) hK hP hD hS hA rfl (by decide +kernel) (Nat.le_of_ble_eq_true rfl) (Nat.le_of_ble_eq_true rfl) dX4_init_118 (fun q51 H hP hD hS => ?_)
  have hP : va_P (dC, dI) cls [(q, .inr (4, [.ref ac, .int 0, .int 0, .ref q1, .int 0, .int 0, .ref q3, .int 0, .ref q5, .ref q7, .int 0, .ref q9, .ref q11, .ref q13, .ref q15, .ref q17, .ref q19, .ref q21])), (q7, .inl (c8, 8, .inr (.inr (.inr (.inr f50))))), (q51, .inr (9, [.null, .null, .null, .int 0]))] H := hP
  have hD : va_D A [(q, .inr (4, [.ref ac, .int 0, .int 0, .ref q1, .int 0, .int 0, .ref q3, .int 0, .ref q5, .ref q7, .int 0, .ref q9, .ref q11, .ref q13, .ref q15, .ref q17, .ref q19, .ref q21])), (q7, .inl (c8, 8, .inr (.inr (.inr (.inr f50))))), (q51, .inr (9, [.null, .null, .null, .int 0]))] := hD
  refine W.widen (k := 28) (n := 26320) (by omega) (by omega) ?_
  refine lv_dup hx hb dX4_init_121 rfl ?_
  refine lv_bipush (v := 121) hx hb dX4_init_122 (by decide) ?_
  refine ca_v (wr := [(q, .inr (4, [.ref ac, .int 0, .int 0, .ref q1, .int 0, .int 0, .ref q3, .int 0, .ref q5, .ref q7, .int 0, .ref q9, .ref q11, .ref q13, .ref q15, .ref q17, .ref q19, .ref q21])), (q7, .inl (c8, 8, .inr (.inr (.inr (.inr f50)))))]) (va_runI (As := [.int 121]) (rest := [.ref q51, .int 4, .ref q7]) ⟨hx, hb, hml, hown, ht⟩ (k9_121 l dC dI H.size q51  ) (cwI 1 ht (gdI k_1_104) rfl rfl rfl (ht _ k_1_7) (ht _ k_3_105) (ht _ k_1_103) rfl (by decide +kernel) ⟨Nat.le_of_ble_eq_true rfl, Nat.le_of_ble_eq_true rfl⟩) ⟨pcw_blind, pcw_at hP hD hK [2] [] (by decide) rfl rfl rfl⟩ rfl rfl hl.1 rfl (lv_room (Nat.le_of_ble_eq_true rfl)) dX4_init_124 ⟨Nat.le_of_ble_eq_true rfl, Nat.le_of_ble_eq_true rfl⟩) hP hD hK hS hA [2] [0, 1] rfl rfl (by decide) (by decide) (fun u H locs w53 hK hP hD hS => ?_)
  obtain ⟨F54, rfl⟩ : ∃ z, z = u := ⟨_, rfl⟩
  have hK : va_K (dC, dI) cls [(c2, .int), (c4, .int), (c6, .int), (c8, .object "FinderHouse$Term"), (c10, .int), (c12, .int), (c14, .int), (c16, .int), (c18, .int), (c20, .int), (c22, .int)] s := hK
  have hP : va_P (dC, dI) cls [(q, .inr (4, [.ref ac, .int 0, .int 0, .ref q1, .int 0, .int 0, .ref q3, .int 0, .ref q5, .ref q7, .int 0, .ref q9, .ref q11, .ref q13, .ref q15, .ref q17, .ref q19, .ref q21])), (q7, .inl (c8, 8, .inr (.inr (.inr (.inr f50))))), (q51, .inr (9, F54))] H := hP
  have hD : va_D A [(q, .inr (4, [.ref ac, .int 0, .int 0, .ref q1, .int 0, .int 0, .ref q3, .int 0, .ref q5, .ref q7, .int 0, .ref q9, .ref q11, .ref q13, .ref q15, .ref q17, .ref q19, .ref q21])), (q7, .inl (c8, 8, .inr (.inr (.inr (.inr f50))))), (q51, .inr (9, F54))] := hD
  refine W.widen (k := 31) (n := 26683) (by omega) (by omega) ?_
  obtain ⟨w53, K55, K56⟩ := w53
  refine va_astq (r := (RX9, TX9, 4)) hx hb hK hP hD hS 1 3 2 9 rfl rfl rfl rfl (by unfold vp_in; decide) dX4_init_127 (fun H locs hP hD hS => ?_)
  obtain ⟨f57, ef57⟩ : ∃ g : Nat → Option Nat, g = va_up f50 (4 : Int32).toNatClampNeg (some q51) := ⟨_, rfl⟩
  rw [← ef57] at hP hD
  have hP : va_P (dC, dI) cls [(q, .inr (4, [.ref ac, .int 0, .int 0, .ref q1, .int 0, .int 0, .ref q3, .int 0, .ref q5, .ref q7, .int 0, .ref q9, .ref q11, .ref q13, .ref q15, .ref q17, .ref q19, .ref q21])), (q7, .inl (c8, 8, .inr (.inr (.inr (.inr f57))))), (q51, .inr (9, F54))] H := hP
  have hD : va_D A [(q, .inr (4, [.ref ac, .int 0, .int 0, .ref q1, .int 0, .int 0, .ref q3, .int 0, .ref q5, .ref q7, .int 0, .ref q9, .ref q11, .ref q13, .ref q15, .ref q17, .ref q19, .ref q21])), (q7, .inl (c8, 8, .inr (.inr (.inr (.inr f57))))), (q51, .inr (9, F54))] := hD
  have hP := hP.sub (ws' := [(q, .inr (4, [.ref ac, .int 0, .int 0, .ref q1, .int 0, .int 0, .ref q3, .int 0, .ref q5, .ref q7, .int 0, .ref q9, .ref q11, .ref q13, .ref q15, .ref q17, .ref q19, .ref q21])), (q7, .inl (c8, 8, .inr (.inr (.inr (.inr f57)))))]) [0, 1] rfl
  have hD := hD.sub (ws' := [(q, .inr (4, [.ref ac, .int 0, .int 0, .ref q1, .int 0, .int 0, .ref q3, .int 0, .ref q5, .ref q7, .int 0, .ref q9, .ref q11, .ref q13, .ref q15, .ref q17, .ref q19, .ref q21])), (q7, .inl (c8, 8, .inr (.inr (.inr (.inr f57)))))]) [0, 1] (by decide) rfl
  refine lv_iinc (v := 5) (lv' := [(2, .int 5), (0, .ref q), (1, .ref ac)]) hx hb dX4_init_128 hl (k := 0) rfl (by decide) (by decide) rfl (fun ls hl => ?_)
  refine lv_goto (tgt := 104) hx hb dX4_init_131 (by decide) ?_
  refine lv_iload_n hx hb dX4_init_104 rfl (lv_at hl 0 rfl) ?_
  refine lv_aload_n hx hb dX4_init_105 rfl (lv_at hl 1 rfl) ?_
  refine va_get (D := (dC, dI)) (ci := 4) (v := .ref q7) (C := RX4) (T := TX4) (N := 18) hx hb ht uX4 hown hK hP 0 rfl rfl 9 (by decide) (ht _ k_3_123) (fun _ h9 => h9) rfl dX4_init_106 ?_
  refine va_alen (x := (8, .inr (.inr (.inr (.inr f57))))) (v := 8) hx hb hK hP 1 3 rfl rfl (show Int32.ofNat 8 = 8 by decide) dX4_init_109 ?_
  refine lv_icmp_ge (tgt := 134) hx hb dX4_init_110 (by decide) (fun c0 => absurd c0 (by decide)) (fun _ => ?_)
  refine lv_aload_n hx hb dX4_init_113 rfl (lv_at hl 1 rfl) ?_
  refine va_get (D := (dC, dI)) (ci := 4) (v := .ref q7) (C := RX4) (T := TX4) (N := 18) hx hb ht uX4 hown hK hP 0 rfl rfl 9 (by decide) (ht _ k_3_123) (fun _ h9 => h9) rfl dX4_init_114 ?_
  refine lv_iload_n hx hb dX4_init_117 rfl (lv_at hl 0 rfl) ?_
  refine va_new (ci := 9) (fs := [.null, .null, .null, .int 0]) (C := RX9) (T := TX9) (N := 4) hx hb ht uX9 tyX9 tkX9 hown (ht _ k_3_104) (ht _ k_1_101) (ht _ k_1_7) hK hP hD hS hA rfl (by decide +kernel) (Nat.le_of_ble_eq_true rfl) (Nat.le_of_ble_eq_true rfl) dX4_init_118 (fun q58 H hP hD hS => ?_)
  have hP : va_P (dC, dI) cls [(q, .inr (4, [.ref ac, .int 0, .int 0, .ref q1, .int 0, .int 0, .ref q3, .int 0, .ref q5, .ref q7, .int 0, .ref q9, .ref q11, .ref q13, .ref q15, .ref q17, .ref q19, .ref q21])), (q7, .inl (c8, 8, .inr (.inr (.inr (.inr f57))))), (q58, .inr (9, [.null, .null, .null, .int 0]))] H := hP
  have hD : va_D A [(q, .inr (4, [.ref ac, .int 0, .int 0, .ref q1, .int 0, .int 0, .ref q3, .int 0, .ref q5, .ref q7, .int 0, .ref q9, .ref q11, .ref q13, .ref q15, .ref q17, .ref q19, .ref q21])), (q7, .inl (c8, 8, .inr (.inr (.inr (.inr f57))))), (q58, .inr (9, [.null, .null, .null, .int 0]))] := hD
  refine W.widen (k := 32) (n := 26687) (by omega) (by omega) ?_
  refine lv_dup hx hb dX4_init_121 rfl ?_
  refine lv_bipush (v := 121) hx hb dX4_init_122 (by decide) ?_
  refine ca_v (wr := [(q, .inr (4, [.ref ac, .int 0, .int 0, .ref q1, .int 0, .int 0, .ref q3, .int 0, .ref q5, .ref q7, .int 0, .ref q9, .ref q11, .ref q13, .ref q15, .ref q17, .ref q19, .ref q21])), (q7, .inl (c8, 8, .inr (.inr (.inr (.inr f57)))))]) (va_runI (As := [.int 121]) (rest := [.ref q58, .int 5, .ref q7]) ⟨hx, hb, hml, hown, ht⟩ (k9_121 l dC dI H.size q58  ) (cwI 1 ht (gdI k_1_104) rfl rfl rfl (ht _ k_1_7) (ht _ k_3_105) (ht _ k_1_103) rfl (by decide +kernel) ⟨Nat.le_of_ble_eq_true rfl, Nat.le_of_ble_eq_true rfl⟩) ⟨pcw_blind, pcw_at hP hD hK [2] [] (by decide) rfl rfl rfl⟩ rfl rfl hl.1 rfl (lv_room (Nat.le_of_ble_eq_true rfl)) dX4_init_124 ⟨Nat.le_of_ble_eq_true rfl, Nat.le_of_ble_eq_true rfl⟩) hP hD hK hS hA [2] [0, 1] rfl rfl (by decide) (by decide) (fun u H locs w60 hK hP hD hS => ?_)
  obtain ⟨F61, rfl⟩ : ∃ z, z = u := ⟨_, rfl⟩
  have hK : va_K (dC, dI) cls [(c2, .int), (c4, .int), (c6, .int), (c8, .object "FinderHouse$Term"), (c10, .int), (c12, .int), (c14, .int), (c16, .int), (c18, .int), (c20, .int), (c22, .int)] s := hK
  have hP : va_P (dC, dI) cls [(q, .inr (4, [.ref ac, .int 0, .int 0, .ref q1, .int 0, .int 0, .ref q3, .int 0, .ref q5, .ref q7, .int 0, .ref q9, .ref q11, .ref q13, .ref q15, .ref q17, .ref q19, .ref q21])), (q7, .inl (c8, 8, .inr (.inr (.inr (.inr f57))))), (q58, .inr (9, F61))] H := hP
  have hD : va_D A [(q, .inr (4, [.ref ac, .int 0, .int 0, .ref q1, .int 0, .int 0, .ref q3, .int 0, .ref q5, .ref q7, .int 0, .ref q9, .ref q11, .ref q13, .ref q15, .ref q17, .ref q19, .ref q21])), (q7, .inl (c8, 8, .inr (.inr (.inr (.inr f57))))), (q58, .inr (9, F61))] := hD
  refine W.widen (k := 35) (n := 27050) (by omega) (by omega) ?_
  obtain ⟨w60, K62, K63⟩ := w60
  refine va_astq (r := (RX9, TX9, 4)) hx hb hK hP hD hS 1 3 2 9 rfl rfl rfl rfl (by unfold vp_in; decide) dX4_init_127 (fun H locs hP hD hS => ?_)
  obtain ⟨f64, ef64⟩ : ∃ g : Nat → Option Nat, g = va_up f57 (5 : Int32).toNatClampNeg (some q58) := ⟨_, rfl⟩
  rw [← ef64] at hP hD
  have hP : va_P (dC, dI) cls [(q, .inr (4, [.ref ac, .int 0, .int 0, .ref q1, .int 0, .int 0, .ref q3, .int 0, .ref q5, .ref q7, .int 0, .ref q9, .ref q11, .ref q13, .ref q15, .ref q17, .ref q19, .ref q21])), (q7, .inl (c8, 8, .inr (.inr (.inr (.inr f64))))), (q58, .inr (9, F61))] H := hP
  have hD : va_D A [(q, .inr (4, [.ref ac, .int 0, .int 0, .ref q1, .int 0, .int 0, .ref q3, .int 0, .ref q5, .ref q7, .int 0, .ref q9, .ref q11, .ref q13, .ref q15, .ref q17, .ref q19, .ref q21])), (q7, .inl (c8, 8, .inr (.inr (.inr (.inr f64))))), (q58, .inr (9, F61))] := hD
  have hP := hP.sub (ws' := [(q, .inr (4, [.ref ac, .int 0, .int 0, .ref q1, .int 0, .int 0, .ref q3, .int 0, .ref q5, .ref q7, .int 0, .ref q9, .ref q11, .ref q13, .ref q15, .ref q17, .ref q19, .ref q21])), (q7, .inl (c8, 8, .inr (.inr (.inr (.inr f64)))))]) [0, 1] rfl
  have hD := hD.sub (ws' := [(q, .inr (4, [.ref ac, .int 0, .int 0, .ref q1, .int 0, .int 0, .ref q3, .int 0, .ref q5, .ref q7, .int 0, .ref q9, .ref q11, .ref q13, .ref q15, .ref q17, .ref q19, .ref q21])), (q7, .inl (c8, 8, .inr (.inr (.inr (.inr f64)))))]) [0, 1] (by decide) rfl
  refine lv_iinc (v := 6) (lv' := [(2, .int 6), (0, .ref q), (1, .ref ac)]) hx hb dX4_init_128 hl (k := 0) rfl (by decide) (by decide) rfl (fun ls hl => ?_)
  refine lv_goto (tgt := 104) hx hb dX4_init_131 (by decide) ?_
  refine lv_iload_n hx hb dX4_init_104 rfl (lv_at hl 0 rfl) ?_
  refine lv_aload_n hx hb dX4_init_105 rfl (lv_at hl 1 rfl) ?_
  refine va_get (D := (dC, dI)) (ci := 4) (v := .ref q7) (C := RX4) (T := TX4) (N := 18) hx hb ht uX4 hown hK hP 0 rfl rfl 9 (by decide) (ht _ k_3_123) (fun _ h9 => h9) rfl dX4_init_106 ?_
  refine va_alen (x := (8, .inr (.inr (.inr (.inr f64))))) (v := 8) hx hb hK hP 1 3 rfl rfl (show Int32.ofNat 8 = 8 by decide) dX4_init_109 ?_
  refine lv_icmp_ge (tgt := 134) hx hb dX4_init_110 (by decide) (fun c0 => absurd c0 (by decide)) (fun _ => ?_)
  refine lv_aload_n hx hb dX4_init_113 rfl (lv_at hl 1 rfl) ?_
  refine va_get (D := (dC, dI)) (ci := 4) (v := .ref q7) (C := RX4) (T := TX4) (N := 18) hx hb ht uX4 hown hK hP 0 rfl rfl 9 (by decide) (ht _ k_3_123) (fun _ h9 => h9) rfl dX4_init_114 ?_
  refine lv_iload_n hx hb dX4_init_117 rfl (lv_at hl 0 rfl) ?_
  refine va_new (ci := 9) (fs := [.null, .null, .null, .int 0]) (C := RX9) (T := TX9) (N := 4) hx hb ht uX9 tyX9 tkX9 hown (ht _ k_3_104) (ht _ k_1_101) (ht _ k_1_7) hK hP hD hS hA rfl (by decide +kernel) (Nat.le_of_ble_eq_true rfl) (Nat.le_of_ble_eq_true rfl) dX4_init_118 (fun q65 H hP hD hS => ?_)
  have hP : va_P (dC, dI) cls [(q, .inr (4, [.ref ac, .int 0, .int 0, .ref q1, .int 0, .int 0, .ref q3, .int 0, .ref q5, .ref q7, .int 0, .ref q9, .ref q11, .ref q13, .ref q15, .ref q17, .ref q19, .ref q21])), (q7, .inl (c8, 8, .inr (.inr (.inr (.inr f64))))), (q65, .inr (9, [.null, .null, .null, .int 0]))] H := hP
  have hD : va_D A [(q, .inr (4, [.ref ac, .int 0, .int 0, .ref q1, .int 0, .int 0, .ref q3, .int 0, .ref q5, .ref q7, .int 0, .ref q9, .ref q11, .ref q13, .ref q15, .ref q17, .ref q19, .ref q21])), (q7, .inl (c8, 8, .inr (.inr (.inr (.inr f64))))), (q65, .inr (9, [.null, .null, .null, .int 0]))] := hD
  refine W.widen (k := 36) (n := 27054) (by omega) (by omega) ?_
  refine lv_dup hx hb dX4_init_121 rfl ?_
  refine lv_bipush (v := 121) hx hb dX4_init_122 (by decide) ?_
  refine ca_v (wr := [(q, .inr (4, [.ref ac, .int 0, .int 0, .ref q1, .int 0, .int 0, .ref q3, .int 0, .ref q5, .ref q7, .int 0, .ref q9, .ref q11, .ref q13, .ref q15, .ref q17, .ref q19, .ref q21])), (q7, .inl (c8, 8, .inr (.inr (.inr (.inr f64)))))]) (va_runI (As := [.int 121]) (rest := [.ref q65, .int 6, .ref q7]) ⟨hx, hb, hml, hown, ht⟩ (k9_121 l dC dI H.size q65  ) (cwI 1 ht (gdI k_1_104) rfl rfl rfl (ht _ k_1_7) (ht _ k_3_105) (ht _ k_1_103) rfl (by decide +kernel) ⟨Nat.le_of_ble_eq_true rfl, Nat.le_of_ble_eq_true rfl⟩) ⟨pcw_blind, pcw_at hP hD hK [2] [] (by decide) rfl rfl rfl⟩ rfl rfl hl.1 rfl (lv_room (Nat.le_of_ble_eq_true rfl)) dX4_init_124 ⟨Nat.le_of_ble_eq_true rfl, Nat.le_of_ble_eq_true rfl⟩) hP hD hK hS hA [2] [0, 1] rfl rfl (by decide) (by decide) (fun u H locs w67 hK hP hD hS => ?_)
  obtain ⟨F68, rfl⟩ : ∃ z, z = u := ⟨_, rfl⟩
  have hK : va_K (dC, dI) cls [(c2, .int), (c4, .int), (c6, .int), (c8, .object "FinderHouse$Term"), (c10, .int), (c12, .int), (c14, .int), (c16, .int), (c18, .int), (c20, .int), (c22, .int)] s := hK
  have hP : va_P (dC, dI) cls [(q, .inr (4, [.ref ac, .int 0, .int 0, .ref q1, .int 0, .int 0, .ref q3, .int 0, .ref q5, .ref q7, .int 0, .ref q9, .ref q11, .ref q13, .ref q15, .ref q17, .ref q19, .ref q21])), (q7, .inl (c8, 8, .inr (.inr (.inr (.inr f64))))), (q65, .inr (9, F68))] H := hP
  have hD : va_D A [(q, .inr (4, [.ref ac, .int 0, .int 0, .ref q1, .int 0, .int 0, .ref q3, .int 0, .ref q5, .ref q7, .int 0, .ref q9, .ref q11, .ref q13, .ref q15, .ref q17, .ref q19, .ref q21])), (q7, .inl (c8, 8, .inr (.inr (.inr (.inr f64))))), (q65, .inr (9, F68))] := hD
  refine W.widen (k := 39) (n := 27417) (by omega) (by omega) ?_
  obtain ⟨w67, K69, K70⟩ := w67
  refine va_astq (r := (RX9, TX9, 4)) hx hb hK hP hD hS 1 3 2 9 rfl rfl rfl rfl (by unfold vp_in; decide) dX4_init_127 (fun H locs hP hD hS => ?_)
  obtain ⟨f71, ef71⟩ : ∃ g : Nat → Option Nat, g = va_up f64 (6 : Int32).toNatClampNeg (some q65) := ⟨_, rfl⟩
  rw [← ef71] at hP hD
  have hP : va_P (dC, dI) cls [(q, .inr (4, [.ref ac, .int 0, .int 0, .ref q1, .int 0, .int 0, .ref q3, .int 0, .ref q5, .ref q7, .int 0, .ref q9, .ref q11, .ref q13, .ref q15, .ref q17, .ref q19, .ref q21])), (q7, .inl (c8, 8, .inr (.inr (.inr (.inr f71))))), (q65, .inr (9, F68))] H := hP
  have hD : va_D A [(q, .inr (4, [.ref ac, .int 0, .int 0, .ref q1, .int 0, .int 0, .ref q3, .int 0, .ref q5, .ref q7, .int 0, .ref q9, .ref q11, .ref q13, .ref q15, .ref q17, .ref q19, .ref q21])), (q7, .inl (c8, 8, .inr (.inr (.inr (.inr f71))))), (q65, .inr (9, F68))] := hD
  have hP := hP.sub (ws' := [(q, .inr (4, [.ref ac, .int 0, .int 0, .ref q1, .int 0, .int 0, .ref q3, .int 0, .ref q5, .ref q7, .int 0, .ref q9, .ref q11, .ref q13, .ref q15, .ref q17, .ref q19, .ref q21])), (q7, .inl (c8, 8, .inr (.inr (.inr (.inr f71)))))]) [0, 1] rfl
  have hD := hD.sub (ws' := [(q, .inr (4, [.ref ac, .int 0, .int 0, .ref q1, .int 0, .int 0, .ref q3, .int 0, .ref q5, .ref q7, .int 0, .ref q9, .ref q11, .ref q13, .ref q15, .ref q17, .ref q19, .ref q21])), (q7, .inl (c8, 8, .inr (.inr (.inr (.inr f71)))))]) [0, 1] (by decide) rfl
  refine lv_iinc (v := 7) (lv' := [(2, .int 7), (0, .ref q), (1, .ref ac)]) hx hb dX4_init_128 hl (k := 0) rfl (by decide) (by decide) rfl (fun ls hl => ?_)
  refine lv_goto (tgt := 104) hx hb dX4_init_131 (by decide) ?_
  refine lv_iload_n hx hb dX4_init_104 rfl (lv_at hl 0 rfl) ?_
  refine lv_aload_n hx hb dX4_init_105 rfl (lv_at hl 1 rfl) ?_
  refine va_get (D := (dC, dI)) (ci := 4) (v := .ref q7) (C := RX4) (T := TX4) (N := 18) hx hb ht uX4 hown hK hP 0 rfl rfl 9 (by decide) (ht _ k_3_123) (fun _ h9 => h9) rfl dX4_init_106 ?_
  refine va_alen (x := (8, .inr (.inr (.inr (.inr f71))))) (v := 8) hx hb hK hP 1 3 rfl rfl (show Int32.ofNat 8 = 8 by decide) dX4_init_109 ?_
  refine lv_icmp_ge (tgt := 134) hx hb dX4_init_110 (by decide) (fun c0 => absurd c0 (by decide)) (fun _ => ?_)
  refine lv_aload_n hx hb dX4_init_113 rfl (lv_at hl 1 rfl) ?_
  refine va_get (D := (dC, dI)) (ci := 4) (v := .ref q7) (C := RX4) (T := TX4) (N := 18) hx hb ht uX4 hown hK hP 0 rfl rfl 9 (by decide) (ht _ k_3_123) (fun _ h9 => h9) rfl dX4_init_114 ?_
  refine lv_iload_n hx hb dX4_init_117 rfl (lv_at hl 0 rfl) ?_
  refine va_new (ci := 9) (fs := [.null, .null, .null, .int 0]) (C := RX9) (T := TX9) (N := 4) hx hb ht uX9 tyX9 tkX9 hown (ht _ k_3_104) (ht _ k_1_101) (ht _ k_1_7) hK hP hD hS hA rfl (by decide +kernel) (Nat.le_of_ble_eq_true rfl) (Nat.le_of_ble_eq_true rfl) dX4_init_118 (fun q72 H hP hD hS => ?_)
  have hP : va_P (dC, dI) cls [(q, .inr (4, [.ref ac, .int 0, .int 0, .ref q1, .int 0, .int 0, .ref q3, .int 0, .ref q5, .ref q7, .int 0, .ref q9, .ref q11, .ref q13, .ref q15, .ref q17, .ref q19, .ref q21])), (q7, .inl (c8, 8, .inr (.inr (.inr (.inr f71))))), (q72, .inr (9, [.null, .null, .null, .int 0]))] H := hP
  have hD : va_D A [(q, .inr (4, [.ref ac, .int 0, .int 0, .ref q1, .int 0, .int 0, .ref q3, .int 0, .ref q5, .ref q7, .int 0, .ref q9, .ref q11, .ref q13, .ref q15, .ref q17, .ref q19, .ref q21])), (q7, .inl (c8, 8, .inr (.inr (.inr (.inr f71))))), (q72, .inr (9, [.null, .null, .null, .int 0]))] := hD
  refine W.widen (k := 40) (n := 27421) (by omega) (by omega) ?_
  refine lv_dup hx hb dX4_init_121 rfl ?_
  refine lv_bipush (v := 121) hx hb dX4_init_122 (by decide) ?_
  refine ca_v (wr := [(q, .inr (4, [.ref ac, .int 0, .int 0, .ref q1, .int 0, .int 0, .ref q3, .int 0, .ref q5, .ref q7, .int 0, .ref q9, .ref q11, .ref q13, .ref q15, .ref q17, .ref q19, .ref q21])), (q7, .inl (c8, 8, .inr (.inr (.inr (.inr f71)))))]) (va_runI (As := [.int 121]) (rest := [.ref q72, .int 7, .ref q7]) ⟨hx, hb, hml, hown, ht⟩ (k9_121 l dC dI H.size q72  ) (cwI 1 ht (gdI k_1_104) rfl rfl rfl (ht _ k_1_7) (ht _ k_3_105) (ht _ k_1_103) rfl (by decide +kernel) ⟨Nat.le_of_ble_eq_true rfl, Nat.le_of_ble_eq_true rfl⟩) ⟨pcw_blind, pcw_at hP hD hK [2] [] (by decide) rfl rfl rfl⟩ rfl rfl hl.1 rfl (lv_room (Nat.le_of_ble_eq_true rfl)) dX4_init_124 ⟨Nat.le_of_ble_eq_true rfl, Nat.le_of_ble_eq_true rfl⟩) hP hD hK hS hA [2] [0, 1] rfl rfl (by decide) (by decide) (fun u H locs w74 hK hP hD hS => ?_)
  obtain ⟨F75, rfl⟩ : ∃ z, z = u := ⟨_, rfl⟩
  have hK : va_K (dC, dI) cls [(c2, .int), (c4, .int), (c6, .int), (c8, .object "FinderHouse$Term"), (c10, .int), (c12, .int), (c14, .int), (c16, .int), (c18, .int), (c20, .int), (c22, .int)] s := hK
  have hP : va_P (dC, dI) cls [(q, .inr (4, [.ref ac, .int 0, .int 0, .ref q1, .int 0, .int 0, .ref q3, .int 0, .ref q5, .ref q7, .int 0, .ref q9, .ref q11, .ref q13, .ref q15, .ref q17, .ref q19, .ref q21])), (q7, .inl (c8, 8, .inr (.inr (.inr (.inr f71))))), (q72, .inr (9, F75))] H := hP
  have hD : va_D A [(q, .inr (4, [.ref ac, .int 0, .int 0, .ref q1, .int 0, .int 0, .ref q3, .int 0, .ref q5, .ref q7, .int 0, .ref q9, .ref q11, .ref q13, .ref q15, .ref q17, .ref q19, .ref q21])), (q7, .inl (c8, 8, .inr (.inr (.inr (.inr f71))))), (q72, .inr (9, F75))] := hD
  refine W.widen (k := 43) (n := 27784) (by omega) (by omega) ?_
  obtain ⟨w74, K76, K77⟩ := w74
  refine va_astq (r := (RX9, TX9, 4)) hx hb hK hP hD hS 1 3 2 9 rfl rfl rfl rfl (by unfold vp_in; decide) dX4_init_127 (fun H locs hP hD hS => ?_)
  obtain ⟨f78, ef78⟩ : ∃ g : Nat → Option Nat, g = va_up f71 (7 : Int32).toNatClampNeg (some q72) := ⟨_, rfl⟩
  rw [← ef78] at hP hD
  have hP : va_P (dC, dI) cls [(q, .inr (4, [.ref ac, .int 0, .int 0, .ref q1, .int 0, .int 0, .ref q3, .int 0, .ref q5, .ref q7, .int 0, .ref q9, .ref q11, .ref q13, .ref q15, .ref q17, .ref q19, .ref q21])), (q7, .inl (c8, 8, .inr (.inr (.inr (.inr f78))))), (q72, .inr (9, F75))] H := hP
  have hD : va_D A [(q, .inr (4, [.ref ac, .int 0, .int 0, .ref q1, .int 0, .int 0, .ref q3, .int 0, .ref q5, .ref q7, .int 0, .ref q9, .ref q11, .ref q13, .ref q15, .ref q17, .ref q19, .ref q21])), (q7, .inl (c8, 8, .inr (.inr (.inr (.inr f78))))), (q72, .inr (9, F75))] := hD
  have hP := hP.sub (ws' := [(q, .inr (4, [.ref ac, .int 0, .int 0, .ref q1, .int 0, .int 0, .ref q3, .int 0, .ref q5, .ref q7, .int 0, .ref q9, .ref q11, .ref q13, .ref q15, .ref q17, .ref q19, .ref q21])), (q7, .inl (c8, 8, .inr (.inr (.inr (.inr f78)))))]) [0, 1] rfl
  have hD := hD.sub (ws' := [(q, .inr (4, [.ref ac, .int 0, .int 0, .ref q1, .int 0, .int 0, .ref q3, .int 0, .ref q5, .ref q7, .int 0, .ref q9, .ref q11, .ref q13, .ref q15, .ref q17, .ref q19, .ref q21])), (q7, .inl (c8, 8, .inr (.inr (.inr (.inr f78)))))]) [0, 1] (by decide) rfl
  refine lv_iinc (v := 8) (lv' := [(2, .int 8), (0, .ref q), (1, .ref ac)]) hx hb dX4_init_128 hl (k := 0) rfl (by decide) (by decide) rfl (fun ls hl => ?_)
  refine lv_goto (tgt := 104) hx hb dX4_init_131 (by decide) ?_
  refine lv_iload_n hx hb dX4_init_104 rfl (lv_at hl 0 rfl) ?_
  refine lv_aload_n hx hb dX4_init_105 rfl (lv_at hl 1 rfl) ?_
  refine va_get (D := (dC, dI)) (ci := 4) (v := .ref q7) (C := RX4) (T := TX4) (N := 18) hx hb ht uX4 hown hK hP 0 rfl rfl 9 (by decide) (ht _ k_3_123) (fun _ h9 => h9) rfl dX4_init_106 ?_
  refine va_alen (x := (8, .inr (.inr (.inr (.inr f78))))) (v := 8) hx hb hK hP 1 3 rfl rfl (show Int32.ofNat 8 = 8 by decide) dX4_init_109 ?_
  refine lv_icmp_ge (tgt := 134) hx hb dX4_init_110 (by decide) (fun _ => ?_) (fun c0 => absurd c0 (by decide))
  exact W.vret hx hb hr (fun t ht9 hW => ⟨⟨([.ref ac, .int 0, .int 0, .ref q1, .int 0, .int 0, .ref q3, .int 0, .ref q5, .ref q7, .int 0, .ref q9, .ref q11, .ref q13, .ref q15, .ref q17, .ref q19, .ref q21], q1), rfl, ⟨trivial, rfl, rfl, rfl⟩, by rw [ht9]; exact hP.sub [0] rfl, va_K.moved hW.alike (hK.sub [] rfl), hD.sub [0] (by decide) rfl⟩, hS.F ht9⟩) hS.2.2 dX4_init_134
set_option maxHeartbeats 4000000 in
set_option maxRecDepth 100000 in
theorem k6 (l : Launch) (dC : Nat → ClassId) (dI : Nat → Nat → Nat) (sz : Nat) (q : Nat) (ac : Nat)  : Met l yX6_init (Cond.code yX6_init cX6_init 2 none :: tb) ({ frames := 2, cells := 6, slots := 6013, locals := 33 }) (pcw [.ref q, .ref ac] (dC, dI) [(q, .inr (6, [.null, .null, .int 0, .int 0, .int 0, .int 0, .int 0, .int 0, .long 0, .int 0, .int 0, .null, .int 0, .null, .null, .null, .int 0, .int 0, .int 0, .long 0]))] [] sz) (va_Qv (fun (u : (List Value) × Nat × (List Value)) => match u with | (fs1, nd, fn1) => (True) ∧ (fs1.length = 20) ∧ (fs1[11]? = some (.ref nd)) ∧ (fn1.length = 4)) (bw (dC, dI) (va_A [(q, .inr (6, [.null, .null, .int 0, .int 0, .int 0, .int 0, .int 0, .int 0, .long 0, .int 0, .int 0, .null, .int 0, .null, .null, .null, .int 0, .int 0, .int 0, .long 0]))] sz) (fun (u : (List Value) × Nat × (List Value)) => match u with | (fs1, nd, fn1) => [(q, .inr (6, fs1)), (nd, .inr (9, fn1))]) (fun (u : (List Value) × Nat × (List Value)) => match u with | (fs1, nd, fn1) => [])) (va_A [(q, .inr (6, [.null, .null, .int 0, .int 0, .int 0, .int 0, .int 0, .int 0, .long 0, .int 0, .int 0, .null, .int 0, .null, .null, .null, .int 0, .int 0, .int 0, .long 0]))] sz)) 6 6013 (va_A [(q, .inr (6, [.null, .null, .int 0, .int 0, .int 0, .int 0, .int 0, .int 0, .long 0, .int 0, .int 0, .null, .int 0, .null, .null, .null, .int 0, .int 0, .int 0, .long 0]))] sz) := by
  refine Met.ofW (cc := cX6_init) (maxL := 2) (ret := none) (by decide) rfl ?_
  intro p e s m args below meth c s₁ B hml hv
  obtain ⟨rfl, hsz, hP, hK, hD0⟩ := hv
  have hx := B.exec
  have hb := B.bytes
  have hr := B.returns
  have hts := atoms_spec (ws := Cond.code yX6_init cX6_init 2 none :: tb) B.pre
  have ht : ∀ w ∈ tb, w.before _ s = true := fun w h => hts w (List.mem_cons_of_mem _ h)
  have hown : s.vm.findClass RX6 = some m.cls := findClass_of_methodNamed B.named
  have hlocks := B.notSynchronized
  have hin : meth.name = "<init>" := (name_of_methodNamed B.named B.method).1
  subst hsz
  have hD := hD0.self (sz := s.heap.size)
  generalize hAe : va_A [(q, .inr (6, [.null, .null, .int 0, .int 0, .int 0, .int 0, .int 0, .int 0, .long 0, .int 0, .int 0, .null, .int 0, .null, .null, .null, .int 0, .int 0, .int 0, .long 0]))] s.heap.size = A at hD ⊢
  have hA : ∀ q : Nat, s.heap.size ≤ q → A q := fun q h => by rw [← hAe]; exact Or.inr h
  have hS : va_S A s.heap s.heap [] := va_S.rf
  have hl := lv_entry ([.ref q, .ref ac]) (n := 2) (Nat.le_of_ble_eq_true rfl)
  rw [lg_entry_eq]
  generalize (lg_sl ([.ref q, .ref ac]) ++ List.replicate (2 - (lg_sl ([.ref q, .ref ac])).length) Slot.unset).toArray = ls at hl ⊢
  have hl : lv_has ls 2 [(0, .ref q), (1, .ref ac)] := hl
  have hP : va_P (dC, dI) cls [(q, .inr (6, [.null, .null, .int 0, .int 0, .int 0, .int 0, .int 0, .int 0, .long 0, .int 0, .int 0, .null, .int 0, .null, .null, .null, .int 0, .int 0, .int 0, .long 0]))] s.heap := hP
  refine lv_aload_n hx hb dX6_init_0 rfl (lv_at hl 0 rfl) ?_
  refine tk_o hx hb hown ht k_1_209 k_1_36 k_1_37 hml hl.1 dX6_init_1 (Nat.le_of_ble_eq_true rfl) (Nat.le_of_ble_eq_true rfl) ?_
  refine lv_aload_n hx hb dX6_init_4 rfl (lv_at hl 0 rfl) ?_
  refine va_new (ci := 9) (fs := [.null, .null, .null, .int 0]) (C := RX9) (T := TX9) (N := 4) hx hb ht uX9 tyX9 tkX9 hown (ht _ k_1_210) (ht _ k_1_101) (ht _ k_1_7) hK hP hD hS hA rfl (by decide +kernel) (Nat.le_of_ble_eq_true rfl) (Nat.le_of_ble_eq_true rfl) dX6_init_5 (fun q1 H hP hD hS => ?_)
  have hP : va_P (dC, dI) cls [(q, .inr (6, [.null, .null, .int 0, .int 0, .int 0, .int 0, .int 0, .int 0, .long 0, .int 0, .int 0, .null, .int 0, .null, .null, .null, .int 0, .int 0, .int 0, .long 0])), (q1, .inr (9, [.null, .null, .null, .int 0]))] H := hP
  have hD : va_D A [(q, .inr (6, [.null, .null, .int 0, .int 0, .int 0, .int 0, .int 0, .int 0, .long 0, .int 0, .int 0, .null, .int 0, .null, .null, .null, .int 0, .int 0, .int 0, .long 0])), (q1, .inr (9, [.null, .null, .null, .int 0]))] := hD
  refine W.widen (k := 1) (n := 4) (by omega) (by omega) ?_
  refine lv_dup hx hb dX6_init_8 rfl ?_
  refine lv_sipush (v := 2001) hx hb dX6_init_9 (by decide) ?_
  refine ca_v (wr := [(q, .inr (6, [.null, .null, .int 0, .int 0, .int 0, .int 0, .int 0, .int 0, .long 0, .int 0, .int 0, .null, .int 0, .null, .null, .null, .int 0, .int 0, .int 0, .long 0]))]) (va_runI (As := [.int 2001]) (rest := [.ref q1, .ref q]) ⟨hx, hb, hml, hown, ht⟩ (k9_2001 l dC dI H.size q1  ) (cwI 1 ht (gdI k_1_104) rfl rfl rfl (ht _ k_1_7) (ht _ k_1_211) (ht _ k_1_103) rfl (by decide +kernel) ⟨Nat.le_of_ble_eq_true rfl, Nat.le_of_ble_eq_true rfl⟩) ⟨pcw_blind, pcw_at hP hD hK [1] [] (by decide) rfl rfl rfl⟩ rfl rfl hl.1 rfl (lv_room (Nat.le_of_ble_eq_true rfl)) dX6_init_12 ⟨Nat.le_of_ble_eq_true rfl, Nat.le_of_ble_eq_true rfl⟩) hP hD hK hS hA [1] [0] rfl rfl (by decide) (by decide) (fun u H locs w3 hK hP hD hS => ?_)
  obtain ⟨F4, rfl⟩ : ∃ z, z = u := ⟨_, rfl⟩
  have hK : va_K (dC, dI) cls [] s := hK
  have hP : va_P (dC, dI) cls [(q, .inr (6, [.null, .null, .int 0, .int 0, .int 0, .int 0, .int 0, .int 0, .long 0, .int 0, .int 0, .null, .int 0, .null, .null, .null, .int 0, .int 0, .int 0, .long 0])), (q1, .inr (9, F4))] H := hP
  have hD : va_D A [(q, .inr (6, [.null, .null, .int 0, .int 0, .int 0, .int 0, .int 0, .int 0, .long 0, .int 0, .int 0, .null, .int 0, .null, .null, .null, .int 0, .int 0, .int 0, .long 0])), (q1, .inr (9, F4))] := hD
  refine W.widen (k := 4) (n := 6007) (by omega) (by omega) ?_
  obtain ⟨w3, K5, K6⟩ := w3
  refine va_putF (D := (dC, dI)) (ci := 6) (v := .ref q1) (ty := .object "FinderHouse$Term") (C := RX6) (T := TX6) (N := 20) hx hb ht uX6 tyX6 tkX6 nmX6 hown hK hP hD hS 0 rfl rfl 11 (by decide) (ht _ k_1_225) (fun _ h9 => h9) rfl hin rfl (by decide +kernel) rfl rfl (Nat.le_of_ble_eq_true rfl) dX6_init_15 (fun H locs hP hD hS => ?_)
  have hP : va_P (dC, dI) cls [(q, .inr (6, [.null, .null, .int 0, .int 0, .int 0, .int 0, .int 0, .int 0, .long 0, .int 0, .int 0, .ref q1, .int 0, .null, .null, .null, .int 0, .int 0, .int 0, .long 0])), (q1, .inr (9, F4))] H := hP
  have hD : va_D A [(q, .inr (6, [.null, .null, .int 0, .int 0, .int 0, .int 0, .int 0, .int 0, .long 0, .int 0, .int 0, .ref q1, .int 0, .null, .null, .null, .int 0, .int 0, .int 0, .long 0])), (q1, .inr (9, F4))] := hD
  refine lv_aload_n hx hb dX6_init_18 rfl (lv_at hl 0 rfl) ?_
  refine lv_iconst (v := 3) hx hb dX6_init_19 (by decide) ?_
  refine va_newa (atype := .int) (ty := .int) (N' := 3) (a0 := (3, .inl (fun _ => 0))) hx hb (ht _ k_1_139) rfl hK hP hD hS hA (fun _ => rfl) (by decide) (by decide) (Nat.le_of_ble_eq_true rfl) (Nat.le_of_ble_eq_true rfl) (Nat.le_of_ble_eq_true rfl) dX6_init_20 (fun q7 c8 H hK hP hD hS => ?_)
  have hK : va_K (dC, dI) cls [(c8, .int)] s := hK
  have hP : va_P (dC, dI) cls [(q, .inr (6, [.null, .null, .int 0, .int 0, .int 0, .int 0, .int 0, .int 0, .long 0, .int 0, .int 0, .ref q1, .int 0, .null, .null, .null, .int 0, .int 0, .int 0, .long 0])), (q1, .inr (9, F4)), (q7, .inl (c8, 3, .inl (fun _ => 0)))] H := hP
  have hD : va_D A [(q, .inr (6, [.null, .null, .int 0, .int 0, .int 0, .int 0, .int 0, .int 0, .long 0, .int 0, .int 0, .ref q1, .int 0, .null, .null, .null, .int 0, .int 0, .int 0, .long 0])), (q1, .inr (9, F4)), (q7, .inl (c8, 3, .inl (fun _ => 0)))] := hD
  refine W.widen (k := 5) (n := 6010) (by omega) (by omega) ?_
  refine va_putF (D := (dC, dI)) (ci := 6) (v := .ref q7) (ty := .array .int) (C := RX6) (T := TX6) (N := 20) hx hb ht uX6 tyX6 tkX6 nmX6 hown hK hP hD hS 0 rfl rfl 13 (by decide) (ht _ k_1_229) (fun _ h9 => h9) rfl hin rfl (by decide +kernel) rfl rfl (Nat.le_of_ble_eq_true rfl) dX6_init_22 (fun H locs hP hD hS => ?_)
  have hP : va_P (dC, dI) cls [(q, .inr (6, [.null, .null, .int 0, .int 0, .int 0, .int 0, .int 0, .int 0, .long 0, .int 0, .int 0, .ref q1, .int 0, .ref q7, .null, .null, .int 0, .int 0, .int 0, .long 0])), (q1, .inr (9, F4)), (q7, .inl (c8, 3, .inl (fun _ => 0)))] H := hP
  have hD : va_D A [(q, .inr (6, [.null, .null, .int 0, .int 0, .int 0, .int 0, .int 0, .int 0, .long 0, .int 0, .int 0, .ref q1, .int 0, .ref q7, .null, .null, .int 0, .int 0, .int 0, .long 0])), (q1, .inr (9, F4)), (q7, .inl (c8, 3, .inl (fun _ => 0)))] := hD
  have hP := hP.sub (ws' := [(q, .inr (6, [.null, .null, .int 0, .int 0, .int 0, .int 0, .int 0, .int 0, .long 0, .int 0, .int 0, .ref q1, .int 0, .ref q7, .null, .null, .int 0, .int 0, .int 0, .long 0])), (q1, .inr (9, F4))]) [0, 1] rfl
  have hD := hD.sub (ws' := [(q, .inr (6, [.null, .null, .int 0, .int 0, .int 0, .int 0, .int 0, .int 0, .long 0, .int 0, .int 0, .ref q1, .int 0, .ref q7, .null, .null, .int 0, .int 0, .int 0, .long 0])), (q1, .inr (9, F4))]) [0, 1] (by decide) rfl
  refine lv_aload_n hx hb dX6_init_25 rfl (lv_at hl 0 rfl) ?_
  refine lv_iconst (v := 3) hx hb dX6_init_26 (by decide) ?_
  refine va_newa (atype := .long) (ty := .long) (N' := 3) (a0 := (3, .inr (.inl (fun _ => 0)))) hx hb (ht _ k_1_138) rfl hK hP hD hS hA (fun _ => rfl) (by decide) (by decide) (Nat.le_of_ble_eq_true rfl) (Nat.le_of_ble_eq_true rfl) (Nat.le_of_ble_eq_true rfl) dX6_init_27 (fun q9 c10 H hK hP hD hS => ?_)
  have hK : va_K (dC, dI) cls [(c8, .int), (c10, .long)] s := hK
  have hP : va_P (dC, dI) cls [(q, .inr (6, [.null, .null, .int 0, .int 0, .int 0, .int 0, .int 0, .int 0, .long 0, .int 0, .int 0, .ref q1, .int 0, .ref q7, .null, .null, .int 0, .int 0, .int 0, .long 0])), (q1, .inr (9, F4)), (q9, .inl (c10, 3, .inr (.inl (fun _ => 0))))] H := hP
  have hD : va_D A [(q, .inr (6, [.null, .null, .int 0, .int 0, .int 0, .int 0, .int 0, .int 0, .long 0, .int 0, .int 0, .ref q1, .int 0, .ref q7, .null, .null, .int 0, .int 0, .int 0, .long 0])), (q1, .inr (9, F4)), (q9, .inl (c10, 3, .inr (.inl (fun _ => 0))))] := hD
  refine W.widen (k := 6) (n := 6013) (by omega) (by omega) ?_
  refine va_putF (D := (dC, dI)) (ci := 6) (v := .ref q9) (ty := .array .long) (C := RX6) (T := TX6) (N := 20) hx hb ht uX6 tyX6 tkX6 nmX6 hown hK hP hD hS 0 rfl rfl 14 (by decide) (ht _ k_1_231) (fun _ h9 => h9) rfl hin rfl (by decide +kernel) rfl rfl (Nat.le_of_ble_eq_true rfl) dX6_init_29 (fun H locs hP hD hS => ?_)
  have hP : va_P (dC, dI) cls [(q, .inr (6, [.null, .null, .int 0, .int 0, .int 0, .int 0, .int 0, .int 0, .long 0, .int 0, .int 0, .ref q1, .int 0, .ref q7, .ref q9, .null, .int 0, .int 0, .int 0, .long 0])), (q1, .inr (9, F4)), (q9, .inl (c10, 3, .inr (.inl (fun _ => 0))))] H := hP
  have hD : va_D A [(q, .inr (6, [.null, .null, .int 0, .int 0, .int 0, .int 0, .int 0, .int 0, .long 0, .int 0, .int 0, .ref q1, .int 0, .ref q7, .ref q9, .null, .int 0, .int 0, .int 0, .long 0])), (q1, .inr (9, F4)), (q9, .inl (c10, 3, .inr (.inl (fun _ => 0))))] := hD
  have hP := hP.sub (ws' := [(q, .inr (6, [.null, .null, .int 0, .int 0, .int 0, .int 0, .int 0, .int 0, .long 0, .int 0, .int 0, .ref q1, .int 0, .ref q7, .ref q9, .null, .int 0, .int 0, .int 0, .long 0])), (q1, .inr (9, F4))]) [0, 1] rfl
  have hD := hD.sub (ws' := [(q, .inr (6, [.null, .null, .int 0, .int 0, .int 0, .int 0, .int 0, .int 0, .long 0, .int 0, .int 0, .ref q1, .int 0, .ref q7, .ref q9, .null, .int 0, .int 0, .int 0, .long 0])), (q1, .inr (9, F4))]) [0, 1] (by decide) rfl
  refine lv_aload_n hx hb dX6_init_32 rfl (lv_at hl 0 rfl) ?_
  refine lv_aload_n hx hb dX6_init_33 rfl (lv_at hl 1 rfl) ?_
  refine va_putF (D := (dC, dI)) (ci := 6) (v := .ref ac) (ty := .object "FinderHouse$Acts") (C := RX6) (T := TX6) (N := 20) hx hb ht uX6 tyX6 tkX6 nmX6 hown hK hP hD hS 0 rfl rfl 0 (by decide) (ht _ k_1_212) (fun _ h9 => h9) rfl hin rfl (by decide +kernel) rfl rfl (Nat.le_of_ble_eq_true rfl) dX6_init_34 (fun H locs hP hD hS => ?_)
  have hP : va_P (dC, dI) cls [(q, .inr (6, [.ref ac, .null, .int 0, .int 0, .int 0, .int 0, .int 0, .int 0, .long 0, .int 0, .int 0, .ref q1, .int 0, .ref q7, .ref q9, .null, .int 0, .int 0, .int 0, .long 0])), (q1, .inr (9, F4))] H := hP
  have hD : va_D A [(q, .inr (6, [.ref ac, .null, .int 0, .int 0, .int 0, .int 0, .int 0, .int 0, .long 0, .int 0, .int 0, .ref q1, .int 0, .ref q7, .ref q9, .null, .int 0, .int 0, .int 0, .long 0])), (q1, .inr (9, F4))] := hD
  exact W.vret hx hb hr (fun t ht9 hW => ⟨⟨([.ref ac, .null, .int 0, .int 0, .int 0, .int 0, .int 0, .int 0, .long 0, .int 0, .int 0, .ref q1, .int 0, .ref q7, .ref q9, .null, .int 0, .int 0, .int 0, .long 0], q1, F4), rfl, ⟨trivial, rfl, rfl, K5⟩, by rw [ht9]; exact hP.sub [0, 1] rfl, va_K.moved hW.alike (hK.sub [] rfl), hD.sub [0, 1] (by decide) rfl⟩, hS.F ht9⟩) hS.2.2 dX6_init_37
