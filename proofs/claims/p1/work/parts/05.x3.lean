theorem dX2_put_0 : decode cX2_put 0 = .ok (.aload_n 0, 1) := by decide +kernel
theorem dX2_put_1 : decode cX2_put 1 = .ok (.getfield 22, 3) := by decide +kernel
theorem dX2_put_4 : decode cX2_put 4 = .ok (.aload_n 0, 1) := by decide +kernel
theorem k_4_66 : Jvm.Cond.fieldLink "FinderHouse$Disk" (15 : Nat) "FinderHouse$Disk" "wait" "[B" ∈ tb := tb4 66 (by decide +kernel) (by decide +kernel)
theorem dX2_put_5 : decode cX2_put 5 = .ok (.getfield 15, 3) := by decide +kernel
theorem dX2_put_8 : decode cX2_put 8 = .ok (.arraylength, 1) := by decide +kernel
theorem dX2_put_9 : decode cX2_put 9 = .ok (.if_icmp .ge 24, 3) := by decide +kernel
theorem dX2_put_12 : decode cX2_put 12 = .ok (.aload_n 0, 1) := by decide +kernel
theorem dX2_put_13 : decode cX2_put 13 = .ok (.getfield 15, 3) := by decide +kernel
theorem dX2_put_16 : decode cX2_put 16 = .ok (.aload_n 0, 1) := by decide +kernel
theorem dX2_put_17 : decode cX2_put 17 = .ok (.getfield 22, 3) := by decide +kernel
theorem dX2_put_20 : decode cX2_put 20 = .ok (.iload_n 1, 1) := by decide +kernel
theorem dX2_put_21 : decode cX2_put 21 = .ok (.i2b, 1) := by decide +kernel
theorem dX2_put_22 : decode cX2_put 22 = .ok (.bastore, 1) := by decide +kernel
theorem dX2_put_23 : decode cX2_put 23 = .ok (.aload_n 0, 1) := by decide +kernel
theorem dX2_put_24 : decode cX2_put 24 = .ok (.dup, 1) := by decide +kernel
theorem dX2_put_25 : decode cX2_put 25 = .ok (.getfield 22, 3) := by decide +kernel
theorem dX2_put_28 : decode cX2_put 28 = .ok (.iconst 1, 1) := by decide +kernel
theorem dX2_put_29 : decode cX2_put 29 = .ok (.iadd, 1) := by decide +kernel
theorem dX2_put_30 : decode cX2_put 30 = .ok (.putfield 22, 3) := by decide +kernel
theorem dX2_put_33 : decode cX2_put 33 = .ok (.return_, 1) := by decide +kernel
theorem dX2_record_0 : decode cX2_record 0 = .ok (.aload_n 0, 1) := by decide +kernel
theorem dX2_record_1 : decode cX2_record 1 = .ok (.iload_n 1, 1) := by decide +kernel
theorem k_5_219 : Jvm.Cond.code ({ cls := "FinderHouse$Disk", name := "put", desc := "(I)V" } : Jvm.MethodName) prog_4_method_6_code (2 : Nat) (Option.none : Option Jvm.ClassFile.FieldType) ∈ tb := tb5 219 (by decide +kernel) (by decide +kernel)
theorem k_5_216 : Jvm.Cond.methodLink "FinderHouse$Disk" (28 : Nat) ({ cls := "FinderHouse$Disk", name := "put", desc := "(I)V" } : Jvm.MethodName) ∈ tb := tb5 216 (by decide +kernel) (by decide +kernel)
theorem k_5_217 : Jvm.Cond.instanceMethod ({ cls := "FinderHouse$Disk", name := "put", desc := "(I)V" } : Jvm.MethodName) ∈ tb := tb5 217 (by decide +kernel) (by decide +kernel)
theorem k_5_218 : Jvm.Cond.selects "FinderHouse$Disk" ({ cls := "FinderHouse$Disk", name := "put", desc := "(I)V" } : Jvm.MethodName) ({ cls := "FinderHouse$Disk", name := "put", desc := "(I)V" } : Jvm.MethodName) ∈ tb := tb5 218 (by decide +kernel) (by decide +kernel)
theorem dX2_record_2 : decode cX2_record 2 = .ok (.invokevirtual 28, 3) := by decide +kernel
theorem dX2_record_5 : decode cX2_record 5 = .ok (.aload_n 0, 1) := by decide +kernel
theorem dX2_record_6 : decode cX2_record 6 = .ok (.iload_n 2, 1) := by decide +kernel
theorem dX2_record_7 : decode cX2_record 7 = .ok (.bipush 8, 2) := by decide +kernel
theorem dX2_record_9 : decode cX2_record 9 = .ok (.ishr, 1) := by decide +kernel
theorem dX2_record_10 : decode cX2_record 10 = .ok (.invokevirtual 28, 3) := by decide +kernel
theorem dX2_record_13 : decode cX2_record 13 = .ok (.aload_n 0, 1) := by decide +kernel
theorem dX2_record_14 : decode cX2_record 14 = .ok (.iload_n 2, 1) := by decide +kernel
theorem dX2_record_15 : decode cX2_record 15 = .ok (.invokevirtual 28, 3) := by decide +kernel
theorem dX2_record_18 : decode cX2_record 18 = .ok (.aload_n 0, 1) := by decide +kernel
theorem dX2_record_19 : decode cX2_record 19 = .ok (.dup, 1) := by decide +kernel
theorem dX2_record_20 : decode cX2_record 20 = .ok (.getfield 32, 3) := by decide +kernel
theorem dX2_record_23 : decode cX2_record 23 = .ok (.iconst 1, 1) := by decide +kernel
theorem dX2_record_24 : decode cX2_record 24 = .ok (.iadd, 1) := by decide +kernel
theorem dX2_record_25 : decode cX2_record 25 = .ok (.putfield 32, 3) := by decide +kernel
theorem dX2_record_28 : decode cX2_record 28 = .ok (.return_, 1) := by decide +kernel
theorem dX2_putAll_0 : decode cX2_putAll 0 = .ok (.iload_n 2, 1) := by decide +kernel
theorem dX2_putAll_1 : decode cX2_putAll 1 = .ok (.istore 4, 2) := by decide +kernel
theorem dX2_putAll_3 : decode cX2_putAll 3 = .ok (.iload 4, 2) := by decide +kernel
theorem dX2_putAll_5 : decode cX2_putAll 5 = .ok (.iload_n 2, 1) := by decide +kernel
theorem dX2_putAll_6 : decode cX2_putAll 6 = .ok (.iload_n 3, 1) := by decide +kernel
theorem dX2_putAll_7 : decode cX2_putAll 7 = .ok (.iadd, 1) := by decide +kernel
theorem dX2_putAll_8 : decode cX2_putAll 8 = .ok (.if_icmp .ge 24, 3) := by decide +kernel
theorem dX2_putAll_32 : decode cX2_putAll 32 = .ok (.return_, 1) := by decide +kernel
theorem dX2_hasRoom_0 : decode cX2_hasRoom 0 = .ok (.aload_n 0, 1) := by decide +kernel
theorem dX2_hasRoom_1 : decode cX2_hasRoom 1 = .ok (.getfield 22, 3) := by decide +kernel
theorem dX2_hasRoom_4 : decode cX2_hasRoom 4 = .ok (.iconst 3, 1) := by decide +kernel
theorem dX2_hasRoom_5 : decode cX2_hasRoom 5 = .ok (.iadd, 1) := by decide +kernel
theorem dX2_hasRoom_6 : decode cX2_hasRoom 6 = .ok (.iload_n 1, 1) := by decide +kernel
theorem dX2_hasRoom_7 : decode cX2_hasRoom 7 = .ok (.iadd, 1) := by decide +kernel
theorem dX2_hasRoom_8 : decode cX2_hasRoom 8 = .ok (.sipush 200, 3) := by decide +kernel
theorem dX2_hasRoom_11 : decode cX2_hasRoom 11 = .ok (.aload_n 0, 1) := by decide +kernel
theorem dX2_hasRoom_12 : decode cX2_hasRoom 12 = .ok (.getfield 25, 3) := by decide +kernel
theorem dX2_hasRoom_15 : decode cX2_hasRoom 15 = .ok (.isub, 1) := by decide +kernel
theorem dX2_hasRoom_16 : decode cX2_hasRoom 16 = .ok (.bipush 121, 2) := by decide +kernel
theorem dX2_hasRoom_18 : decode cX2_hasRoom 18 = .ok (.imul, 1) := by decide +kernel
theorem dX2_hasRoom_19 : decode cX2_hasRoom 19 = .ok (.if_icmp .gt 7, 3) := by decide +kernel
theorem dX2_hasRoom_22 : decode cX2_hasRoom 22 = .ok (.iconst 1, 1) := by decide +kernel
theorem dX2_hasRoom_23 : decode cX2_hasRoom 23 = .ok (.goto 4, 3) := by decide +kernel
theorem dX2_hasRoom_27 : decode cX2_hasRoom 27 = .ok (.ireturn, 1) := by decide +kernel
theorem dX5_isFull_0 : decode cX5_isFull 0 = .ok (.aload_n 0, 1) := by decide +kernel
theorem k_4_7 : Jvm.Cond.fieldLink "FinderHouse$Machines" (43 : Nat) "FinderHouse$Machines" "words" "I" ∈ tb := tb4 7 (by decide +kernel) (by decide +kernel)
theorem dX5_isFull_1 : decode cX5_isFull 1 = .ok (.getfield 43, 3) := by decide +kernel
theorem dX5_isFull_4 : decode cX5_isFull 4 = .ok (.bipush 20, 2) := by decide +kernel
theorem dX5_isFull_6 : decode cX5_isFull 6 = .ok (.if_icmp .lt 7, 3) := by decide +kernel
theorem dX5_isFull_13 : decode cX5_isFull 13 = .ok (.iconst 0, 1) := by decide +kernel
theorem dX5_isFull_14 : decode cX5_isFull 14 = .ok (.ireturn, 1) := by decide +kernel
theorem dX5_bitsOf_0 : decode cX5_bitsOf 0 = .ok (.iconst 0, 1) := by decide +kernel
theorem dX5_bitsOf_1 : decode cX5_bitsOf 1 = .ok (.istore_n 3, 1) := by decide +kernel
theorem dX5_bitsOf_2 : decode cX5_bitsOf 2 = .ok (.iload_n 2, 1) := by decide +kernel
theorem dX5_bitsOf_3 : decode cX5_bitsOf 3 = .ok (.iconst 1, 1) := by decide +kernel
theorem dX5_bitsOf_4 : decode cX5_bitsOf 4 = .ok (.isub, 1) := by decide +kernel
theorem dX5_bitsOf_5 : decode cX5_bitsOf 5 = .ok (.istore 4, 2) := by decide +kernel
theorem dX5_bitsOf_7 : decode cX5_bitsOf 7 = .ok (.iload 4, 2) := by decide +kernel
theorem dX5_bitsOf_9 : decode cX5_bitsOf 9 = .ok (.ifCond .lt 30, 3) := by decide +kernel
theorem dX5_bitsOf_39 : decode cX5_bitsOf 39 = .ok (.iload_n 3, 1) := by decide +kernel
theorem dX5_bitsOf_40 : decode cX5_bitsOf 40 = .ok (.ireturn, 1) := by decide +kernel
theorem dX5_wordTold_0 : decode cX5_wordTold 0 = .ok (.aload_n 1, 1) := by decide +kernel
theorem dX5_wordTold_1 : decode cX5_wordTold 1 = .ok (.iload_n 2, 1) := by decide +kernel
theorem dX5_wordTold_2 : decode cX5_wordTold 2 = .ok (.iload_n 3, 1) := by decide +kernel
theorem k_8_168 : Jvm.Cond.code ({ cls := "FinderHouse$Machines", name := "bitsOf", desc := "([BII)I" } : Jvm.MethodName) prog_7_method_3_code (5 : Nat) (Option.some Jvm.ClassFile.FieldType.int) ∈ tb := tb8 168 (by decide +kernel) (by decide +kernel)
theorem k_8_166 : Jvm.Cond.methodLink "FinderHouse$Machines" (47 : Nat) ({ cls := "FinderHouse$Machines", name := "bitsOf", desc := "([BII)I" } : Jvm.MethodName) ∈ tb := tb8 166 (by decide +kernel) (by decide +kernel)
theorem k_8_167 : Jvm.Cond.static ({ cls := "FinderHouse$Machines", name := "bitsOf", desc := "([BII)I" } : Jvm.MethodName) ∈ tb := tb8 167 (by decide +kernel) (by decide +kernel)
theorem dX5_wordTold_3 : decode cX5_wordTold 3 = .ok (.invokestatic 47, 3) := by decide +kernel
theorem dX5_wordTold_6 : decode cX5_wordTold 6 = .ok (.istore 4, 2) := by decide +kernel
theorem dX5_wordTold_8 : decode cX5_wordTold 8 = .ok (.iconst 0, 1) := by decide +kernel
theorem dX5_wordTold_9 : decode cX5_wordTold 9 = .ok (.istore 5, 2) := by decide +kernel
theorem dX5_wordTold_11 : decode cX5_wordTold 11 = .ok (.iload 5, 2) := by decide +kernel
theorem dX5_wordTold_13 : decode cX5_wordTold 13 = .ok (.aload_n 0, 1) := by decide +kernel
theorem dX5_wordTold_14 : decode cX5_wordTold 14 = .ok (.getfield 43, 3) := by decide +kernel
theorem dX5_wordTold_17 : decode cX5_wordTold 17 = .ok (.if_icmp .ge 40, 3) := by decide +kernel
theorem dX5_wordTold_57 : decode cX5_wordTold 57 = .ok (.iconst (-1), 1) := by decide +kernel
theorem dX5_wordTold_58 : decode cX5_wordTold 58 = .ok (.ireturn, 1) := by decide +kernel
theorem dX5_addWord_0 : decode cX5_addWord 0 = .ok (.aload_n 0, 1) := by decide +kernel
theorem k_8_172 : Jvm.Cond.code ({ cls := "FinderHouse$Machines", name := "isFull", desc := "()Z" } : Jvm.MethodName) prog_7_method_2_code (1 : Nat) (Option.some Jvm.ClassFile.FieldType.boolean) ∈ tb := tb8 172 (by decide +kernel) (by decide +kernel)
theorem k_8_177 : Jvm.Cond.methodLink "FinderHouse$Machines" (51 : Nat) ({ cls := "FinderHouse$Machines", name := "isFull", desc := "()Z" } : Jvm.MethodName) ∈ tb := tb8 177 (by decide +kernel) (by decide +kernel)
theorem k_8_170 : Jvm.Cond.instanceMethod ({ cls := "FinderHouse$Machines", name := "isFull", desc := "()Z" } : Jvm.MethodName) ∈ tb := tb8 170 (by decide +kernel) (by decide +kernel)
theorem k_8_171 : Jvm.Cond.selects "FinderHouse$Machines" ({ cls := "FinderHouse$Machines", name := "isFull", desc := "()Z" } : Jvm.MethodName) ({ cls := "FinderHouse$Machines", name := "isFull", desc := "()Z" } : Jvm.MethodName) ∈ tb := tb8 171 (by decide +kernel) (by decide +kernel)
theorem dX5_addWord_1 : decode cX5_addWord 1 = .ok (.invokevirtual 51, 3) := by decide +kernel
theorem dX5_addWord_4 : decode cX5_addWord 4 = .ok (.ifCond .ne 55, 3) := by decide +kernel
theorem dX5_addWord_7 : decode cX5_addWord 7 = .ok (.iload_n 3, 1) := by decide +kernel
theorem dX5_addWord_8 : decode cX5_addWord 8 = .ok (.bipush 8, 2) := by decide +kernel
theorem dX5_addWord_10 : decode cX5_addWord 10 = .ok (.if_icmp .gt 49, 3) := by decide +kernel
theorem dX5_addWord_13 : decode cX5_addWord 13 = .ok (.aload_n 0, 1) := by decide +kernel
theorem k_4_9 : Jvm.Cond.fieldLink "FinderHouse$Machines" (11 : Nat) "FinderHouse$Machines" "letters" "[I" ∈ tb := tb4 9 (by decide +kernel) (by decide +kernel)
theorem dX5_addWord_14 : decode cX5_addWord 14 = .ok (.getfield 11, 3) := by decide +kernel
theorem dX5_addWord_17 : decode cX5_addWord 17 = .ok (.aload_n 0, 1) := by decide +kernel
theorem dX5_addWord_18 : decode cX5_addWord 18 = .ok (.getfield 43, 3) := by decide +kernel
theorem dX5_addWord_21 : decode cX5_addWord 21 = .ok (.aload_n 1, 1) := by decide +kernel
theorem dX5_addWord_22 : decode cX5_addWord 22 = .ok (.iload_n 2, 1) := by decide +kernel
theorem dX5_addWord_23 : decode cX5_addWord 23 = .ok (.iload_n 3, 1) := by decide +kernel
theorem dX5_addWord_24 : decode cX5_addWord 24 = .ok (.invokestatic 47, 3) := by decide +kernel
theorem dX5_addWord_27 : decode cX5_addWord 27 = .ok (.iastore, 1) := by decide +kernel
theorem dX5_addWord_28 : decode cX5_addWord 28 = .ok (.aload_n 0, 1) := by decide +kernel
theorem k_4_10 : Jvm.Cond.fieldLink "FinderHouse$Machines" (15 : Nat) "FinderHouse$Machines" "sizes" "[I" ∈ tb := tb4 10 (by decide +kernel) (by decide +kernel)
theorem dX5_addWord_29 : decode cX5_addWord 29 = .ok (.getfield 15, 3) := by decide +kernel
theorem dX5_addWord_32 : decode cX5_addWord 32 = .ok (.aload_n 0, 1) := by decide +kernel
theorem dX5_addWord_33 : decode cX5_addWord 33 = .ok (.getfield 43, 3) := by decide +kernel
theorem dX5_addWord_36 : decode cX5_addWord 36 = .ok (.iload_n 3, 1) := by decide +kernel
theorem dX5_addWord_37 : decode cX5_addWord 37 = .ok (.iastore, 1) := by decide +kernel
theorem dX5_addWord_38 : decode cX5_addWord 38 = .ok (.aload_n 0, 1) := by decide +kernel
theorem k_4_11 : Jvm.Cond.fieldLink "FinderHouse$Machines" (18 : Nat) "FinderHouse$Machines" "goods" "[I" ∈ tb := tb4 11 (by decide +kernel) (by decide +kernel)
theorem dX5_addWord_39 : decode cX5_addWord 39 = .ok (.getfield 18, 3) := by decide +kernel
theorem dX5_addWord_42 : decode cX5_addWord 42 = .ok (.aload_n 0, 1) := by decide +kernel
theorem dX5_addWord_43 : decode cX5_addWord 43 = .ok (.getfield 43, 3) := by decide +kernel
theorem dX5_addWord_46 : decode cX5_addWord 46 = .ok (.iload 4, 2) := by decide +kernel
theorem dX5_addWord_48 : decode cX5_addWord 48 = .ok (.iastore, 1) := by decide +kernel
theorem dX5_addWord_49 : decode cX5_addWord 49 = .ok (.aload_n 0, 1) := by decide +kernel
theorem dX5_addWord_50 : decode cX5_addWord 50 = .ok (.dup, 1) := by decide +kernel
theorem dX5_addWord_51 : decode cX5_addWord 51 = .ok (.getfield 43, 3) := by decide +kernel
theorem dX5_addWord_54 : decode cX5_addWord 54 = .ok (.iconst 1, 1) := by decide +kernel
theorem dX5_addWord_55 : decode cX5_addWord 55 = .ok (.iadd, 1) := by decide +kernel
theorem dX5_addWord_56 : decode cX5_addWord 56 = .ok (.putfield 43, 3) := by decide +kernel
theorem dX5_addWord_59 : decode cX5_addWord 59 = .ok (.return_, 1) := by decide +kernel
theorem dX11_addWord_0 : decode cX11_addWord 0 = .ok (.iload_n 3, 1) := by decide +kernel
theorem dX11_addWord_1 : decode cX11_addWord 1 = .ok (.ifCond .lt 20, 3) := by decide +kernel
theorem dX11_addWord_4 : decode cX11_addWord 4 = .ok (.iload_n 3, 1) := by decide +kernel
theorem dX11_addWord_5 : decode cX11_addWord 5 = .ok (.bipush 8, 2) := by decide +kernel
theorem dX11_addWord_7 : decode cX11_addWord 7 = .ok (.if_icmp .gt 14, 3) := by decide +kernel
theorem dX11_addWord_10 : decode cX11_addWord 10 = .ok (.aload_n 1, 1) := by decide +kernel
theorem dX11_addWord_11 : decode cX11_addWord 11 = .ok (.iload_n 2, 1) := by decide +kernel
theorem dX11_addWord_12 : decode cX11_addWord 12 = .ok (.iload_n 3, 1) := by decide +kernel
theorem dX11_addWord_13 : decode cX11_addWord 13 = .ok (.bipush 98, 2) := by decide +kernel
theorem dX11_addWord_15 : decode cX11_addWord 15 = .ok (.invokestatic 424, 3) := by decide +kernel
theorem dX11_addWord_18 : decode cX11_addWord 18 = .ok (.ifCond .ne 5, 3) := by decide +kernel
theorem dX11_addWord_23 : decode cX11_addWord 23 = .ok (.aload_n 0, 1) := by decide +kernel
theorem dX11_addWord_24 : decode cX11_addWord 24 = .ok (.getfield 77, 3) := by decide +kernel
theorem dX11_addWord_27 : decode cX11_addWord 27 = .ok (.aload_n 1, 1) := by decide +kernel
theorem dX11_addWord_28 : decode cX11_addWord 28 = .ok (.iload_n 2, 1) := by decide +kernel
theorem dX11_addWord_29 : decode cX11_addWord 29 = .ok (.iload_n 3, 1) := by decide +kernel
theorem k_8_165 : Jvm.Cond.code ({ cls := "FinderHouse$Machines", name := "wordTold", desc := "([BII)I" } : Jvm.MethodName) prog_7_method_4_code (6 : Nat) (Option.some Jvm.ClassFile.FieldType.int) ∈ tb := tb8 165 (by decide +kernel) (by decide +kernel)
theorem k_8_162 : Jvm.Cond.methodLink "FinderHouse" (465 : Nat) ({ cls := "FinderHouse$Machines", name := "wordTold", desc := "([BII)I" } : Jvm.MethodName) ∈ tb := tb8 162 (by decide +kernel) (by decide +kernel)
theorem k_8_163 : Jvm.Cond.instanceMethod ({ cls := "FinderHouse$Machines", name := "wordTold", desc := "([BII)I" } : Jvm.MethodName) ∈ tb := tb8 163 (by decide +kernel) (by decide +kernel)
theorem k_8_164 : Jvm.Cond.selects "FinderHouse$Machines" ({ cls := "FinderHouse$Machines", name := "wordTold", desc := "([BII)I" } : Jvm.MethodName) ({ cls := "FinderHouse$Machines", name := "wordTold", desc := "([BII)I" } : Jvm.MethodName) ∈ tb := tb8 164 (by decide +kernel) (by decide +kernel)
theorem dX11_addWord_30 : decode cX11_addWord 30 = .ok (.invokevirtual 465, 3) := by decide +kernel
theorem dX11_addWord_33 : decode cX11_addWord 33 = .ok (.istore 6, 2) := by decide +kernel
theorem dX11_addWord_35 : decode cX11_addWord 35 = .ok (.iload 6, 2) := by decide +kernel
theorem dX11_addWord_37 : decode cX11_addWord 37 = .ok (.ifCond .lt 23, 3) := by decide +kernel
theorem dX11_addWord_60 : decode cX11_addWord 60 = .ok (.aload_n 0, 1) := by decide +kernel
theorem dX11_addWord_61 : decode cX11_addWord 61 = .ok (.getfield 77, 3) := by decide +kernel
theorem k_8_169 : Jvm.Cond.methodLink "FinderHouse" (469 : Nat) ({ cls := "FinderHouse$Machines", name := "isFull", desc := "()Z" } : Jvm.MethodName) ∈ tb := tb8 169 (by decide +kernel) (by decide +kernel)
theorem dX11_addWord_64 : decode cX11_addWord 64 = .ok (.invokevirtual 469, 3) := by decide +kernel
theorem dX11_addWord_67 : decode cX11_addWord 67 = .ok (.ifCond .ne 21, 3) := by decide +kernel
theorem dX11_addWord_70 : decode cX11_addWord 70 = .ok (.iload 5, 2) := by decide +kernel
theorem dX11_addWord_72 : decode cX11_addWord 72 = .ok (.ifCond .eq 19, 3) := by decide +kernel
theorem dX11_addWord_75 : decode cX11_addWord 75 = .ok (.aload_n 0, 1) := by decide +kernel
theorem dX11_addWord_76 : decode cX11_addWord 76 = .ok (.getfield 84, 3) := by decide +kernel
theorem dX11_addWord_79 : decode cX11_addWord 79 = .ok (.iload_n 3, 1) := by decide +kernel
theorem dX11_addWord_80 : decode cX11_addWord 80 = .ok (.iconst 1, 1) := by decide +kernel
theorem dX11_addWord_81 : decode cX11_addWord 81 = .ok (.iadd, 1) := by decide +kernel
theorem k_5_169 : Jvm.Cond.code ({ cls := "FinderHouse$Disk", name := "hasRoom", desc := "(I)Z" } : Jvm.MethodName) prog_4_method_4_code (2 : Nat) (Option.some Jvm.ClassFile.FieldType.boolean) ∈ tb := tb5 169 (by decide +kernel) (by decide +kernel)
theorem k_5_166 : Jvm.Cond.methodLink "FinderHouse" (184 : Nat) ({ cls := "FinderHouse$Disk", name := "hasRoom", desc := "(I)Z" } : Jvm.MethodName) ∈ tb := tb5 166 (by decide +kernel) (by decide +kernel)
theorem k_5_167 : Jvm.Cond.instanceMethod ({ cls := "FinderHouse$Disk", name := "hasRoom", desc := "(I)Z" } : Jvm.MethodName) ∈ tb := tb5 167 (by decide +kernel) (by decide +kernel)
theorem k_5_168 : Jvm.Cond.selects "FinderHouse$Disk" ({ cls := "FinderHouse$Disk", name := "hasRoom", desc := "(I)Z" } : Jvm.MethodName) ({ cls := "FinderHouse$Disk", name := "hasRoom", desc := "(I)Z" } : Jvm.MethodName) ∈ tb := tb5 168 (by decide +kernel) (by decide +kernel)
theorem dX11_addWord_82 : decode cX11_addWord 82 = .ok (.invokevirtual 184, 3) := by decide +kernel
theorem dX11_addWord_85 : decode cX11_addWord 85 = .ok (.ifCond .ne 6, 3) := by decide +kernel
theorem dX11_addWord_91 : decode cX11_addWord 91 = .ok (.aload_n 0, 1) := by decide +kernel
theorem dX11_addWord_92 : decode cX11_addWord 92 = .ok (.getfield 77, 3) := by decide +kernel
theorem dX11_addWord_95 : decode cX11_addWord 95 = .ok (.aload_n 1, 1) := by decide +kernel
theorem dX11_addWord_96 : decode cX11_addWord 96 = .ok (.iload_n 2, 1) := by decide +kernel
theorem dX11_addWord_97 : decode cX11_addWord 97 = .ok (.iload_n 3, 1) := by decide +kernel
theorem dX11_addWord_98 : decode cX11_addWord 98 = .ok (.iload 4, 2) := by decide +kernel
theorem k_8_176 : Jvm.Cond.code ({ cls := "FinderHouse$Machines", name := "addWord", desc := "([BIII)V" } : Jvm.MethodName) prog_7_method_5_code (5 : Nat) (Option.none : Option Jvm.ClassFile.FieldType) ∈ tb := tb8 176 (by decide +kernel) (by decide +kernel)
theorem k_8_173 : Jvm.Cond.methodLink "FinderHouse" (470 : Nat) ({ cls := "FinderHouse$Machines", name := "addWord", desc := "([BIII)V" } : Jvm.MethodName) ∈ tb := tb8 173 (by decide +kernel) (by decide +kernel)
theorem k_8_174 : Jvm.Cond.instanceMethod ({ cls := "FinderHouse$Machines", name := "addWord", desc := "([BIII)V" } : Jvm.MethodName) ∈ tb := tb8 174 (by decide +kernel) (by decide +kernel)
theorem k_8_175 : Jvm.Cond.selects "FinderHouse$Machines" ({ cls := "FinderHouse$Machines", name := "addWord", desc := "([BIII)V" } : Jvm.MethodName) ({ cls := "FinderHouse$Machines", name := "addWord", desc := "([BIII)V" } : Jvm.MethodName) ∈ tb := tb8 175 (by decide +kernel) (by decide +kernel)
theorem dX11_addWord_100 : decode cX11_addWord 100 = .ok (.invokevirtual 470, 3) := by decide +kernel
theorem dX11_addWord_103 : decode cX11_addWord 103 = .ok (.iload 5, 2) := by decide +kernel
theorem dX11_addWord_105 : decode cX11_addWord 105 = .ok (.ifCond .eq 33, 3) := by decide +kernel
theorem dX11_addWord_108 : decode cX11_addWord 108 = .ok (.aload_n 0, 1) := by decide +kernel
theorem dX11_addWord_109 : decode cX11_addWord 109 = .ok (.getfield 84, 3) := by decide +kernel
theorem dX11_addWord_112 : decode cX11_addWord 112 = .ok (.iconst 4, 1) := by decide +kernel
theorem dX11_addWord_113 : decode cX11_addWord 113 = .ok (.iload_n 3, 1) := by decide +kernel
theorem dX11_addWord_114 : decode cX11_addWord 114 = .ok (.iconst 1, 1) := by decide +kernel
theorem dX11_addWord_115 : decode cX11_addWord 115 = .ok (.iadd, 1) := by decide +kernel
theorem k_5_215 : Jvm.Cond.code ({ cls := "FinderHouse$Disk", name := "record", desc := "(II)V" } : Jvm.MethodName) prog_4_method_5_code (3 : Nat) (Option.none : Option Jvm.ClassFile.FieldType) ∈ tb := tb5 215 (by decide +kernel) (by decide +kernel)
theorem k_5_212 : Jvm.Cond.methodLink "FinderHouse" (210 : Nat) ({ cls := "FinderHouse$Disk", name := "record", desc := "(II)V" } : Jvm.MethodName) ∈ tb := tb5 212 (by decide +kernel) (by decide +kernel)
theorem k_5_213 : Jvm.Cond.instanceMethod ({ cls := "FinderHouse$Disk", name := "record", desc := "(II)V" } : Jvm.MethodName) ∈ tb := tb5 213 (by decide +kernel) (by decide +kernel)
theorem k_5_214 : Jvm.Cond.selects "FinderHouse$Disk" ({ cls := "FinderHouse$Disk", name := "record", desc := "(II)V" } : Jvm.MethodName) ({ cls := "FinderHouse$Disk", name := "record", desc := "(II)V" } : Jvm.MethodName) ∈ tb := tb5 214 (by decide +kernel) (by decide +kernel)
theorem dX11_addWord_116 : decode cX11_addWord 116 = .ok (.invokevirtual 210, 3) := by decide +kernel
theorem dX11_addWord_119 : decode cX11_addWord 119 = .ok (.aload_n 0, 1) := by decide +kernel
theorem dX11_addWord_120 : decode cX11_addWord 120 = .ok (.getfield 84, 3) := by decide +kernel
theorem dX11_addWord_123 : decode cX11_addWord 123 = .ok (.iload 4, 2) := by decide +kernel
theorem k_7_84 : Jvm.Cond.methodLink "FinderHouse" (351 : Nat) ({ cls := "FinderHouse$Disk", name := "put", desc := "(I)V" } : Jvm.MethodName) ∈ tb := tb7 84 (by decide +kernel) (by decide +kernel)
theorem dX11_addWord_125 : decode cX11_addWord 125 = .ok (.invokevirtual 351, 3) := by decide +kernel
theorem dX11_addWord_128 : decode cX11_addWord 128 = .ok (.aload_n 0, 1) := by decide +kernel
theorem dX11_addWord_129 : decode cX11_addWord 129 = .ok (.getfield 84, 3) := by decide +kernel
theorem dX11_addWord_132 : decode cX11_addWord 132 = .ok (.aload_n 1, 1) := by decide +kernel
theorem dX11_addWord_133 : decode cX11_addWord 133 = .ok (.iload_n 2, 1) := by decide +kernel
theorem dX11_addWord_134 : decode cX11_addWord 134 = .ok (.iload_n 3, 1) := by decide +kernel
theorem k_5_223 : Jvm.Cond.code ({ cls := "FinderHouse$Disk", name := "putAll", desc := "([BII)V" } : Jvm.MethodName) prog_4_method_7_code (5 : Nat) (Option.none : Option Jvm.ClassFile.FieldType) ∈ tb := tb5 223 (by decide +kernel) (by decide +kernel)
theorem k_5_220 : Jvm.Cond.methodLink "FinderHouse" (214 : Nat) ({ cls := "FinderHouse$Disk", name := "putAll", desc := "([BII)V" } : Jvm.MethodName) ∈ tb := tb5 220 (by decide +kernel) (by decide +kernel)
theorem k_5_221 : Jvm.Cond.instanceMethod ({ cls := "FinderHouse$Disk", name := "putAll", desc := "([BII)V" } : Jvm.MethodName) ∈ tb := tb5 221 (by decide +kernel) (by decide +kernel)
theorem k_5_222 : Jvm.Cond.selects "FinderHouse$Disk" ({ cls := "FinderHouse$Disk", name := "putAll", desc := "([BII)V" } : Jvm.MethodName) ({ cls := "FinderHouse$Disk", name := "putAll", desc := "([BII)V" } : Jvm.MethodName) ∈ tb := tb5 222 (by decide +kernel) (by decide +kernel)
theorem dX11_addWord_135 : decode cX11_addWord 135 = .ok (.invokevirtual 214, 3) := by decide +kernel
theorem dX11_addWord_138 : decode cX11_addWord 138 = .ok (.aload_n 0, 1) := by decide +kernel
theorem dX11_addWord_139 : decode cX11_addWord 139 = .ok (.getfield 77, 3) := by decide +kernel
theorem dX11_addWord_142 : decode cX11_addWord 142 = .ok (.getfield 120, 3) := by decide +kernel
theorem dX11_addWord_145 : decode cX11_addWord 145 = .ok (.ireturn, 1) := by decide +kernel
theorem dX11_word_0 : decode cX11_word 0 = .ok (.aload_n 0, 1) := by decide +kernel
theorem dX11_word_1 : decode cX11_word 1 = .ok (.getfield 107, 3) := by decide +kernel
theorem dX11_word_4 : decode cX11_word 4 = .ok (.ifCond .eq 6, 3) := by decide +kernel
theorem dX11_word_10 : decode cX11_word 10 = .ok (.aload_n 0, 1) := by decide +kernel
theorem dX11_word_11 : decode cX11_word 11 = .ok (.aload_n 0, 1) := by decide +kernel
theorem dX11_word_12 : decode cX11_word 12 = .ok (.getfield 9, 3) := by decide +kernel
theorem dX11_word_15 : decode cX11_word 15 = .ok (.iconst 0, 1) := by decide +kernel
theorem dX11_word_16 : decode cX11_word 16 = .ok (.aload_n 0, 1) := by decide +kernel
theorem dX11_word_17 : decode cX11_word 17 = .ok (.invokevirtual 158, 3) := by decide +kernel
theorem dX11_word_20 : decode cX11_word 20 = .ok (.iload_n 1, 1) := by decide +kernel
theorem dX11_word_21 : decode cX11_word 21 = .ok (.ifCond .eq 7, 3) := by decide +kernel
theorem dX11_word_28 : decode cX11_word 28 = .ok (.iconst 0, 1) := by decide +kernel
theorem dX11_word_29 : decode cX11_word 29 = .ok (.iconst 1, 1) := by decide +kernel
theorem k_8_161 : Jvm.Cond.code ({ cls := "FinderHouse", name := "addWord", desc := "([BIIIZ)I" } : Jvm.MethodName) prog_1_method_50_code (7 : Nat) (Option.some Jvm.ClassFile.FieldType.int) ∈ tb := tb8 161 (by decide +kernel) (by decide +kernel)
theorem k_8_158 : Jvm.Cond.methodLink "FinderHouse" (462 : Nat) ({ cls := "FinderHouse", name := "addWord", desc := "([BIIIZ)I" } : Jvm.MethodName) ∈ tb := tb8 158 (by decide +kernel) (by decide +kernel)
theorem k_8_160 : Jvm.Cond.instanceMethod ({ cls := "FinderHouse", name := "addWord", desc := "([BIIIZ)I" } : Jvm.MethodName) ∈ tb := tb8 160 (by decide +kernel) (by decide +kernel)
theorem ks_96 : Jvm.Cond.selects "FinderHouse" ({ cls := "FinderHouse", name := "addWord", desc := "([BIIIZ)I" } : Jvm.MethodName) ({ cls := "FinderHouse", name := "addWord", desc := "([BIIIZ)I" } : Jvm.MethodName) ∈ tb := tbp 96 (by decide +kernel) (by decide +kernel)
theorem dX11_word_30 : decode cX11_word 30 = .ok (.invokevirtual 462, 3) := by decide +kernel
theorem dX11_word_33 : decode cX11_word 33 = .ok (.ireturn, 1) := by decide +kernel
theorem dX11_word_24 : decode cX11_word 24 = .ok (.iconst 1, 1) := by decide +kernel
theorem dX11_word_25 : decode cX11_word 25 = .ok (.goto 4, 3) := by decide +kernel
theorem dX5_endsOf_0 : decode cX5_endsOf 0 = .ok (.iconst 0, 1) := by decide +kernel
theorem dX5_endsOf_1 : decode cX5_endsOf 1 = .ok (.istore_n 3, 1) := by decide +kernel
theorem dX5_endsOf_2 : decode cX5_endsOf 2 = .ok (.iconst 0, 1) := by decide +kernel
theorem dX5_endsOf_3 : decode cX5_endsOf 3 = .ok (.istore 4, 2) := by decide +kernel
theorem dX5_endsOf_5 : decode cX5_endsOf 5 = .ok (.iload 4, 2) := by decide +kernel
theorem dX5_endsOf_7 : decode cX5_endsOf 7 = .ok (.aload_n 0, 1) := by decide +kernel
theorem dX5_endsOf_8 : decode cX5_endsOf 8 = .ok (.getfield 43, 3) := by decide +kernel
theorem dX5_endsOf_11 : decode cX5_endsOf 11 = .ok (.if_icmp .ge 59, 3) := by decide +kernel
theorem dX5_endsOf_70 : decode cX5_endsOf 70 = .ok (.iload_n 3, 1) := by decide +kernel
theorem dX5_endsOf_71 : decode cX5_endsOf 71 = .ok (.ireturn, 1) := by decide +kernel
theorem dX5_isClash_0 : decode cX5_isClash 0 = .ok (.aload_n 0, 1) := by decide +kernel
theorem dX5_isClash_1 : decode cX5_isClash 1 = .ok (.iload_n 1, 1) := by decide +kernel
theorem dX5_isClash_2 : decode cX5_isClash 2 = .ok (.iconst 0, 1) := by decide +kernel
theorem k_8_197 : Jvm.Cond.code ({ cls := "FinderHouse$Machines", name := "endsOf", desc := "(II)I" } : Jvm.MethodName) prog_7_method_9_code (5 : Nat) (Option.some Jvm.ClassFile.FieldType.int) ∈ tb := tb8 197 (by decide +kernel) (by decide +kernel)
theorem k_8_194 : Jvm.Cond.methodLink "FinderHouse$Machines" (72 : Nat) ({ cls := "FinderHouse$Machines", name := "endsOf", desc := "(II)I" } : Jvm.MethodName) ∈ tb := tb8 194 (by decide +kernel) (by decide +kernel)
theorem k_8_196 : Jvm.Cond.instanceMethod ({ cls := "FinderHouse$Machines", name := "endsOf", desc := "(II)I" } : Jvm.MethodName) ∈ tb := tb8 196 (by decide +kernel) (by decide +kernel)
theorem ks_98 : Jvm.Cond.selects "FinderHouse$Machines" ({ cls := "FinderHouse$Machines", name := "endsOf", desc := "(II)I" } : Jvm.MethodName) ({ cls := "FinderHouse$Machines", name := "endsOf", desc := "(II)I" } : Jvm.MethodName) ∈ tb := tbp 98 (by decide +kernel) (by decide +kernel)
theorem dX5_isClash_3 : decode cX5_isClash 3 = .ok (.invokevirtual 72, 3) := by decide +kernel
theorem dX5_isClash_6 : decode cX5_isClash 6 = .ok (.aload_n 0, 1) := by decide +kernel
theorem dX5_isClash_7 : decode cX5_isClash 7 = .ok (.iload_n 1, 1) := by decide +kernel
theorem dX5_isClash_8 : decode cX5_isClash 8 = .ok (.iconst 1, 1) := by decide +kernel
theorem dX5_isClash_9 : decode cX5_isClash 9 = .ok (.invokevirtual 72, 3) := by decide +kernel
theorem dX5_isClash_12 : decode cX5_isClash 12 = .ok (.iand, 1) := by decide +kernel
theorem dX5_isClash_13 : decode cX5_isClash 13 = .ok (.ifCond .eq 7, 3) := by decide +kernel
theorem dX5_isClash_20 : decode cX5_isClash 20 = .ok (.iconst 0, 1) := by decide +kernel
theorem dX5_isClash_21 : decode cX5_isClash 21 = .ok (.ireturn, 1) := by decide +kernel
theorem dX5_advance_0 : decode cX5_advance 0 = .ok (.iload_n 1, 1) := by decide +kernel
theorem dX5_advance_1 : decode cX5_advance 1 = .ok (.bipush 20, 2) := by decide +kernel
theorem dX5_advance_3 : decode cX5_advance 3 = .ok (.imul, 1) := by decide +kernel
theorem dX5_advance_4 : decode cX5_advance 4 = .ok (.istore_n 2, 1) := by decide +kernel
theorem dX5_advance_5 : decode cX5_advance 5 = .ok (.iload_n 2, 1) := by decide +kernel
theorem dX5_advance_6 : decode cX5_advance 6 = .ok (.bipush 20, 2) := by decide +kernel
theorem dX5_advance_8 : decode cX5_advance 8 = .ok (.iadd, 1) := by decide +kernel
theorem dX5_advance_9 : decode cX5_advance 9 = .ok (.istore_n 3, 1) := by decide +kernel
theorem dX5_advance_10 : decode cX5_advance 10 = .ok (.iconst 0, 1) := by decide +kernel
theorem dX5_advance_11 : decode cX5_advance 11 = .ok (.istore 4, 2) := by decide +kernel
theorem dX5_advance_13 : decode cX5_advance 13 = .ok (.iload 4, 2) := by decide +kernel
theorem dX5_advance_15 : decode cX5_advance 15 = .ok (.aload_n 0, 1) := by decide +kernel
theorem dX5_advance_16 : decode cX5_advance 16 = .ok (.getfield 43, 3) := by decide +kernel
theorem dX5_advance_19 : decode cX5_advance 19 = .ok (.if_icmp .ge 116, 3) := by decide +kernel
theorem dX5_advance_135 : decode cX5_advance 135 = .ok (.return_, 1) := by decide +kernel
theorem dX5_setMoves_0 : decode cX5_setMoves 0 = .ok (.iload_n 2, 1) := by decide +kernel
theorem dX5_setMoves_1 : decode cX5_setMoves 1 = .ok (.iconst 2, 1) := by decide +kernel
theorem dX5_setMoves_2 : decode cX5_setMoves 2 = .ok (.iload_n 1, 1) := by decide +kernel
theorem dX5_setMoves_3 : decode cX5_setMoves 3 = .ok (.imul, 1) := by decide +kernel
theorem dX5_setMoves_4 : decode cX5_setMoves 4 = .ok (.if_icmp .lt 16, 3) := by decide +kernel
theorem dX5_setMoves_7 : decode cX5_setMoves 7 = .ok (.iload_n 3, 1) := by decide +kernel
theorem dX5_setMoves_8 : decode cX5_setMoves 8 = .ok (.iload_n 1, 1) := by decide +kernel
theorem dX5_setMoves_9 : decode cX5_setMoves 9 = .ok (.iconst 1, 1) := by decide +kernel
theorem dX5_setMoves_10 : decode cX5_setMoves 10 = .ok (.isub, 1) := by decide +kernel
theorem dX5_setMoves_11 : decode cX5_setMoves 11 = .ok (.if_icmp .ne 7, 3) := by decide +kernel
theorem dX5_setMoves_14 : decode cX5_setMoves 14 = .ok (.iconst 1, 1) := by decide +kernel
theorem dX5_setMoves_15 : decode cX5_setMoves 15 = .ok (.goto 4, 3) := by decide +kernel
theorem dX5_setMoves_19 : decode cX5_setMoves 19 = .ok (.ireturn, 1) := by decide +kernel
theorem dX5_setMoves_20 : decode cX5_setMoves 20 = .ok (.iload_n 2, 1) := by decide +kernel
theorem dX5_setMoves_21 : decode cX5_setMoves 21 = .ok (.iconst 2, 1) := by decide +kernel
theorem dX5_setMoves_22 : decode cX5_setMoves 22 = .ok (.idiv, 1) := by decide +kernel
theorem dX5_setMoves_23 : decode cX5_setMoves 23 = .ok (.iload_n 3, 1) := by decide +kernel
theorem dX5_setMoves_24 : decode cX5_setMoves 24 = .ok (.if_icmp .gt 16, 3) := by decide +kernel
theorem dX5_setMoves_27 : decode cX5_setMoves 27 = .ok (.iload_n 3, 1) := by decide +kernel
theorem dX5_setMoves_28 : decode cX5_setMoves 28 = .ok (.iconst 2, 1) := by decide +kernel
theorem dX5_setMoves_29 : decode cX5_setMoves 29 = .ok (.iload_n 1, 1) := by decide +kernel
theorem dX5_setMoves_30 : decode cX5_setMoves 30 = .ok (.imul, 1) := by decide +kernel
theorem dX5_setMoves_31 : decode cX5_setMoves 31 = .ok (.iadd, 1) := by decide +kernel
theorem dX5_setMoves_32 : decode cX5_setMoves 32 = .ok (.iload_n 2, 1) := by decide +kernel
theorem dX5_setMoves_33 : decode cX5_setMoves 33 = .ok (.isub, 1) := by decide +kernel
theorem dX5_setMoves_34 : decode cX5_setMoves 34 = .ok (.iload_n 1, 1) := by decide +kernel
theorem dX5_setMoves_35 : decode cX5_setMoves 35 = .ok (.iconst 1, 1) := by decide +kernel
theorem dX5_setMoves_36 : decode cX5_setMoves 36 = .ok (.isub, 1) := by decide +kernel
theorem dX5_setMoves_37 : decode cX5_setMoves 37 = .ok (.if_icmp .ge 5, 3) := by decide +kernel
theorem dX5_setMoves_42 : decode cX5_setMoves 42 = .ok (.iconst 0, 1) := by decide +kernel
theorem dX5_setMoves_43 : decode cX5_setMoves 43 = .ok (.istore 4, 2) := by decide +kernel
theorem dX5_setMoves_45 : decode cX5_setMoves 45 = .ok (.iload 4, 2) := by decide +kernel
theorem dX5_setMoves_47 : decode cX5_setMoves 47 = .ok (.iload_n 3, 1) := by decide +kernel
theorem dX5_setMoves_48 : decode cX5_setMoves 48 = .ok (.iconst 1, 1) := by decide +kernel
theorem dX5_setMoves_49 : decode cX5_setMoves 49 = .ok (.iadd, 1) := by decide +kernel
theorem dX5_setMoves_50 : decode cX5_setMoves 50 = .ok (.if_icmp .gt 57, 3) := by decide +kernel
theorem dX5_setMoves_53 : decode cX5_setMoves 53 = .ok (.iload 4, 2) := by decide +kernel
theorem dX5_setMoves_55 : decode cX5_setMoves 55 = .ok (.iload_n 1, 1) := by decide +kernel
theorem dX5_setMoves_56 : decode cX5_setMoves 56 = .ok (.if_icmp .ge 51, 3) := by decide +kernel
theorem dX5_setMoves_59 : decode cX5_setMoves 59 = .ok (.aload_n 0, 1) := by decide +kernel
theorem k_4_17 : Jvm.Cond.fieldLink "FinderHouse$Machines" (30 : Nat) "FinderHouse$Machines" "trial" "[I" ∈ tb := tb4 17 (by decide +kernel) (by decide +kernel)
theorem dX5_setMoves_60 : decode cX5_setMoves 60 = .ok (.getfield 30, 3) := by decide +kernel
theorem dX5_setMoves_63 : decode cX5_setMoves 63 = .ok (.iload_n 2, 1) := by decide +kernel
theorem dX5_setMoves_64 : decode cX5_setMoves 64 = .ok (.iload 4, 2) := by decide +kernel
theorem dX5_setMoves_66 : decode cX5_setMoves 66 = .ok (.iastore, 1) := by decide +kernel
theorem dX5_setMoves_67 : decode cX5_setMoves 67 = .ok (.aload_n 0, 1) := by decide +kernel
theorem dX5_setMoves_68 : decode cX5_setMoves 68 = .ok (.iload_n 2, 1) := by decide +kernel
theorem k_8_205 : Jvm.Cond.code ({ cls := "FinderHouse$Machines", name := "advance", desc := "(I)V" } : Jvm.MethodName) prog_7_method_8_code (7 : Nat) (Option.none : Option Jvm.ClassFile.FieldType) ∈ tb := tb8 205 (by decide +kernel) (by decide +kernel)
theorem k_8_202 : Jvm.Cond.methodLink "FinderHouse$Machines" (79 : Nat) ({ cls := "FinderHouse$Machines", name := "advance", desc := "(I)V" } : Jvm.MethodName) ∈ tb := tb8 202 (by decide +kernel) (by decide +kernel)
theorem k_8_204 : Jvm.Cond.instanceMethod ({ cls := "FinderHouse$Machines", name := "advance", desc := "(I)V" } : Jvm.MethodName) ∈ tb := tb8 204 (by decide +kernel) (by decide +kernel)
theorem ks_100 : Jvm.Cond.selects "FinderHouse$Machines" ({ cls := "FinderHouse$Machines", name := "advance", desc := "(I)V" } : Jvm.MethodName) ({ cls := "FinderHouse$Machines", name := "advance", desc := "(I)V" } : Jvm.MethodName) ∈ tb := tbp 100 (by decide +kernel) (by decide +kernel)
theorem dX5_setMoves_69 : decode cX5_setMoves 69 = .ok (.invokevirtual 79, 3) := by decide +kernel
theorem dX5_setMoves_72 : decode cX5_setMoves 72 = .ok (.aload_n 0, 1) := by decide +kernel
theorem dX5_setMoves_73 : decode cX5_setMoves 73 = .ok (.iload_n 2, 1) := by decide +kernel
theorem dX5_setMoves_74 : decode cX5_setMoves 74 = .ok (.iconst 1, 1) := by decide +kernel
theorem dX5_setMoves_75 : decode cX5_setMoves 75 = .ok (.iadd, 1) := by decide +kernel
theorem k_8_193 : Jvm.Cond.code ({ cls := "FinderHouse$Machines", name := "isClash", desc := "(I)Z" } : Jvm.MethodName) prog_7_method_10_code (2 : Nat) (Option.some Jvm.ClassFile.FieldType.boolean) ∈ tb := tb8 193 (by decide +kernel) (by decide +kernel)
theorem k_8_190 : Jvm.Cond.methodLink "FinderHouse$Machines" (55 : Nat) ({ cls := "FinderHouse$Machines", name := "isClash", desc := "(I)Z" } : Jvm.MethodName) ∈ tb := tb8 190 (by decide +kernel) (by decide +kernel)
theorem k_8_192 : Jvm.Cond.instanceMethod ({ cls := "FinderHouse$Machines", name := "isClash", desc := "(I)Z" } : Jvm.MethodName) ∈ tb := tb8 192 (by decide +kernel) (by decide +kernel)
theorem ks_97 : Jvm.Cond.selects "FinderHouse$Machines" ({ cls := "FinderHouse$Machines", name := "isClash", desc := "(I)Z" } : Jvm.MethodName) ({ cls := "FinderHouse$Machines", name := "isClash", desc := "(I)Z" } : Jvm.MethodName) ∈ tb := tbp 97 (by decide +kernel) (by decide +kernel)
theorem dX5_setMoves_76 : decode cX5_setMoves 76 = .ok (.invokevirtual 55, 3) := by decide +kernel
theorem dX5_setMoves_79 : decode cX5_setMoves 79 = .ok (.ifCond .ne 22, 3) := by decide +kernel
theorem dX5_setMoves_82 : decode cX5_setMoves 82 = .ok (.aload_n 0, 1) := by decide +kernel
theorem dX5_setMoves_83 : decode cX5_setMoves 83 = .ok (.iload_n 1, 1) := by decide +kernel
theorem dX5_setMoves_84 : decode cX5_setMoves 84 = .ok (.iload_n 2, 1) := by decide +kernel
theorem dX5_setMoves_85 : decode cX5_setMoves 85 = .ok (.iconst 1, 1) := by decide +kernel
theorem dX5_setMoves_86 : decode cX5_setMoves 86 = .ok (.iadd, 1) := by decide +kernel
theorem dX5_setMoves_87 : decode cX5_setMoves 87 = .ok (.iload_n 3, 1) := by decide +kernel
theorem dX5_setMoves_88 : decode cX5_setMoves 88 = .ok (.iload 4, 2) := by decide +kernel
theorem k_mmax : Cond.code Lib.Math.max.name Lib.Math.max.code 2 (some .int) ∈ tb := tb8 208 (by decide +kernel) (by decide +kernel)
theorem k_8_206 : Jvm.Cond.methodLink "FinderHouse$Machines" (83 : Nat) ({ cls := "java/lang/Math", name := "max", desc := "(II)I" } : Jvm.MethodName) ∈ tb := tb8 206 (by decide +kernel) (by decide +kernel)
theorem k_8_207 : Jvm.Cond.static ({ cls := "java/lang/Math", name := "max", desc := "(II)I" } : Jvm.MethodName) ∈ tb := tb8 207 (by decide +kernel) (by decide +kernel)
theorem k_1_27 : Jvm.Cond.initialized "java/lang/Math" ∈ tb := tb1 27 (by decide +kernel) (by decide +kernel)
theorem dX5_setMoves_90 : decode cX5_setMoves 90 = .ok (.invokestatic 83, 3) := by decide +kernel
theorem k_8_201 : Jvm.Cond.code ({ cls := "FinderHouse$Machines", name := "setMoves", desc := "(III)Z" } : Jvm.MethodName) prog_7_method_7_code (5 : Nat) (Option.some Jvm.ClassFile.FieldType.boolean) ∈ tb := tb8 201 (by decide +kernel) (by decide +kernel)
theorem k_8_198 : Jvm.Cond.methodLink "FinderHouse$Machines" (59 : Nat) ({ cls := "FinderHouse$Machines", name := "setMoves", desc := "(III)Z" } : Jvm.MethodName) ∈ tb := tb8 198 (by decide +kernel) (by decide +kernel)
theorem k_8_200 : Jvm.Cond.instanceMethod ({ cls := "FinderHouse$Machines", name := "setMoves", desc := "(III)Z" } : Jvm.MethodName) ∈ tb := tb8 200 (by decide +kernel) (by decide +kernel)
theorem ks_99 : Jvm.Cond.selects "FinderHouse$Machines" ({ cls := "FinderHouse$Machines", name := "setMoves", desc := "(III)Z" } : Jvm.MethodName) ({ cls := "FinderHouse$Machines", name := "setMoves", desc := "(III)Z" } : Jvm.MethodName) ∈ tb := tbp 99 (by decide +kernel) (by decide +kernel)
theorem dX5_setMoves_93 : decode cX5_setMoves 93 = .ok (.invokevirtual 59, 3) := by decide +kernel
theorem dX5_setMoves_96 : decode cX5_setMoves 96 = .ok (.ifCond .eq 5, 3) := by decide +kernel
theorem dX5_setMoves_99 : decode cX5_setMoves 99 = .ok (.iconst 1, 1) := by decide +kernel
theorem dX5_setMoves_100 : decode cX5_setMoves 100 = .ok (.ireturn, 1) := by decide +kernel
theorem dX5_findLeast_0 : decode cX5_findLeast 0 = .ok (.iconst 1, 1) := by decide +kernel
theorem dX5_findLeast_1 : decode cX5_findLeast 1 = .ok (.istore_n 1, 1) := by decide +kernel
theorem dX5_findLeast_2 : decode cX5_findLeast 2 = .ok (.iload_n 1, 1) := by decide +kernel
theorem dX5_findLeast_3 : decode cX5_findLeast 3 = .ok (.iconst 5, 1) := by decide +kernel
theorem dX5_findLeast_4 : decode cX5_findLeast 4 = .ok (.if_icmp .gt 92, 3) := by decide +kernel
theorem dX5_findLeast_7 : decode cX5_findLeast 7 = .ok (.iconst 0, 1) := by decide +kernel
theorem dX5_findLeast_8 : decode cX5_findLeast 8 = .ok (.istore_n 2, 1) := by decide +kernel
theorem dX5_findLeast_9 : decode cX5_findLeast 9 = .ok (.iload_n 2, 1) := by decide +kernel
theorem dX5_findLeast_10 : decode cX5_findLeast 10 = .ok (.aload_n 0, 1) := by decide +kernel
theorem dX5_findLeast_11 : decode cX5_findLeast 11 = .ok (.getfield 43, 3) := by decide +kernel
theorem dX5_findLeast_14 : decode cX5_findLeast 14 = .ok (.if_icmp .ge 23, 3) := by decide +kernel
theorem dX5_findLeast_37 : decode cX5_findLeast 37 = .ok (.aload_n 0, 1) := by decide +kernel
theorem dX5_findLeast_38 : decode cX5_findLeast 38 = .ok (.iconst 0, 1) := by decide +kernel
theorem dX5_findLeast_39 : decode cX5_findLeast 39 = .ok (.invokevirtual 55, 3) := by decide +kernel
theorem dX5_findLeast_42 : decode cX5_findLeast 42 = .ok (.ifCond .ne 48, 3) := by decide +kernel
theorem dX5_findLeast_45 : decode cX5_findLeast 45 = .ok (.aload_n 0, 1) := by decide +kernel
theorem dX5_findLeast_46 : decode cX5_findLeast 46 = .ok (.iload_n 1, 1) := by decide +kernel
theorem dX5_findLeast_47 : decode cX5_findLeast 47 = .ok (.iconst 0, 1) := by decide +kernel
theorem dX5_findLeast_48 : decode cX5_findLeast 48 = .ok (.iconst 0, 1) := by decide +kernel
theorem dX5_findLeast_49 : decode cX5_findLeast 49 = .ok (.invokevirtual 59, 3) := by decide +kernel
theorem dX5_findLeast_52 : decode cX5_findLeast 52 = .ok (.ifCond .eq 38, 3) := by decide +kernel
theorem dX5_findLeast_55 : decode cX5_findLeast 55 = .ok (.aload_n 0, 1) := by decide +kernel
theorem dX5_findLeast_56 : decode cX5_findLeast 56 = .ok (.iload_n 1, 1) := by decide +kernel
theorem dX5_findLeast_57 : decode cX5_findLeast 57 = .ok (.putfield 63, 3) := by decide +kernel
theorem dX5_findLeast_60 : decode cX5_findLeast 60 = .ok (.aload_n 0, 1) := by decide +kernel
theorem dX5_findLeast_61 : decode cX5_findLeast 61 = .ok (.getfield 30, 3) := by decide +kernel
theorem dX5_findLeast_64 : decode cX5_findLeast 64 = .ok (.iconst 0, 1) := by decide +kernel
theorem dX5_findLeast_65 : decode cX5_findLeast 65 = .ok (.aload_n 0, 1) := by decide +kernel
theorem k_4_13 : Jvm.Cond.fieldLink "FinderHouse$Machines" (21 : Nat) "FinderHouse$Machines" "leads" "[I" ∈ tb := tb4 13 (by decide +kernel) (by decide +kernel)
theorem dX5_findLeast_66 : decode cX5_findLeast 66 = .ok (.getfield 21, 3) := by decide +kernel
theorem dX5_findLeast_69 : decode cX5_findLeast 69 = .ok (.iconst 0, 1) := by decide +kernel
theorem dX5_findLeast_70 : decode cX5_findLeast 70 = .ok (.iconst 2, 1) := by decide +kernel
theorem dX5_findLeast_71 : decode cX5_findLeast 71 = .ok (.iload_n 1, 1) := by decide +kernel
theorem dX5_findLeast_72 : decode cX5_findLeast 72 = .ok (.imul, 1) := by decide +kernel
theorem k_8_209 : Jvm.Cond.methodLink "FinderHouse$Machines" (66 : Nat) ({ cls := "java/lang/System", name := "arraycopy", desc := "(Ljava/lang/Object;ILjava/lang/Object;II)V" } : Jvm.MethodName) ∈ tb := tb8 209 (by decide +kernel) (by decide +kernel)
theorem k_6_6 : Jvm.Cond.native ({ cls := "java/lang/System", name := "arraycopy", desc := "(Ljava/lang/Object;ILjava/lang/Object;II)V" } : Jvm.MethodName) ∈ tb := tb6 6 (by decide +kernel) (by decide +kernel)
theorem k_6_5 : Jvm.Cond.static ({ cls := "java/lang/System", name := "arraycopy", desc := "(Ljava/lang/Object;ILjava/lang/Object;II)V" } : Jvm.MethodName) ∈ tb := tb6 5 (by decide +kernel) (by decide +kernel)
theorem k_1_28 : Jvm.Cond.initialized "java/lang/System" ∈ tb := tb1 28 (by decide +kernel) (by decide +kernel)
theorem dX5_findLeast_73 : decode cX5_findLeast 73 = .ok (.invokestatic 66, 3) := by decide +kernel
theorem dX5_findLeast_76 : decode cX5_findLeast 76 = .ok (.aload_n 0, 1) := by decide +kernel
theorem dX5_findLeast_77 : decode cX5_findLeast 77 = .ok (.aload_n 0, 1) := by decide +kernel
theorem dX5_findLeast_78 : decode cX5_findLeast 78 = .ok (.iconst 2, 1) := by decide +kernel
theorem dX5_findLeast_79 : decode cX5_findLeast 79 = .ok (.iload_n 1, 1) := by decide +kernel
theorem dX5_findLeast_80 : decode cX5_findLeast 80 = .ok (.imul, 1) := by decide +kernel
theorem dX5_findLeast_81 : decode cX5_findLeast 81 = .ok (.iconst 1, 1) := by decide +kernel
theorem dX5_findLeast_82 : decode cX5_findLeast 82 = .ok (.invokevirtual 72, 3) := by decide +kernel
theorem k_4_14 : Jvm.Cond.fieldLink "FinderHouse$Machines" (76 : Nat) "FinderHouse$Machines" "goodStates" "I" ∈ tb := tb4 14 (by decide +kernel) (by decide +kernel)
theorem dX5_findLeast_85 : decode cX5_findLeast 85 = .ok (.putfield 76, 3) := by decide +kernel
theorem dX5_findLeast_88 : decode cX5_findLeast 88 = .ok (.iload_n 1, 1) := by decide +kernel
theorem dX5_findLeast_89 : decode cX5_findLeast 89 = .ok (.ireturn, 1) := by decide +kernel
theorem dX11_machine_0 : decode cX11_machine 0 = .ok (.aload_n 0, 1) := by decide +kernel
theorem dX11_machine_1 : decode cX11_machine 1 = .ok (.getfield 107, 3) := by decide +kernel
theorem dX11_machine_4 : decode cX11_machine 4 = .ok (.ifCond .eq 8, 3) := by decide +kernel
theorem dX11_machine_12 : decode cX11_machine 12 = .ok (.aload_n 0, 1) := by decide +kernel
theorem dX11_machine_13 : decode cX11_machine 13 = .ok (.getfield 77, 3) := by decide +kernel
theorem k_8_189 : Jvm.Cond.code ({ cls := "FinderHouse$Machines", name := "findLeast", desc := "()I" } : Jvm.MethodName) prog_7_method_6_code (3 : Nat) (Option.some Jvm.ClassFile.FieldType.int) ∈ tb := tb8 189 (by decide +kernel) (by decide +kernel)
theorem k_8_186 : Jvm.Cond.methodLink "FinderHouse" (472 : Nat) ({ cls := "FinderHouse$Machines", name := "findLeast", desc := "()I" } : Jvm.MethodName) ∈ tb := tb8 186 (by decide +kernel) (by decide +kernel)
theorem k_8_187 : Jvm.Cond.instanceMethod ({ cls := "FinderHouse$Machines", name := "findLeast", desc := "()I" } : Jvm.MethodName) ∈ tb := tb8 187 (by decide +kernel) (by decide +kernel)
theorem k_8_188 : Jvm.Cond.selects "FinderHouse$Machines" ({ cls := "FinderHouse$Machines", name := "findLeast", desc := "()I" } : Jvm.MethodName) ({ cls := "FinderHouse$Machines", name := "findLeast", desc := "()I" } : Jvm.MethodName) ∈ tb := tb8 188 (by decide +kernel) (by decide +kernel)
theorem dX11_machine_16 : decode cX11_machine 16 = .ok (.invokevirtual 472, 3) := by decide +kernel
theorem dX11_machine_19 : decode cX11_machine 19 = .ok (.ireturn, 1) := by decide +kernel
theorem dX11_feedNumber_0 : decode cX11_feedNumber 0 = .ok (.bipush 24, 2) := by decide +kernel
theorem dX11_feedNumber_2 : decode cX11_feedNumber 2 = .ok (.istore_n 2, 1) := by decide +kernel
theorem dX11_feedNumber_3 : decode cX11_feedNumber 3 = .ok (.iload_n 2, 1) := by decide +kernel
theorem dX11_feedNumber_4 : decode cX11_feedNumber 4 = .ok (.ifCond .lt 42, 3) := by decide +kernel
theorem dX11_feedNumber_7 : decode cX11_feedNumber 7 = .ok (.aload_n 0, 1) := by decide +kernel
theorem dX11_feedNumber_8 : decode cX11_feedNumber 8 = .ok (.getfield 88, 3) := by decide +kernel
theorem dX11_feedNumber_11 : decode cX11_feedNumber 11 = .ok (.sipush 2000, 3) := by decide +kernel
theorem dX11_feedNumber_14 : decode cX11_feedNumber 14 = .ok (.if_icmp .ge 32, 3) := by decide +kernel
theorem dX11_feedNumber_17 : decode cX11_feedNumber 17 = .ok (.aload_n 0, 1) := by decide +kernel
theorem dX11_feedNumber_18 : decode cX11_feedNumber 18 = .ok (.getfield 9, 3) := by decide +kernel
theorem dX11_feedNumber_21 : decode cX11_feedNumber 21 = .ok (.aload_n 0, 1) := by decide +kernel
theorem dX11_feedNumber_22 : decode cX11_feedNumber 22 = .ok (.getfield 88, 3) := by decide +kernel
theorem dX11_feedNumber_25 : decode cX11_feedNumber 25 = .ok (.iload_n 1, 1) := by decide +kernel
theorem dX11_feedNumber_26 : decode cX11_feedNumber 26 = .ok (.iload_n 2, 1) := by decide +kernel
theorem dX11_feedNumber_27 : decode cX11_feedNumber 27 = .ok (.iushr, 1) := by decide +kernel
theorem dX11_feedNumber_28 : decode cX11_feedNumber 28 = .ok (.i2b, 1) := by decide +kernel
theorem dX11_feedNumber_29 : decode cX11_feedNumber 29 = .ok (.bastore, 1) := by decide +kernel
theorem dX11_feedNumber_30 : decode cX11_feedNumber 30 = .ok (.aload_n 0, 1) := by decide +kernel
theorem dX11_feedNumber_31 : decode cX11_feedNumber 31 = .ok (.dup, 1) := by decide +kernel
theorem dX11_feedNumber_32 : decode cX11_feedNumber 32 = .ok (.getfield 88, 3) := by decide +kernel
theorem dX11_feedNumber_35 : decode cX11_feedNumber 35 = .ok (.iconst 1, 1) := by decide +kernel
theorem dX11_feedNumber_36 : decode cX11_feedNumber 36 = .ok (.iadd, 1) := by decide +kernel
theorem dX11_feedNumber_37 : decode cX11_feedNumber 37 = .ok (.putfield 88, 3) := by decide +kernel
theorem dX11_feedNumber_40 : decode cX11_feedNumber 40 = .ok (.iinc 2 (-8), 3) := by decide +kernel
theorem dX11_feedNumber_43 : decode cX11_feedNumber 43 = .ok (.goto (-40), 3) := by decide +kernel
theorem dX11_feedNumber_46 : decode cX11_feedNumber 46 = .ok (.return_, 1) := by decide +kernel
theorem dX11_feed_0 : decode cX11_feed 0 = .ok (.aload_n 0, 1) := by decide +kernel
theorem dX11_feed_1 : decode cX11_feed 1 = .ok (.getfield 88, 3) := by decide +kernel
theorem dX11_feed_4 : decode cX11_feed 4 = .ok (.bipush 20, 2) := by decide +kernel
theorem dX11_feed_6 : decode cX11_feed 6 = .ok (.iadd, 1) := by decide +kernel
theorem dX11_feed_7 : decode cX11_feed 7 = .ok (.sipush 2000, 3) := by decide +kernel
theorem dX11_feed_10 : decode cX11_feed 10 = .ok (.if_icmp .le 13, 3) := by decide +kernel
theorem dX11_feed_23 : decode cX11_feed 23 = .ok (.aload_n 0, 1) := by decide +kernel
theorem dX11_feed_24 : decode cX11_feed 24 = .ok (.iload_n 1, 1) := by decide +kernel
theorem k_9_168 : Jvm.Cond.code ({ cls := "FinderHouse", name := "feedNumber", desc := "(I)V" } : Jvm.MethodName) prog_1_method_3_code (3 : Nat) (Option.none : Option Jvm.ClassFile.FieldType) ∈ tb := tb9 168 (by decide +kernel) (by decide +kernel)
theorem k_9_165 : Jvm.Cond.methodLink "FinderHouse" (98 : Nat) ({ cls := "FinderHouse", name := "feedNumber", desc := "(I)V" } : Jvm.MethodName) ∈ tb := tb9 165 (by decide +kernel) (by decide +kernel)
theorem k_9_167 : Jvm.Cond.instanceMethod ({ cls := "FinderHouse", name := "feedNumber", desc := "(I)V" } : Jvm.MethodName) ∈ tb := tb9 167 (by decide +kernel) (by decide +kernel)
theorem ks_109 : Jvm.Cond.selects "FinderHouse" ({ cls := "FinderHouse", name := "feedNumber", desc := "(I)V" } : Jvm.MethodName) ({ cls := "FinderHouse", name := "feedNumber", desc := "(I)V" } : Jvm.MethodName) ∈ tb := tbp 109 (by decide +kernel) (by decide +kernel)
theorem dX11_feed_25 : decode cX11_feed 25 = .ok (.invokevirtual 98, 3) := by decide +kernel
theorem dX11_feed_28 : decode cX11_feed 28 = .ok (.aload_n 0, 1) := by decide +kernel
theorem dX11_feed_29 : decode cX11_feed 29 = .ok (.iload_n 2, 1) := by decide +kernel
theorem dX11_feed_30 : decode cX11_feed 30 = .ok (.invokevirtual 98, 3) := by decide +kernel
theorem dX11_feed_33 : decode cX11_feed 33 = .ok (.aload_n 0, 1) := by decide +kernel
theorem dX11_feed_34 : decode cX11_feed 34 = .ok (.iload_n 3, 1) := by decide +kernel
theorem dX11_feed_35 : decode cX11_feed 35 = .ok (.invokevirtual 98, 3) := by decide +kernel
theorem dX11_feed_38 : decode cX11_feed 38 = .ok (.aload_n 0, 1) := by decide +kernel
theorem dX11_feed_39 : decode cX11_feed 39 = .ok (.iload 4, 2) := by decide +kernel
theorem dX11_feed_41 : decode cX11_feed 41 = .ok (.invokevirtual 98, 3) := by decide +kernel
theorem dX11_feed_44 : decode cX11_feed 44 = .ok (.aload_n 0, 1) := by decide +kernel
theorem dX11_feed_45 : decode cX11_feed 45 = .ok (.iload 5, 2) := by decide +kernel
theorem dX11_feed_47 : decode cX11_feed 47 = .ok (.invokevirtual 98, 3) := by decide +kernel
theorem dX11_feed_50 : decode cX11_feed 50 = .ok (.aload_n 0, 1) := by decide +kernel
theorem dX11_feed_51 : decode cX11_feed 51 = .ok (.getfield 88, 3) := by decide +kernel
theorem dX11_feed_54 : decode cX11_feed 54 = .ok (.ireturn, 1) := by decide +kernel
set_option maxHeartbeats 4000000 in
set_option maxRecDepth 100000 in
theorem m2_put_0 (l : Launch) (dC : Nat → ClassId) (dI : Nat → Nat → Nat) (sz : Nat) (d : Nat) (gd : List Value) (wt : Nat) (cW : ClassId) (fw : Nat → Int32) (p0 : Int32) (L_gd : gd.length = 7) (K1_gd : gd[1]? = some (.int 0)) (K2_gd : gd[2]? = some (.ref wt)) (K3_gd : gd[3]? = some (.int 0)) (K4_gd : gd[4]? = some (.int 0)) (K5_gd : gd[5]? = some (.int (-1))) : Met l yX2_put (Cond.code yX2_put cX2_put 2 none :: tb) ({ frames := 0, cells := 0, slots := 0, locals := 0 }) (pcw [.ref d, .int p0] (dC, dI) [(d, .inr (2, gd)), (wt, .inl (cW, 24200, .inl fw))] [(cW, .byte)] sz) (va_Qv (fun (u : (List Value) × (Nat → Int32)) => match u with | (gd1, fw1) => (True) ∧ (gd1.length = 7) ∧ (gd1[1]? = some (.int 0)) ∧ (gd1[2]? = some (.ref wt)) ∧ (gd1[3]? = some (.int 0)) ∧ (gd1[4]? = some (.int 1)) ∧ (gd1[5]? = some (.int (-1)))) (bw (dC, dI) (va_A [(d, .inr (2, gd)), (wt, .inl (cW, 24200, .inl fw))] sz) (fun (u : (List Value) × (Nat → Int32)) => match u with | (gd1, fw1) => [(d, .inr (2, gd1)), (wt, .inl (cW, 24200, .inl fw1))]) (fun (u : (List Value) × (Nat → Int32)) => match u with | (gd1, fw1) => [(cW, .byte)])) (va_A [(d, .inr (2, gd)), (wt, .inl (cW, 24200, .inl fw))] sz)) 0 0 (va_A [(d, .inr (2, gd)), (wt, .inl (cW, 24200, .inl fw))] sz) := by
  refine Met.ofW (cc := cX2_put) (maxL := 2) (ret := none) (by decide) rfl ?_
  intro p e s m args below meth c s₁ B hml hv
  obtain ⟨rfl, hsz, hP, hK, hD0⟩ := hv
  have hx := B.exec
  have hb := B.bytes
  have hr := B.returns
  have hts := atoms_spec (ws := Cond.code yX2_put cX2_put 2 none :: tb) B.pre
  have ht : ∀ w ∈ tb, w.before _ s = true := fun w h => hts w (List.mem_cons_of_mem _ h)
  have hown : s.vm.findClass RX2 = some m.cls := findClass_of_methodNamed B.named
  have hlocks := B.notSynchronized
  subst hsz
  have hD := hD0.self (sz := s.heap.size)
  generalize hAe : va_A [(d, .inr (2, gd)), (wt, .inl (cW, 24200, .inl fw))] s.heap.size = A at hD ⊢
  have hA : ∀ q : Nat, s.heap.size ≤ q → A q := fun q h => by rw [← hAe]; exact Or.inr h
  have hS : va_S A s.heap s.heap [] := va_S.rf
  have hl := lv_entry ([.ref d, .int p0]) (n := 2) (Nat.le_of_ble_eq_true rfl)
  rw [lg_entry_eq]
  generalize (lg_sl ([.ref d, .int p0]) ++ List.replicate (2 - (lg_sl ([.ref d, .int p0])).length) Slot.unset).toArray = ls at hl ⊢
  have hl : lv_has ls 2 [(0, .ref d), (1, .int p0)] := hl
  have hP : va_P (dC, dI) cls [(d, .inr (2, gd)), (wt, .inl (cW, 24200, .inl fw))] s.heap := hP
  refine lv_aload_n hx hb dX2_put_0 rfl (lv_at hl 0 rfl) ?_
  refine va_get (D := (dC, dI)) (ci := 2) (v := .int 0) (C := RX2) (T := TX2) (N := 7) hx hb ht uX2 hown hK hP 0 rfl rfl 4 (by decide) (ht _ k_4_70) (fun _ h9 => h9) K4_gd dX2_put_1 ?_
  refine lv_aload_n hx hb dX2_put_4 rfl (lv_at hl 0 rfl) ?_
  refine va_get (D := (dC, dI)) (ci := 2) (v := .ref wt) (C := RX2) (T := TX2) (N := 7) hx hb ht uX2 hown hK hP 0 rfl rfl 2 (by decide) (ht _ k_4_66) (fun _ h9 => h9) K2_gd dX2_put_5 ?_
  refine va_alen (x := (24200, .inl fw)) (v := 24200) hx hb hK hP 1 0 rfl rfl (show Int32.ofNat 24200 = 24200 by decide) dX2_put_8 ?_
  refine lv_icmp_ge (tgt := 33) hx hb dX2_put_9 (by decide) (fun c0 => absurd c0 (by decide)) (fun _ => ?_)
  refine lv_aload_n hx hb dX2_put_12 rfl (lv_at hl 0 rfl) ?_
  refine va_get (D := (dC, dI)) (ci := 2) (v := .ref wt) (C := RX2) (T := TX2) (N := 7) hx hb ht uX2 hown hK hP 0 rfl rfl 2 (by decide) (ht _ k_4_66) (fun _ h9 => h9) K2_gd dX2_put_13 ?_
  refine lv_aload_n hx hb dX2_put_16 rfl (lv_at hl 0 rfl) ?_
  refine va_get (D := (dC, dI)) (ci := 2) (v := .int 0) (C := RX2) (T := TX2) (N := 7) hx hb ht uX2 hown hK hP 0 rfl rfl 4 (by decide) (ht _ k_4_70) (fun _ h9 => h9) K4_gd dX2_put_17 ?_
  refine lv_iload_n hx hb dX2_put_20 rfl (lv_at hl 1 rfl) ?_
  refine lv_i2b hx hb dX2_put_21 rfl ?_
  refine lv_topi (fun x1 ex1 => ?_)
  refine va_bast (i := 0) (x := x1) hx hb hK hP hD hS 1 0 rfl rfl (by unfold vp_in; decide) dX2_put_22 (fun H locs hP hD hS => ?_)
  obtain ⟨f2, ef2⟩ : ∃ g : Nat → Int32, g = upd fw (0 : Int32).toNatClampNeg (vp_nar .byte x1) := ⟨_, rfl⟩
  rw [← ef2] at hP hD
  have hP : va_P (dC, dI) cls [(d, .inr (2, gd)), (wt, .inl (cW, 24200, .inl f2))] H := hP
  have hD : va_D A [(d, .inr (2, gd)), (wt, .inl (cW, 24200, .inl f2))] := hD
  refine lv_aload_n hx hb dX2_put_23 rfl (lv_at hl 0 rfl) ?_
  refine lv_dup hx hb dX2_put_24 rfl ?_
  refine va_get (D := (dC, dI)) (ci := 2) (v := .int 0) (C := RX2) (T := TX2) (N := 7) hx hb ht uX2 hown hK hP 0 rfl rfl 4 (by decide) (ht _ k_4_70) (fun _ h9 => h9) K4_gd dX2_put_25 ?_
  refine lv_iconst (v := 1) hx hb dX2_put_28 (by decide) ?_
  refine lv_iadd hx hb dX2_put_29 ?_
  refine tk_i (y := 1) (by decide) ?_
  refine va_put (D := (dC, dI)) (ci := 2) (v := .int 1) (ty := .int) (C := RX2) (T := TX2) (N := 7) hx hb ht uX2 tyX2 tkX2 nmX2 hown hK hP hD hS 0 rfl rfl 4 (by decide) (ht _ k_4_70) (fun _ h9 => h9) rfl (by decide +kernel) rfl rfl (by rw [L_gd]; decide) dX2_put_30 (fun H locs hP hD hS => ?_)
  obtain ⟨F3, eF3⟩ : ∃ g : List Value, g = gd.set 4 (.int 1) := ⟨_, rfl⟩
  rw [← eF3] at hP hD
  have K1_F3 : F3[1]? = some (.int 0) := by rw [eF3, List.getElem?_set_ne (by decide)]; exact K1_gd
  have K2_F3 : F3[2]? = some (.ref wt) := by rw [eF3, List.getElem?_set_ne (by decide)]; exact K2_gd
  have K3_F3 : F3[3]? = some (.int 0) := by rw [eF3, List.getElem?_set_ne (by decide)]; exact K3_gd
  have K5_F3 : F3[5]? = some (.int (-1)) := by rw [eF3, List.getElem?_set_ne (by decide)]; exact K5_gd
  have K4_F3 : F3[4]? = some (.int 1) := by rw [eF3]; exact List.getElem?_set_self (by rw [L_gd]; decide)
  have L_F3 : F3.length = 7 := by rw [eF3, List.length_set]; exact L_gd
  have hP : va_P (dC, dI) cls [(d, .inr (2, F3)), (wt, .inl (cW, 24200, .inl f2))] H := hP
  have hD : va_D A [(d, .inr (2, F3)), (wt, .inl (cW, 24200, .inl f2))] := hD
  exact W.vret hx hb hr (fun t ht9 hW => ⟨⟨(F3, f2), rfl, ⟨trivial, L_F3, K1_F3, K2_F3, K3_F3, K4_F3, K5_F3⟩, by rw [ht9]; exact hP.sub [0, 1] rfl, va_K.moved hW.alike (hK.sub [0] rfl), hD.sub [0, 1] (by decide) rfl⟩, hS.F ht9⟩) hS.2.2 dX2_put_33
set_option maxHeartbeats 4000000 in
set_option maxRecDepth 100000 in
theorem m2_put_1 (l : Launch) (dC : Nat → ClassId) (dI : Nat → Nat → Nat) (sz : Nat) (d : Nat) (gd : List Value) (wt : Nat) (cW : ClassId) (fw : Nat → Int32) (p0 : Int32) (L_gd : gd.length = 7) (K1_gd : gd[1]? = some (.int 0)) (K2_gd : gd[2]? = some (.ref wt)) (K3_gd : gd[3]? = some (.int 0)) (K4_gd : gd[4]? = some (.int 1)) (K5_gd : gd[5]? = some (.int (-1))) : Met l yX2_put (Cond.code yX2_put cX2_put 2 none :: tb) ({ frames := 0, cells := 0, slots := 0, locals := 0 }) (pcw [.ref d, .int p0] (dC, dI) [(d, .inr (2, gd)), (wt, .inl (cW, 24200, .inl fw))] [(cW, .byte)] sz) (va_Qv (fun (u : (List Value) × (Nat → Int32)) => match u with | (gd1, fw1) => (True) ∧ (gd1.length = 7) ∧ (gd1[1]? = some (.int 0)) ∧ (gd1[2]? = some (.ref wt)) ∧ (gd1[3]? = some (.int 0)) ∧ (gd1[4]? = some (.int 2)) ∧ (gd1[5]? = some (.int (-1)))) (bw (dC, dI) (va_A [(d, .inr (2, gd)), (wt, .inl (cW, 24200, .inl fw))] sz) (fun (u : (List Value) × (Nat → Int32)) => match u with | (gd1, fw1) => [(d, .inr (2, gd1)), (wt, .inl (cW, 24200, .inl fw1))]) (fun (u : (List Value) × (Nat → Int32)) => match u with | (gd1, fw1) => [(cW, .byte)])) (va_A [(d, .inr (2, gd)), (wt, .inl (cW, 24200, .inl fw))] sz)) 0 0 (va_A [(d, .inr (2, gd)), (wt, .inl (cW, 24200, .inl fw))] sz) := by
  refine Met.ofW (cc := cX2_put) (maxL := 2) (ret := none) (by decide) rfl ?_
  intro p e s m args below meth c s₁ B hml hv
  obtain ⟨rfl, hsz, hP, hK, hD0⟩ := hv
  have hx := B.exec
  have hb := B.bytes
  have hr := B.returns
  have hts := atoms_spec (ws := Cond.code yX2_put cX2_put 2 none :: tb) B.pre
  have ht : ∀ w ∈ tb, w.before _ s = true := fun w h => hts w (List.mem_cons_of_mem _ h)
  have hown : s.vm.findClass RX2 = some m.cls := findClass_of_methodNamed B.named
  have hlocks := B.notSynchronized
  subst hsz
  have hD := hD0.self (sz := s.heap.size)
  generalize hAe : va_A [(d, .inr (2, gd)), (wt, .inl (cW, 24200, .inl fw))] s.heap.size = A at hD ⊢
  have hA : ∀ q : Nat, s.heap.size ≤ q → A q := fun q h => by rw [← hAe]; exact Or.inr h
  have hS : va_S A s.heap s.heap [] := va_S.rf
  have hl := lv_entry ([.ref d, .int p0]) (n := 2) (Nat.le_of_ble_eq_true rfl)
  rw [lg_entry_eq]
  generalize (lg_sl ([.ref d, .int p0]) ++ List.replicate (2 - (lg_sl ([.ref d, .int p0])).length) Slot.unset).toArray = ls at hl ⊢
  have hl : lv_has ls 2 [(0, .ref d), (1, .int p0)] := hl
  have hP : va_P (dC, dI) cls [(d, .inr (2, gd)), (wt, .inl (cW, 24200, .inl fw))] s.heap := hP
  refine lv_aload_n hx hb dX2_put_0 rfl (lv_at hl 0 rfl) ?_
  refine va_get (D := (dC, dI)) (ci := 2) (v := .int 1) (C := RX2) (T := TX2) (N := 7) hx hb ht uX2 hown hK hP 0 rfl rfl 4 (by decide) (ht _ k_4_70) (fun _ h9 => h9) K4_gd dX2_put_1 ?_
  refine lv_aload_n hx hb dX2_put_4 rfl (lv_at hl 0 rfl) ?_
  refine va_get (D := (dC, dI)) (ci := 2) (v := .ref wt) (C := RX2) (T := TX2) (N := 7) hx hb ht uX2 hown hK hP 0 rfl rfl 2 (by decide) (ht _ k_4_66) (fun _ h9 => h9) K2_gd dX2_put_5 ?_
  refine va_alen (x := (24200, .inl fw)) (v := 24200) hx hb hK hP 1 0 rfl rfl (show Int32.ofNat 24200 = 24200 by decide) dX2_put_8 ?_
  refine lv_icmp_ge (tgt := 33) hx hb dX2_put_9 (by decide) (fun c0 => absurd c0 (by decide)) (fun _ => ?_)
  refine lv_aload_n hx hb dX2_put_12 rfl (lv_at hl 0 rfl) ?_
  refine va_get (D := (dC, dI)) (ci := 2) (v := .ref wt) (C := RX2) (T := TX2) (N := 7) hx hb ht uX2 hown hK hP 0 rfl rfl 2 (by decide) (ht _ k_4_66) (fun _ h9 => h9) K2_gd dX2_put_13 ?_
  refine lv_aload_n hx hb dX2_put_16 rfl (lv_at hl 0 rfl) ?_
  refine va_get (D := (dC, dI)) (ci := 2) (v := .int 1) (C := RX2) (T := TX2) (N := 7) hx hb ht uX2 hown hK hP 0 rfl rfl 4 (by decide) (ht _ k_4_70) (fun _ h9 => h9) K4_gd dX2_put_17 ?_
  refine lv_iload_n hx hb dX2_put_20 rfl (lv_at hl 1 rfl) ?_
  refine lv_i2b hx hb dX2_put_21 rfl ?_
  refine lv_topi (fun x1 ex1 => ?_)
  refine va_bast (i := 1) (x := x1) hx hb hK hP hD hS 1 0 rfl rfl (by unfold vp_in; decide) dX2_put_22 (fun H locs hP hD hS => ?_)
  obtain ⟨f2, ef2⟩ : ∃ g : Nat → Int32, g = upd fw (1 : Int32).toNatClampNeg (vp_nar .byte x1) := ⟨_, rfl⟩
  rw [← ef2] at hP hD
  have hP : va_P (dC, dI) cls [(d, .inr (2, gd)), (wt, .inl (cW, 24200, .inl f2))] H := hP
  have hD : va_D A [(d, .inr (2, gd)), (wt, .inl (cW, 24200, .inl f2))] := hD
  refine lv_aload_n hx hb dX2_put_23 rfl (lv_at hl 0 rfl) ?_
  refine lv_dup hx hb dX2_put_24 rfl ?_
  refine va_get (D := (dC, dI)) (ci := 2) (v := .int 1) (C := RX2) (T := TX2) (N := 7) hx hb ht uX2 hown hK hP 0 rfl rfl 4 (by decide) (ht _ k_4_70) (fun _ h9 => h9) K4_gd dX2_put_25 ?_
  refine lv_iconst (v := 1) hx hb dX2_put_28 (by decide) ?_
  refine lv_iadd hx hb dX2_put_29 ?_
  refine tk_i (y := 2) (by decide) ?_
  refine va_put (D := (dC, dI)) (ci := 2) (v := .int 2) (ty := .int) (C := RX2) (T := TX2) (N := 7) hx hb ht uX2 tyX2 tkX2 nmX2 hown hK hP hD hS 0 rfl rfl 4 (by decide) (ht _ k_4_70) (fun _ h9 => h9) rfl (by decide +kernel) rfl rfl (by rw [L_gd]; decide) dX2_put_30 (fun H locs hP hD hS => ?_)
  obtain ⟨F3, eF3⟩ : ∃ g : List Value, g = gd.set 4 (.int 2) := ⟨_, rfl⟩
  rw [← eF3] at hP hD
  have K1_F3 : F3[1]? = some (.int 0) := by rw [eF3, List.getElem?_set_ne (by decide)]; exact K1_gd
  have K2_F3 : F3[2]? = some (.ref wt) := by rw [eF3, List.getElem?_set_ne (by decide)]; exact K2_gd
  have K3_F3 : F3[3]? = some (.int 0) := by rw [eF3, List.getElem?_set_ne (by decide)]; exact K3_gd
  have K5_F3 : F3[5]? = some (.int (-1)) := by rw [eF3, List.getElem?_set_ne (by decide)]; exact K5_gd
  have K4_F3 : F3[4]? = some (.int 2) := by rw [eF3]; exact List.getElem?_set_self (by rw [L_gd]; decide)
  have L_F3 : F3.length = 7 := by rw [eF3, List.length_set]; exact L_gd
  have hP : va_P (dC, dI) cls [(d, .inr (2, F3)), (wt, .inl (cW, 24200, .inl f2))] H := hP
  have hD : va_D A [(d, .inr (2, F3)), (wt, .inl (cW, 24200, .inl f2))] := hD
  exact W.vret hx hb hr (fun t ht9 hW => ⟨⟨(F3, f2), rfl, ⟨trivial, L_F3, K1_F3, K2_F3, K3_F3, K4_F3, K5_F3⟩, by rw [ht9]; exact hP.sub [0, 1] rfl, va_K.moved hW.alike (hK.sub [0] rfl), hD.sub [0, 1] (by decide) rfl⟩, hS.F ht9⟩) hS.2.2 dX2_put_33
set_option maxHeartbeats 4000000 in
set_option maxRecDepth 100000 in
theorem m2_put_2 (l : Launch) (dC : Nat → ClassId) (dI : Nat → Nat → Nat) (sz : Nat) (d : Nat) (gd : List Value) (wt : Nat) (cW : ClassId) (fw : Nat → Int32) (p0 : Int32) (L_gd : gd.length = 7) (K1_gd : gd[1]? = some (.int 0)) (K2_gd : gd[2]? = some (.ref wt)) (K3_gd : gd[3]? = some (.int 0)) (K4_gd : gd[4]? = some (.int 2)) (K5_gd : gd[5]? = some (.int (-1))) : Met l yX2_put (Cond.code yX2_put cX2_put 2 none :: tb) ({ frames := 0, cells := 0, slots := 0, locals := 0 }) (pcw [.ref d, .int p0] (dC, dI) [(d, .inr (2, gd)), (wt, .inl (cW, 24200, .inl fw))] [(cW, .byte)] sz) (va_Qv (fun (u : (List Value) × (Nat → Int32)) => match u with | (gd1, fw1) => (True) ∧ (gd1.length = 7) ∧ (gd1[1]? = some (.int 0)) ∧ (gd1[2]? = some (.ref wt)) ∧ (gd1[3]? = some (.int 0)) ∧ (gd1[4]? = some (.int 3)) ∧ (gd1[5]? = some (.int (-1)))) (bw (dC, dI) (va_A [(d, .inr (2, gd)), (wt, .inl (cW, 24200, .inl fw))] sz) (fun (u : (List Value) × (Nat → Int32)) => match u with | (gd1, fw1) => [(d, .inr (2, gd1)), (wt, .inl (cW, 24200, .inl fw1))]) (fun (u : (List Value) × (Nat → Int32)) => match u with | (gd1, fw1) => [(cW, .byte)])) (va_A [(d, .inr (2, gd)), (wt, .inl (cW, 24200, .inl fw))] sz)) 0 0 (va_A [(d, .inr (2, gd)), (wt, .inl (cW, 24200, .inl fw))] sz) := by
  refine Met.ofW (cc := cX2_put) (maxL := 2) (ret := none) (by decide) rfl ?_
  intro p e s m args below meth c s₁ B hml hv
  obtain ⟨rfl, hsz, hP, hK, hD0⟩ := hv
  have hx := B.exec
  have hb := B.bytes
  have hr := B.returns
  have hts := atoms_spec (ws := Cond.code yX2_put cX2_put 2 none :: tb) B.pre
  have ht : ∀ w ∈ tb, w.before _ s = true := fun w h => hts w (List.mem_cons_of_mem _ h)
  have hown : s.vm.findClass RX2 = some m.cls := findClass_of_methodNamed B.named
  have hlocks := B.notSynchronized
  subst hsz
  have hD := hD0.self (sz := s.heap.size)
  generalize hAe : va_A [(d, .inr (2, gd)), (wt, .inl (cW, 24200, .inl fw))] s.heap.size = A at hD ⊢
  have hA : ∀ q : Nat, s.heap.size ≤ q → A q := fun q h => by rw [← hAe]; exact Or.inr h
  have hS : va_S A s.heap s.heap [] := va_S.rf
  have hl := lv_entry ([.ref d, .int p0]) (n := 2) (Nat.le_of_ble_eq_true rfl)
  rw [lg_entry_eq]
  generalize (lg_sl ([.ref d, .int p0]) ++ List.replicate (2 - (lg_sl ([.ref d, .int p0])).length) Slot.unset).toArray = ls at hl ⊢
  have hl : lv_has ls 2 [(0, .ref d), (1, .int p0)] := hl
  have hP : va_P (dC, dI) cls [(d, .inr (2, gd)), (wt, .inl (cW, 24200, .inl fw))] s.heap := hP
  refine lv_aload_n hx hb dX2_put_0 rfl (lv_at hl 0 rfl) ?_
  refine va_get (D := (dC, dI)) (ci := 2) (v := .int 2) (C := RX2) (T := TX2) (N := 7) hx hb ht uX2 hown hK hP 0 rfl rfl 4 (by decide) (ht _ k_4_70) (fun _ h9 => h9) K4_gd dX2_put_1 ?_
  refine lv_aload_n hx hb dX2_put_4 rfl (lv_at hl 0 rfl) ?_
  refine va_get (D := (dC, dI)) (ci := 2) (v := .ref wt) (C := RX2) (T := TX2) (N := 7) hx hb ht uX2 hown hK hP 0 rfl rfl 2 (by decide) (ht _ k_4_66) (fun _ h9 => h9) K2_gd dX2_put_5 ?_
  refine va_alen (x := (24200, .inl fw)) (v := 24200) hx hb hK hP 1 0 rfl rfl (show Int32.ofNat 24200 = 24200 by decide) dX2_put_8 ?_
  refine lv_icmp_ge (tgt := 33) hx hb dX2_put_9 (by decide) (fun c0 => absurd c0 (by decide)) (fun _ => ?_)
  refine lv_aload_n hx hb dX2_put_12 rfl (lv_at hl 0 rfl) ?_
  refine va_get (D := (dC, dI)) (ci := 2) (v := .ref wt) (C := RX2) (T := TX2) (N := 7) hx hb ht uX2 hown hK hP 0 rfl rfl 2 (by decide) (ht _ k_4_66) (fun _ h9 => h9) K2_gd dX2_put_13 ?_
  refine lv_aload_n hx hb dX2_put_16 rfl (lv_at hl 0 rfl) ?_
  refine va_get (D := (dC, dI)) (ci := 2) (v := .int 2) (C := RX2) (T := TX2) (N := 7) hx hb ht uX2 hown hK hP 0 rfl rfl 4 (by decide) (ht _ k_4_70) (fun _ h9 => h9) K4_gd dX2_put_17 ?_
  refine lv_iload_n hx hb dX2_put_20 rfl (lv_at hl 1 rfl) ?_
  refine lv_i2b hx hb dX2_put_21 rfl ?_
  refine lv_topi (fun x1 ex1 => ?_)
  refine va_bast (i := 2) (x := x1) hx hb hK hP hD hS 1 0 rfl rfl (by unfold vp_in; decide) dX2_put_22 (fun H locs hP hD hS => ?_)
  obtain ⟨f2, ef2⟩ : ∃ g : Nat → Int32, g = upd fw (2 : Int32).toNatClampNeg (vp_nar .byte x1) := ⟨_, rfl⟩
  rw [← ef2] at hP hD
  have hP : va_P (dC, dI) cls [(d, .inr (2, gd)), (wt, .inl (cW, 24200, .inl f2))] H := hP
  have hD : va_D A [(d, .inr (2, gd)), (wt, .inl (cW, 24200, .inl f2))] := hD
  refine lv_aload_n hx hb dX2_put_23 rfl (lv_at hl 0 rfl) ?_
  refine lv_dup hx hb dX2_put_24 rfl ?_
  refine va_get (D := (dC, dI)) (ci := 2) (v := .int 2) (C := RX2) (T := TX2) (N := 7) hx hb ht uX2 hown hK hP 0 rfl rfl 4 (by decide) (ht _ k_4_70) (fun _ h9 => h9) K4_gd dX2_put_25 ?_
  refine lv_iconst (v := 1) hx hb dX2_put_28 (by decide) ?_
  refine lv_iadd hx hb dX2_put_29 ?_
  refine tk_i (y := 3) (by decide) ?_
  refine va_put (D := (dC, dI)) (ci := 2) (v := .int 3) (ty := .int) (C := RX2) (T := TX2) (N := 7) hx hb ht uX2 tyX2 tkX2 nmX2 hown hK hP hD hS 0 rfl rfl 4 (by decide) (ht _ k_4_70) (fun _ h9 => h9) rfl (by decide +kernel) rfl rfl (by rw [L_gd]; decide) dX2_put_30 (fun H locs hP hD hS => ?_)
  obtain ⟨F3, eF3⟩ : ∃ g : List Value, g = gd.set 4 (.int 3) := ⟨_, rfl⟩
  rw [← eF3] at hP hD
  have K1_F3 : F3[1]? = some (.int 0) := by rw [eF3, List.getElem?_set_ne (by decide)]; exact K1_gd
  have K2_F3 : F3[2]? = some (.ref wt) := by rw [eF3, List.getElem?_set_ne (by decide)]; exact K2_gd
  have K3_F3 : F3[3]? = some (.int 0) := by rw [eF3, List.getElem?_set_ne (by decide)]; exact K3_gd
  have K5_F3 : F3[5]? = some (.int (-1)) := by rw [eF3, List.getElem?_set_ne (by decide)]; exact K5_gd
  have K4_F3 : F3[4]? = some (.int 3) := by rw [eF3]; exact List.getElem?_set_self (by rw [L_gd]; decide)
  have L_F3 : F3.length = 7 := by rw [eF3, List.length_set]; exact L_gd
  have hP : va_P (dC, dI) cls [(d, .inr (2, F3)), (wt, .inl (cW, 24200, .inl f2))] H := hP
  have hD : va_D A [(d, .inr (2, F3)), (wt, .inl (cW, 24200, .inl f2))] := hD
  exact W.vret hx hb hr (fun t ht9 hW => ⟨⟨(F3, f2), rfl, ⟨trivial, L_F3, K1_F3, K2_F3, K3_F3, K4_F3, K5_F3⟩, by rw [ht9]; exact hP.sub [0, 1] rfl, va_K.moved hW.alike (hK.sub [0] rfl), hD.sub [0, 1] (by decide) rfl⟩, hS.F ht9⟩) hS.2.2 dX2_put_33
set_option maxHeartbeats 4000000 in
set_option maxRecDepth 100000 in
theorem m2_put_3 (l : Launch) (dC : Nat → ClassId) (dI : Nat → Nat → Nat) (sz : Nat) (d : Nat) (gd : List Value) (wt : Nat) (cW : ClassId) (fw : Nat → Int32) (p0 : Int32) (L_gd : gd.length = 7) (K1_gd : gd[1]? = some (.int 0)) (K2_gd : gd[2]? = some (.ref wt)) (K3_gd : gd[3]? = some (.int 1)) (K4_gd : gd[4]? = some (.int 3)) (K5_gd : gd[5]? = some (.int (-1))) : Met l yX2_put (Cond.code yX2_put cX2_put 2 none :: tb) ({ frames := 0, cells := 0, slots := 0, locals := 0 }) (pcw [.ref d, .int p0] (dC, dI) [(d, .inr (2, gd)), (wt, .inl (cW, 24200, .inl fw))] [(cW, .byte)] sz) (va_Qv (fun (u : (List Value) × (Nat → Int32)) => match u with | (gd1, fw1) => (True) ∧ (gd1.length = 7) ∧ (gd1[1]? = some (.int 0)) ∧ (gd1[2]? = some (.ref wt)) ∧ (gd1[3]? = some (.int 1)) ∧ (gd1[4]? = some (.int 4)) ∧ (gd1[5]? = some (.int (-1)))) (bw (dC, dI) (va_A [(d, .inr (2, gd)), (wt, .inl (cW, 24200, .inl fw))] sz) (fun (u : (List Value) × (Nat → Int32)) => match u with | (gd1, fw1) => [(d, .inr (2, gd1)), (wt, .inl (cW, 24200, .inl fw1))]) (fun (u : (List Value) × (Nat → Int32)) => match u with | (gd1, fw1) => [(cW, .byte)])) (va_A [(d, .inr (2, gd)), (wt, .inl (cW, 24200, .inl fw))] sz)) 0 0 (va_A [(d, .inr (2, gd)), (wt, .inl (cW, 24200, .inl fw))] sz) := by
  refine Met.ofW (cc := cX2_put) (maxL := 2) (ret := none) (by decide) rfl ?_
  intro p e s m args below meth c s₁ B hml hv
  obtain ⟨rfl, hsz, hP, hK, hD0⟩ := hv
  have hx := B.exec
  have hb := B.bytes
  have hr := B.returns
  have hts := atoms_spec (ws := Cond.code yX2_put cX2_put 2 none :: tb) B.pre
  have ht : ∀ w ∈ tb, w.before _ s = true := fun w h => hts w (List.mem_cons_of_mem _ h)
  have hown : s.vm.findClass RX2 = some m.cls := findClass_of_methodNamed B.named
  have hlocks := B.notSynchronized
  subst hsz
  have hD := hD0.self (sz := s.heap.size)
  generalize hAe : va_A [(d, .inr (2, gd)), (wt, .inl (cW, 24200, .inl fw))] s.heap.size = A at hD ⊢
  have hA : ∀ q : Nat, s.heap.size ≤ q → A q := fun q h => by rw [← hAe]; exact Or.inr h
  have hS : va_S A s.heap s.heap [] := va_S.rf
  have hl := lv_entry ([.ref d, .int p0]) (n := 2) (Nat.le_of_ble_eq_true rfl)
  rw [lg_entry_eq]
  generalize (lg_sl ([.ref d, .int p0]) ++ List.replicate (2 - (lg_sl ([.ref d, .int p0])).length) Slot.unset).toArray = ls at hl ⊢
  have hl : lv_has ls 2 [(0, .ref d), (1, .int p0)] := hl
  have hP : va_P (dC, dI) cls [(d, .inr (2, gd)), (wt, .inl (cW, 24200, .inl fw))] s.heap := hP
  refine lv_aload_n hx hb dX2_put_0 rfl (lv_at hl 0 rfl) ?_
  refine va_get (D := (dC, dI)) (ci := 2) (v := .int 3) (C := RX2) (T := TX2) (N := 7) hx hb ht uX2 hown hK hP 0 rfl rfl 4 (by decide) (ht _ k_4_70) (fun _ h9 => h9) K4_gd dX2_put_1 ?_
  refine lv_aload_n hx hb dX2_put_4 rfl (lv_at hl 0 rfl) ?_
  refine va_get (D := (dC, dI)) (ci := 2) (v := .ref wt) (C := RX2) (T := TX2) (N := 7) hx hb ht uX2 hown hK hP 0 rfl rfl 2 (by decide) (ht _ k_4_66) (fun _ h9 => h9) K2_gd dX2_put_5 ?_
  refine va_alen (x := (24200, .inl fw)) (v := 24200) hx hb hK hP 1 0 rfl rfl (show Int32.ofNat 24200 = 24200 by decide) dX2_put_8 ?_
  refine lv_icmp_ge (tgt := 33) hx hb dX2_put_9 (by decide) (fun c0 => absurd c0 (by decide)) (fun _ => ?_)
  refine lv_aload_n hx hb dX2_put_12 rfl (lv_at hl 0 rfl) ?_
  refine va_get (D := (dC, dI)) (ci := 2) (v := .ref wt) (C := RX2) (T := TX2) (N := 7) hx hb ht uX2 hown hK hP 0 rfl rfl 2 (by decide) (ht _ k_4_66) (fun _ h9 => h9) K2_gd dX2_put_13 ?_
  refine lv_aload_n hx hb dX2_put_16 rfl (lv_at hl 0 rfl) ?_
  refine va_get (D := (dC, dI)) (ci := 2) (v := .int 3) (C := RX2) (T := TX2) (N := 7) hx hb ht uX2 hown hK hP 0 rfl rfl 4 (by decide) (ht _ k_4_70) (fun _ h9 => h9) K4_gd dX2_put_17 ?_
  refine lv_iload_n hx hb dX2_put_20 rfl (lv_at hl 1 rfl) ?_
  refine lv_i2b hx hb dX2_put_21 rfl ?_
  refine lv_topi (fun x1 ex1 => ?_)
  refine va_bast (i := 3) (x := x1) hx hb hK hP hD hS 1 0 rfl rfl (by unfold vp_in; decide) dX2_put_22 (fun H locs hP hD hS => ?_)
  obtain ⟨f2, ef2⟩ : ∃ g : Nat → Int32, g = upd fw (3 : Int32).toNatClampNeg (vp_nar .byte x1) := ⟨_, rfl⟩
  rw [← ef2] at hP hD
  have hP : va_P (dC, dI) cls [(d, .inr (2, gd)), (wt, .inl (cW, 24200, .inl f2))] H := hP
  have hD : va_D A [(d, .inr (2, gd)), (wt, .inl (cW, 24200, .inl f2))] := hD
  refine lv_aload_n hx hb dX2_put_23 rfl (lv_at hl 0 rfl) ?_
  refine lv_dup hx hb dX2_put_24 rfl ?_
  refine va_get (D := (dC, dI)) (ci := 2) (v := .int 3) (C := RX2) (T := TX2) (N := 7) hx hb ht uX2 hown hK hP 0 rfl rfl 4 (by decide) (ht _ k_4_70) (fun _ h9 => h9) K4_gd dX2_put_25 ?_
  refine lv_iconst (v := 1) hx hb dX2_put_28 (by decide) ?_
  refine lv_iadd hx hb dX2_put_29 ?_
  refine tk_i (y := 4) (by decide) ?_
  refine va_put (D := (dC, dI)) (ci := 2) (v := .int 4) (ty := .int) (C := RX2) (T := TX2) (N := 7) hx hb ht uX2 tyX2 tkX2 nmX2 hown hK hP hD hS 0 rfl rfl 4 (by decide) (ht _ k_4_70) (fun _ h9 => h9) rfl (by decide +kernel) rfl rfl (by rw [L_gd]; decide) dX2_put_30 (fun H locs hP hD hS => ?_)
  obtain ⟨F3, eF3⟩ : ∃ g : List Value, g = gd.set 4 (.int 4) := ⟨_, rfl⟩
  rw [← eF3] at hP hD
  have K1_F3 : F3[1]? = some (.int 0) := by rw [eF3, List.getElem?_set_ne (by decide)]; exact K1_gd
  have K2_F3 : F3[2]? = some (.ref wt) := by rw [eF3, List.getElem?_set_ne (by decide)]; exact K2_gd
  have K3_F3 : F3[3]? = some (.int 1) := by rw [eF3, List.getElem?_set_ne (by decide)]; exact K3_gd
  have K5_F3 : F3[5]? = some (.int (-1)) := by rw [eF3, List.getElem?_set_ne (by decide)]; exact K5_gd
  have K4_F3 : F3[4]? = some (.int 4) := by rw [eF3]; exact List.getElem?_set_self (by rw [L_gd]; decide)
  have L_F3 : F3.length = 7 := by rw [eF3, List.length_set]; exact L_gd
  have hP : va_P (dC, dI) cls [(d, .inr (2, F3)), (wt, .inl (cW, 24200, .inl f2))] H := hP
  have hD : va_D A [(d, .inr (2, F3)), (wt, .inl (cW, 24200, .inl f2))] := hD
  exact W.vret hx hb hr (fun t ht9 hW => ⟨⟨(F3, f2), rfl, ⟨trivial, L_F3, K1_F3, K2_F3, K3_F3, K4_F3, K5_F3⟩, by rw [ht9]; exact hP.sub [0, 1] rfl, va_K.moved hW.alike (hK.sub [0] rfl), hD.sub [0, 1] (by decide) rfl⟩, hS.F ht9⟩) hS.2.2 dX2_put_33
set_option maxHeartbeats 4000000 in
set_option maxRecDepth 100000 in
theorem m2_record (l : Launch) (dC : Nat → ClassId) (dI : Nat → Nat → Nat) (sz : Nat) (d : Nat) (gd : List Value) (wt : Nat) (cW : ClassId) (fw : Nat → Int32) (L_gd : gd.length = 7) (K1_gd : gd[1]? = some (.int 0)) (K2_gd : gd[2]? = some (.ref wt)) (K3_gd : gd[3]? = some (.int 0)) (K4_gd : gd[4]? = some (.int 0)) (K5_gd : gd[5]? = some (.int (-1))) : Met l yX2_record (Cond.code yX2_record cX2_record 3 none :: tb) ({ frames := 1, cells := 0, slots := 0, locals := 21 }) (pcw [.ref d, .int 4, .int 1] (dC, dI) [(d, .inr (2, gd)), (wt, .inl (cW, 24200, .inl fw))] [(cW, .byte)] sz) (va_Qv (fun (u : (List Value) × (Nat → Int32)) => match u with | (gd1, fw1) => (True) ∧ (gd1.length = 7) ∧ (gd1[1]? = some (.int 0)) ∧ (gd1[2]? = some (.ref wt)) ∧ (gd1[3]? = some (.int 1)) ∧ (gd1[4]? = some (.int 3)) ∧ (gd1[5]? = some (.int (-1)))) (bw (dC, dI) (va_A [(d, .inr (2, gd)), (wt, .inl (cW, 24200, .inl fw))] sz) (fun (u : (List Value) × (Nat → Int32)) => match u with | (gd1, fw1) => [(d, .inr (2, gd1)), (wt, .inl (cW, 24200, .inl fw1))]) (fun (u : (List Value) × (Nat → Int32)) => match u with | (gd1, fw1) => [(cW, .byte)])) (va_A [(d, .inr (2, gd)), (wt, .inl (cW, 24200, .inl fw))] sz)) 0 0 (va_A [(d, .inr (2, gd)), (wt, .inl (cW, 24200, .inl fw))] sz) := by
  refine Met.ofW (cc := cX2_record) (maxL := 3) (ret := none) (by decide) rfl ?_
  intro p e s m args below meth c s₁ B hml hv
  obtain ⟨rfl, hsz, hP, hK, hD0⟩ := hv
  have hx := B.exec
  have hb := B.bytes
  have hr := B.returns
  have hts := atoms_spec (ws := Cond.code yX2_record cX2_record 3 none :: tb) B.pre
  have ht : ∀ w ∈ tb, w.before _ s = true := fun w h => hts w (List.mem_cons_of_mem _ h)
  have hown : s.vm.findClass RX2 = some m.cls := findClass_of_methodNamed B.named
  have hlocks := B.notSynchronized
  subst hsz
  have hD := hD0.self (sz := s.heap.size)
  generalize hAe : va_A [(d, .inr (2, gd)), (wt, .inl (cW, 24200, .inl fw))] s.heap.size = A at hD ⊢
  have hA : ∀ q : Nat, s.heap.size ≤ q → A q := fun q h => by rw [← hAe]; exact Or.inr h
  have hS : va_S A s.heap s.heap [] := va_S.rf
  have hl := lv_entry ([.ref d, .int 4, .int 1]) (n := 3) (Nat.le_of_ble_eq_true rfl)
  rw [lg_entry_eq]
  generalize (lg_sl ([.ref d, .int 4, .int 1]) ++ List.replicate (3 - (lg_sl ([.ref d, .int 4, .int 1])).length) Slot.unset).toArray = ls at hl ⊢
  have hl : lv_has ls 3 [(0, .ref d), (1, .int 4), (2, .int 1)] := hl
  have hP : va_P (dC, dI) cls [(d, .inr (2, gd)), (wt, .inl (cW, 24200, .inl fw))] s.heap := hP
  refine lv_aload_n hx hb dX2_record_0 rfl (lv_at hl 0 rfl) ?_
  refine lv_iload_n hx hb dX2_record_1 rfl (lv_at hl 1 rfl) ?_
  refine ca_v (wr := []) (va_runV (As := [.int 4]) (rest := []) ⟨hx, hb, hml, hown, ht⟩ (m2_put_0 l dC dI s.heap.size d gd wt cW fw 4 L_gd K1_gd K2_gd K3_gd K4_gd K5_gd ) (cwV 1 ht (gdV k_5_219 k_5_216 k_5_217 k_5_218 k_1_16) rfl rfl rfl (by decide +kernel) ⟨Nat.le_of_ble_eq_true rfl, Nat.le_of_ble_eq_true rfl⟩) ⟨pcw_blind, va_recv hK hP (ci := 2) (q0 := 0) rfl rfl, pcw_at hP hD hK [0, 1] [0] (by decide) rfl rfl rfl⟩ rfl rfl hl.1 rfl (lv_room (Nat.le_of_ble_eq_true rfl)) dX2_record_2 ⟨Nat.le_of_ble_eq_true rfl, Nat.le_of_ble_eq_true rfl⟩) hP hD hK hS hA [0, 1] [] rfl rfl (by decide) (by decide) (fun u H locs w2 hK hP hD hS => ?_)
  obtain ⟨F3, y4⟩ := u
  have hK : va_K (dC, dI) cls [(cW, .byte), (cW, .byte)] s := hK
  have hP : va_P (dC, dI) cls [(d, .inr (2, F3)), (wt, .inl (cW, 24200, .inl y4))] H := hP
  have hD : va_D A [(d, .inr (2, F3)), (wt, .inl (cW, 24200, .inl y4))] := hD
  obtain ⟨w2, K5, K6, K7, K8, K9, K10⟩ := w2
  refine lv_aload_n hx hb dX2_record_5 rfl (lv_at hl 0 rfl) ?_
  refine lv_iload_n hx hb dX2_record_6 rfl (lv_at hl 2 rfl) ?_
  refine lv_bipush (v := 8) hx hb dX2_record_7 (by decide) ?_
  refine lv_ishr hx hb dX2_record_9 ?_
  refine tk_i (y := 0) (by decide) ?_
  refine ca_v (wr := []) (va_runV (As := [.int 0]) (rest := []) ⟨hx, hb, hml, hown, ht⟩ (m2_put_1 l dC dI H.size d F3 wt cW y4 0 K5 K6 K7 K8 K9 K10 ) (cwV 1 ht (gdV k_5_219 k_5_216 k_5_217 k_5_218 k_1_16) rfl rfl rfl (by decide +kernel) ⟨Nat.le_of_ble_eq_true rfl, Nat.le_of_ble_eq_true rfl⟩) ⟨pcw_blind, va_recv hK hP (ci := 2) (q0 := 0) rfl rfl, pcw_at hP hD hK [0, 1] [0] (by decide) rfl rfl rfl⟩ rfl rfl hl.1 rfl (lv_room (Nat.le_of_ble_eq_true rfl)) dX2_record_10 ⟨Nat.le_of_ble_eq_true rfl, Nat.le_of_ble_eq_true rfl⟩) hP hD hK hS hA [0, 1] [] rfl rfl (by decide) (by decide) (fun u H locs w12 hK hP hD hS => ?_)
  obtain ⟨F13, y14⟩ := u
  have hK : va_K (dC, dI) cls [(cW, .byte), (cW, .byte), (cW, .byte)] s := hK
  have hP : va_P (dC, dI) cls [(d, .inr (2, F13)), (wt, .inl (cW, 24200, .inl y14))] H := hP
  have hD : va_D A [(d, .inr (2, F13)), (wt, .inl (cW, 24200, .inl y14))] := hD
  obtain ⟨w12, K15, K16, K17, K18, K19, K20⟩ := w12
  refine lv_aload_n hx hb dX2_record_13 rfl (lv_at hl 0 rfl) ?_
  refine lv_iload_n hx hb dX2_record_14 rfl (lv_at hl 2 rfl) ?_
  refine ca_v (wr := []) (va_runV (As := [.int 1]) (rest := []) ⟨hx, hb, hml, hown, ht⟩ (m2_put_2 l dC dI H.size d F13 wt cW y14 1 K15 K16 K17 K18 K19 K20 ) (cwV 1 ht (gdV k_5_219 k_5_216 k_5_217 k_5_218 k_1_16) rfl rfl rfl (by decide +kernel) ⟨Nat.le_of_ble_eq_true rfl, Nat.le_of_ble_eq_true rfl⟩) ⟨pcw_blind, va_recv hK hP (ci := 2) (q0 := 0) rfl rfl, pcw_at hP hD hK [0, 1] [0] (by decide) rfl rfl rfl⟩ rfl rfl hl.1 rfl (lv_room (Nat.le_of_ble_eq_true rfl)) dX2_record_15 ⟨Nat.le_of_ble_eq_true rfl, Nat.le_of_ble_eq_true rfl⟩) hP hD hK hS hA [0, 1] [] rfl rfl (by decide) (by decide) (fun u H locs w22 hK hP hD hS => ?_)
  obtain ⟨F23, y24⟩ := u
  have hK : va_K (dC, dI) cls [(cW, .byte), (cW, .byte), (cW, .byte), (cW, .byte)] s := hK
  have hP : va_P (dC, dI) cls [(d, .inr (2, F23)), (wt, .inl (cW, 24200, .inl y24))] H := hP
  have hD : va_D A [(d, .inr (2, F23)), (wt, .inl (cW, 24200, .inl y24))] := hD
  obtain ⟨w22, K25, K26, K27, K28, K29, K30⟩ := w22
  refine lv_aload_n hx hb dX2_record_18 rfl (lv_at hl 0 rfl) ?_
  refine lv_dup hx hb dX2_record_19 rfl ?_
  refine va_get (D := (dC, dI)) (ci := 2) (v := .int 0) (C := RX2) (T := TX2) (N := 7) hx hb ht uX2 hown hK hP 0 rfl rfl 3 (by decide) (ht _ k_4_68) (fun _ h9 => h9) K28 dX2_record_20 ?_
  refine lv_iconst (v := 1) hx hb dX2_record_23 (by decide) ?_
  refine lv_iadd hx hb dX2_record_24 ?_
  refine tk_i (y := 1) (by decide) ?_
  refine va_put (D := (dC, dI)) (ci := 2) (v := .int 1) (ty := .int) (C := RX2) (T := TX2) (N := 7) hx hb ht uX2 tyX2 tkX2 nmX2 hown hK hP hD hS 0 rfl rfl 3 (by decide) (ht _ k_4_68) (fun _ h9 => h9) rfl (by decide +kernel) rfl rfl (by rw [K25]; decide) dX2_record_25 (fun H locs hP hD hS => ?_)
  obtain ⟨F31, eF31⟩ : ∃ g : List Value, g = F23.set 3 (.int 1) := ⟨_, rfl⟩
  rw [← eF31] at hP hD
  have K1_F31 : F31[1]? = some (.int 0) := by rw [eF31, List.getElem?_set_ne (by decide)]; exact K26
  have K2_F31 : F31[2]? = some (.ref wt) := by rw [eF31, List.getElem?_set_ne (by decide)]; exact K27
  have K4_F31 : F31[4]? = some (.int 3) := by rw [eF31, List.getElem?_set_ne (by decide)]; exact K29
  have K5_F31 : F31[5]? = some (.int (-1)) := by rw [eF31, List.getElem?_set_ne (by decide)]; exact K30
  have K3_F31 : F31[3]? = some (.int 1) := by rw [eF31]; exact List.getElem?_set_self (by rw [K25]; decide)
  have L_F31 : F31.length = 7 := by rw [eF31, List.length_set]; exact K25
  have hP : va_P (dC, dI) cls [(d, .inr (2, F31)), (wt, .inl (cW, 24200, .inl y24))] H := hP
  have hD : va_D A [(d, .inr (2, F31)), (wt, .inl (cW, 24200, .inl y24))] := hD
  exact W.vret hx hb hr (fun t ht9 hW => ⟨⟨(F31, y24), rfl, ⟨trivial, L_F31, K1_F31, K2_F31, K3_F31, K4_F31, K5_F31⟩, by rw [ht9]; exact hP.sub [0, 1] rfl, va_K.moved hW.alike (hK.sub [0] rfl), hD.sub [0, 1] (by decide) rfl⟩, hS.F ht9⟩) hS.2.2 dX2_record_28
set_option maxHeartbeats 4000000 in
set_option maxRecDepth 100000 in
theorem m2_putAll (l : Launch) (dC : Nat → ClassId) (dI : Nat → Nat → Nat) (sz : Nat) (d : Nat) (gd : List Value) (tp : Nat) (L_gd : gd.length = 7) : Met l yX2_putAll (Cond.code yX2_putAll cX2_putAll 5 none :: tb) ({ frames := 0, cells := 0, slots := 0, locals := 0 }) (pcw [.ref d, .ref tp, .int 0, .int 0] (dC, dI) [(d, .inr (2, gd))] [] sz) (va_Qv (fun (_ : Unit) => True) (bw (dC, dI) (va_A [(d, .inr (2, gd))] sz) (fun (_ : Unit) => []) (fun (_ : Unit) => [])) (va_A [(d, .inr (2, gd))] sz)) 0 0 (va_A [(d, .inr (2, gd))] sz) := by
  refine Met.ofW (cc := cX2_putAll) (maxL := 5) (ret := none) (by decide) rfl ?_
  intro p e s m args below meth c s₁ B hml hv
  obtain ⟨rfl, hsz, hP, hK, hD0⟩ := hv
  have hx := B.exec
  have hb := B.bytes
  have hr := B.returns
  have hts := atoms_spec (ws := Cond.code yX2_putAll cX2_putAll 5 none :: tb) B.pre
  have ht : ∀ w ∈ tb, w.before _ s = true := fun w h => hts w (List.mem_cons_of_mem _ h)
  have hown : s.vm.findClass RX2 = some m.cls := findClass_of_methodNamed B.named
  have hlocks := B.notSynchronized
  subst hsz
  have hD := hD0.self (sz := s.heap.size)
  generalize hAe : va_A [(d, .inr (2, gd))] s.heap.size = A at hD ⊢
  have hA : ∀ q : Nat, s.heap.size ≤ q → A q := fun q h => by rw [← hAe]; exact Or.inr h
  have hS : va_S A s.heap s.heap [] := va_S.rf
  have hl := lv_entry ([.ref d, .ref tp, .int 0, .int 0]) (n := 5) (Nat.le_of_ble_eq_true rfl)
  rw [lg_entry_eq]
  generalize (lg_sl ([.ref d, .ref tp, .int 0, .int 0]) ++ List.replicate (5 - (lg_sl ([.ref d, .ref tp, .int 0, .int 0])).length) Slot.unset).toArray = ls at hl ⊢
  have hl : lv_has ls 5 [(0, .ref d), (1, .ref tp), (2, .int 0), (3, .int 0)] := hl
  have hP : va_P (dC, dI) cls [(d, .inr (2, gd))] s.heap := hP
  refine lv_iload_n hx hb dX2_putAll_0 rfl (lv_at hl 2 rfl) ?_
  refine lv_istore (lv' := [(4, .int 0), (0, .ref d), (1, .ref tp), (2, .int 0), (3, .int 0)]) hx hb dX2_putAll_1 hl (by decide) rfl (fun ls hl => ?_)
  refine lv_iload hx hb dX2_putAll_3 (lv_at hl 0 rfl) ?_
  refine lv_iload_n hx hb dX2_putAll_5 rfl (lv_at hl 3 rfl) ?_
  refine lv_iload_n hx hb dX2_putAll_6 rfl (lv_at hl 4 rfl) ?_
  refine lv_iadd hx hb dX2_putAll_7 ?_
  refine tk_i (y := 0) (by decide) ?_
  refine lv_icmp_ge (tgt := 32) hx hb dX2_putAll_8 (by decide) (fun _ => ?_) (fun c0 => absurd c0 (by decide))
  exact W.vret hx hb hr (fun t ht9 hW => ⟨⟨(), rfl, trivial, by rw [ht9]; exact hP.sub [] rfl, va_K.moved hW.alike (hK.sub [] rfl), hD.sub [] (by decide) rfl⟩, hS.F ht9⟩) hS.2.2 dX2_putAll_32
set_option maxHeartbeats 4000000 in
set_option maxRecDepth 100000 in
theorem m2_hasRoom (l : Launch) (dC : Nat → ClassId) (dI : Nat → Nat → Nat) (sz : Nat) (d : Nat) (gd : List Value) (L_gd : gd.length = 7) (K1_gd : gd[1]? = some (.int 0)) (K4_gd : gd[4]? = some (.int 0)) : Met l yX2_hasRoom (Cond.code yX2_hasRoom cX2_hasRoom 2 (some .boolean) :: tb) ({ frames := 0, cells := 0, slots := 0, locals := 0 }) (pcw [.ref d, .int 1] (dC, dI) [(d, .inr (2, gd))] [] sz) (va_Qi (fun (r : Int32) => (fun (_ : Unit) => r = 1)) (bw (dC, dI) (va_A [(d, .inr (2, gd))] sz) (fun (_ : Unit) => [(d, .inr (2, gd))]) (fun (_ : Unit) => [])) (va_A [(d, .inr (2, gd))] sz)) 0 0 (va_A [(d, .inr (2, gd))] sz) := by
  refine Met.ofW (cc := cX2_hasRoom) (maxL := 2) (ret := (some .boolean)) (by decide) rfl ?_
  intro p e s m args below meth c s₁ B hml hv
  obtain ⟨rfl, hsz, hP, hK, hD0⟩ := hv
  have hx := B.exec
  have hb := B.bytes
  have hr := B.returns
  have hts := atoms_spec (ws := Cond.code yX2_hasRoom cX2_hasRoom 2 (some .boolean) :: tb) B.pre
  have ht : ∀ w ∈ tb, w.before _ s = true := fun w h => hts w (List.mem_cons_of_mem _ h)
  have hown : s.vm.findClass RX2 = some m.cls := findClass_of_methodNamed B.named
  have hlocks := B.notSynchronized
  subst hsz
  have hD := hD0.self (sz := s.heap.size)
  generalize hAe : va_A [(d, .inr (2, gd))] s.heap.size = A at hD ⊢
  have hA : ∀ q : Nat, s.heap.size ≤ q → A q := fun q h => by rw [← hAe]; exact Or.inr h
  have hS : va_S A s.heap s.heap [] := va_S.rf
  have hl := lv_entry ([.ref d, .int 1]) (n := 2) (Nat.le_of_ble_eq_true rfl)
  rw [lg_entry_eq]
  generalize (lg_sl ([.ref d, .int 1]) ++ List.replicate (2 - (lg_sl ([.ref d, .int 1])).length) Slot.unset).toArray = ls at hl ⊢
  have hl : lv_has ls 2 [(0, .ref d), (1, .int 1)] := hl
  have hP : va_P (dC, dI) cls [(d, .inr (2, gd))] s.heap := hP
  refine lv_aload_n hx hb dX2_hasRoom_0 rfl (lv_at hl 0 rfl) ?_
  refine va_get (D := (dC, dI)) (ci := 2) (v := .int 0) (C := RX2) (T := TX2) (N := 7) hx hb ht uX2 hown hK hP 0 rfl rfl 4 (by decide) (ht _ k_4_70) (fun _ h9 => h9) K4_gd dX2_hasRoom_1 ?_
  refine lv_iconst (v := 3) hx hb dX2_hasRoom_4 (by decide) ?_
  refine lv_iadd hx hb dX2_hasRoom_5 ?_
  refine tk_i (y := 3) (by decide) ?_
  refine lv_iload_n hx hb dX2_hasRoom_6 rfl (lv_at hl 1 rfl) ?_
  refine lv_iadd hx hb dX2_hasRoom_7 ?_
  refine tk_i (y := 4) (by decide) ?_
  refine lv_sipush (v := 200) hx hb dX2_hasRoom_8 (by decide) ?_
  refine lv_aload_n hx hb dX2_hasRoom_11 rfl (lv_at hl 0 rfl) ?_
  refine va_get (D := (dC, dI)) (ci := 2) (v := .int 0) (C := RX2) (T := TX2) (N := 7) hx hb ht uX2 hown hK hP 0 rfl rfl 1 (by decide) (ht _ k_4_64) (fun _ h9 => h9) K1_gd dX2_hasRoom_12 ?_
  refine lv_isub hx hb dX2_hasRoom_15 ?_
  refine tk_i (y := 200) (by decide) ?_
  refine lv_bipush (v := 121) hx hb dX2_hasRoom_16 (by decide) ?_
  refine lv_imul hx hb dX2_hasRoom_18 ?_
  refine tk_i (y := 24200) (by decide) ?_
  refine lv_icmp_gt (tgt := 26) hx hb dX2_hasRoom_19 (by decide) (fun c0 => absurd c0 (by decide)) (fun _ => ?_)
  refine lv_iconst (v := 1) hx hb dX2_hasRoom_22 (by decide) ?_
  refine lv_goto (tgt := 27) hx hb dX2_hasRoom_23 (by decide) ?_
  exact W.zret (v := 1) hx hb hr rfl (fun t ht9 hW => ⟨⟨1, (), rfl, rfl, by rw [ht9]; exact hP.sub [0] rfl, va_K.moved hW.alike (hK.sub [] rfl), hD.sub [0] (by decide) rfl⟩, hS.F ht9⟩) hS.2.2 dX2_hasRoom_27
set_option maxHeartbeats 4000000 in
set_option maxRecDepth 100000 in
theorem m5_isFull (l : Launch) (dC : Nat → ClassId) (dI : Nat → Nat → Nat) (sz : Nat) (ma : Nat) (gm : List Value) (L_gm : gm.length = 15) (K0_gm : gm[0]? = some (.int 0)) : Met l yX5_isFull (Cond.code yX5_isFull cX5_isFull 1 (some .boolean) :: tb) ({ frames := 0, cells := 0, slots := 0, locals := 0 }) (pcw [.ref ma] (dC, dI) [(ma, .inr (5, gm))] [] sz) (va_Qi (fun (r : Int32) => (fun (_ : Unit) => r = 0)) (bw (dC, dI) (va_A [(ma, .inr (5, gm))] sz) (fun (_ : Unit) => [(ma, .inr (5, gm))]) (fun (_ : Unit) => [])) (va_A [(ma, .inr (5, gm))] sz)) 0 0 (va_A [(ma, .inr (5, gm))] sz) := by
  refine Met.ofW (cc := cX5_isFull) (maxL := 1) (ret := (some .boolean)) (by decide) rfl ?_
  intro p e s m args below meth c s₁ B hml hv
  obtain ⟨rfl, hsz, hP, hK, hD0⟩ := hv
  have hx := B.exec
  have hb := B.bytes
  have hr := B.returns
  have hts := atoms_spec (ws := Cond.code yX5_isFull cX5_isFull 1 (some .boolean) :: tb) B.pre
  have ht : ∀ w ∈ tb, w.before _ s = true := fun w h => hts w (List.mem_cons_of_mem _ h)
  have hown : s.vm.findClass RX5 = some m.cls := findClass_of_methodNamed B.named
  have hlocks := B.notSynchronized
  subst hsz
  have hD := hD0.self (sz := s.heap.size)
  generalize hAe : va_A [(ma, .inr (5, gm))] s.heap.size = A at hD ⊢
  have hA : ∀ q : Nat, s.heap.size ≤ q → A q := fun q h => by rw [← hAe]; exact Or.inr h
  have hS : va_S A s.heap s.heap [] := va_S.rf
  have hl := lv_entry ([.ref ma]) (n := 1) (Nat.le_of_ble_eq_true rfl)
  rw [lg_entry_eq]
  generalize (lg_sl ([.ref ma]) ++ List.replicate (1 - (lg_sl ([.ref ma])).length) Slot.unset).toArray = ls at hl ⊢
  have hl : lv_has ls 1 [(0, .ref ma)] := hl
  have hP : va_P (dC, dI) cls [(ma, .inr (5, gm))] s.heap := hP
  refine lv_aload_n hx hb dX5_isFull_0 rfl (lv_at hl 0 rfl) ?_
  refine va_get (D := (dC, dI)) (ci := 5) (v := .int 0) (C := RX5) (T := TX5) (N := 15) hx hb ht uX5 hown hK hP 0 rfl rfl 0 (by decide) (ht _ k_4_7) (fun _ h9 => h9) K0_gm dX5_isFull_1 ?_
  refine lv_bipush (v := 20) hx hb dX5_isFull_4 (by decide) ?_
  refine lv_icmp_lt (tgt := 13) hx hb dX5_isFull_6 (by decide) (fun _ => ?_) (fun c0 => absurd c0 (by decide))
  refine lv_iconst (v := 0) hx hb dX5_isFull_13 (by decide) ?_
  exact W.zret (v := 0) hx hb hr rfl (fun t ht9 hW => ⟨⟨0, (), rfl, rfl, by rw [ht9]; exact hP.sub [0] rfl, va_K.moved hW.alike (hK.sub [] rfl), hD.sub [0] (by decide) rfl⟩, hS.F ht9⟩) hS.2.2 dX5_isFull_14
set_option maxHeartbeats 4000000 in
set_option maxRecDepth 100000 in
theorem m5_bitsOf (l : Launch) (dC : Nat → ClassId) (dI : Nat → Nat → Nat) (sz : Nat) (tp : Nat)  : Met l yX5_bitsOf (Cond.code yX5_bitsOf cX5_bitsOf 5 (some .int) :: tb) ({ frames := 0, cells := 0, slots := 0, locals := 0 }) (pcw [.ref tp, .int 0, .int 0] (dC, dI) [] [] sz) (va_Qi (fun (r : Int32) => (fun (_ : Unit) => r = 0)) (bw (dC, dI) (va_A [] sz) (fun (_ : Unit) => []) (fun (_ : Unit) => [])) (va_A [] sz)) 0 0 (va_A [] sz) := by
  refine Met.ofW (cc := cX5_bitsOf) (maxL := 5) (ret := (some .int)) (by decide) rfl ?_
  intro p e s m args below meth c s₁ B hml hv
  obtain ⟨rfl, hsz, hP, hK, hD0⟩ := hv
  have hx := B.exec
  have hb := B.bytes
  have hr := B.returns
  have hts := atoms_spec (ws := Cond.code yX5_bitsOf cX5_bitsOf 5 (some .int) :: tb) B.pre
  have ht : ∀ w ∈ tb, w.before _ s = true := fun w h => hts w (List.mem_cons_of_mem _ h)
  have hown : s.vm.findClass RX5 = some m.cls := findClass_of_methodNamed B.named
  have hlocks := B.notSynchronized
  subst hsz
  have hD := hD0.self (sz := s.heap.size)
  generalize hAe : va_A [] s.heap.size = A at hD ⊢
  have hA : ∀ q : Nat, s.heap.size ≤ q → A q := fun q h => by rw [← hAe]; exact Or.inr h
  have hS : va_S A s.heap s.heap [] := va_S.rf
  have hl := lv_entry ([.ref tp, .int 0, .int 0]) (n := 5) (Nat.le_of_ble_eq_true rfl)
  rw [lg_entry_eq]
  generalize (lg_sl ([.ref tp, .int 0, .int 0]) ++ List.replicate (5 - (lg_sl ([.ref tp, .int 0, .int 0])).length) Slot.unset).toArray = ls at hl ⊢
  have hl : lv_has ls 5 [(0, .ref tp), (1, .int 0), (2, .int 0)] := hl
  have hP : va_P (dC, dI) cls [] s.heap := hP
  refine lv_iconst (v := 0) hx hb dX5_bitsOf_0 (by decide) ?_
  refine lv_istore_n (lv' := [(3, .int 0), (0, .ref tp), (1, .int 0), (2, .int 0)]) hx hb dX5_bitsOf_1 rfl hl (by decide) rfl (fun ls hl => ?_)
  refine lv_iload_n hx hb dX5_bitsOf_2 rfl (lv_at hl 3 rfl) ?_
  refine lv_iconst (v := 1) hx hb dX5_bitsOf_3 (by decide) ?_
  refine lv_isub hx hb dX5_bitsOf_4 ?_
  refine tk_i (y := (-1)) (by decide) ?_
  refine lv_istore (lv' := [(4, .int (-1)), (3, .int 0), (0, .ref tp), (1, .int 0), (2, .int 0)]) hx hb dX5_bitsOf_5 hl (by decide) rfl (fun ls hl => ?_)
  refine lv_iload hx hb dX5_bitsOf_7 (lv_at hl 0 rfl) ?_
  refine lv_if_lt (tgt := 39) hx hb dX5_bitsOf_9 (by decide) (fun _ => ?_) (fun c0 => absurd c0 (by decide))
  refine lv_iload_n hx hb dX5_bitsOf_39 rfl (lv_at hl 1 rfl) ?_
  exact W.iret (v := 0) hx hb hr (fun t ht9 hW => ⟨⟨0, (), rfl, rfl, by rw [ht9]; exact hP.sub [] rfl, va_K.moved hW.alike (hK.sub [] rfl), hD.sub [] (by decide) rfl⟩, hS.F ht9⟩) hS.2.2 dX5_bitsOf_40
set_option maxHeartbeats 4000000 in
set_option maxRecDepth 100000 in
theorem m5_wordTold (l : Launch) (dC : Nat → ClassId) (dI : Nat → Nat → Nat) (sz : Nat) (ma : Nat) (gm : List Value) (tp : Nat) (L_gm : gm.length = 15) (K0_gm : gm[0]? = some (.int 0)) : Met l yX5_wordTold (Cond.code yX5_wordTold cX5_wordTold 6 (some .int) :: tb) ({ frames := 1, cells := 0, slots := 0, locals := 24 }) (pcw [.ref ma, .ref tp, .int 0, .int 0] (dC, dI) [(ma, .inr (5, gm))] [] sz) (va_Qi (fun (r : Int32) => (fun (_ : Unit) => r = -1)) (bw (dC, dI) (va_A [(ma, .inr (5, gm))] sz) (fun (_ : Unit) => [(ma, .inr (5, gm))]) (fun (_ : Unit) => [])) (va_A [(ma, .inr (5, gm))] sz)) 0 0 (va_A [(ma, .inr (5, gm))] sz) := by
  refine Met.ofW (cc := cX5_wordTold) (maxL := 6) (ret := (some .int)) (by decide) rfl ?_
  intro p e s m args below meth c s₁ B hml hv
  obtain ⟨rfl, hsz, hP, hK, hD0⟩ := hv
  have hx := B.exec
  have hb := B.bytes
  have hr := B.returns
  have hts := atoms_spec (ws := Cond.code yX5_wordTold cX5_wordTold 6 (some .int) :: tb) B.pre
  have ht : ∀ w ∈ tb, w.before _ s = true := fun w h => hts w (List.mem_cons_of_mem _ h)
  have hown : s.vm.findClass RX5 = some m.cls := findClass_of_methodNamed B.named
  have hlocks := B.notSynchronized
  subst hsz
  have hD := hD0.self (sz := s.heap.size)
  generalize hAe : va_A [(ma, .inr (5, gm))] s.heap.size = A at hD ⊢
  have hA : ∀ q : Nat, s.heap.size ≤ q → A q := fun q h => by rw [← hAe]; exact Or.inr h
  have hS : va_S A s.heap s.heap [] := va_S.rf
  have hl := lv_entry ([.ref ma, .ref tp, .int 0, .int 0]) (n := 6) (Nat.le_of_ble_eq_true rfl)
  rw [lg_entry_eq]
  generalize (lg_sl ([.ref ma, .ref tp, .int 0, .int 0]) ++ List.replicate (6 - (lg_sl ([.ref ma, .ref tp, .int 0, .int 0])).length) Slot.unset).toArray = ls at hl ⊢
  have hl : lv_has ls 6 [(0, .ref ma), (1, .ref tp), (2, .int 0), (3, .int 0)] := hl
  have hP : va_P (dC, dI) cls [(ma, .inr (5, gm))] s.heap := hP
  refine lv_aload_n hx hb dX5_wordTold_0 rfl (lv_at hl 1 rfl) ?_
  refine lv_iload_n hx hb dX5_wordTold_1 rfl (lv_at hl 2 rfl) ?_
  refine lv_iload_n hx hb dX5_wordTold_2 rfl (lv_at hl 3 rfl) ?_
  refine ca_i (wr := [(ma, .inr (5, gm))]) (va_runS (As := [.ref tp, .int 0, .int 0]) (rest := []) ⟨hx, hb, hml, hown, ht⟩ (m5_bitsOf l dC dI s.heap.size tp  ) (cwS 3 ht (gdS k_8_168 k_8_166 k_8_167 k_1_15) rfl rfl rfl (by decide +kernel) ⟨Nat.le_of_ble_eq_true rfl, Nat.le_of_ble_eq_true rfl⟩) ⟨pcw_blind, pcw_at hP hD hK [] [] (by decide) rfl rfl rfl⟩ rfl rfl hl.1 rfl (lv_room (Nat.le_of_ble_eq_true rfl)) dX5_wordTold_3 ⟨Nat.le_of_ble_eq_true rfl, Nat.le_of_ble_eq_true rfl⟩) hP hD hK hS hA [] [0] rfl rfl (by decide) (by decide) (fun r1 u H locs w2 hK hP hD hS => ?_)
  have hK : va_K (dC, dI) cls [] s := hK
  have hP : va_P (dC, dI) cls [(ma, .inr (5, gm))] H := hP
  have hD : va_D A [(ma, .inr (5, gm))] := hD
  obtain rfl : r1 = 0 := w2
  refine lv_istore (lv' := [(4, .int 0), (0, .ref ma), (1, .ref tp), (2, .int 0), (3, .int 0)]) hx hb dX5_wordTold_6 hl (by decide) rfl (fun ls hl => ?_)
  refine lv_iconst (v := 0) hx hb dX5_wordTold_8 (by decide) ?_
  refine lv_istore (lv' := [(5, .int 0), (4, .int 0), (0, .ref ma), (1, .ref tp), (2, .int 0), (3, .int 0)]) hx hb dX5_wordTold_9 hl (by decide) rfl (fun ls hl => ?_)
  refine lv_iload hx hb dX5_wordTold_11 (lv_at hl 0 rfl) ?_
  refine lv_aload_n hx hb dX5_wordTold_13 rfl (lv_at hl 2 rfl) ?_
  refine va_get (D := (dC, dI)) (ci := 5) (v := .int 0) (C := RX5) (T := TX5) (N := 15) hx hb ht uX5 hown hK hP 0 rfl rfl 0 (by decide) (ht _ k_4_7) (fun _ h9 => h9) K0_gm dX5_wordTold_14 ?_
  refine lv_icmp_ge (tgt := 57) hx hb dX5_wordTold_17 (by decide) (fun _ => ?_) (fun c0 => absurd c0 (by decide))
  refine lv_iconst (v := (-1)) hx hb dX5_wordTold_57 (by decide) ?_
  exact W.iret (v := (-1)) hx hb hr (fun t ht9 hW => ⟨⟨(-1), (), rfl, rfl, by rw [ht9]; exact hP.sub [0] rfl, va_K.moved hW.alike (hK.sub [] rfl), hD.sub [0] (by decide) rfl⟩, hS.F ht9⟩) hS.2.2 dX5_wordTold_58
set_option maxHeartbeats 4000000 in
set_option maxRecDepth 100000 in
theorem m5_addWord (l : Launch) (dC : Nat → ClassId) (dI : Nat → Nat → Nat) (sz : Nat) (ma : Nat) (gm : List Value) (lt : Nat) (cL : ClassId) (fl : Nat → Int32) (sz0 : Nat) (cS : ClassId) (f2 : Nat → Int32) (gs : Nat) (cG : ClassId) (fg : Nat → Int32) (tp : Nat) (p0 : Int32) (L_gm : gm.length = 15) (K0_gm : gm[0]? = some (.int 0)) (K1_gm : gm[1]? = some (.ref lt)) (K2_gm : gm[2]? = some (.ref sz0)) (K3_gm : gm[3]? = some (.ref gs)) : Met l yX5_addWord (Cond.code yX5_addWord cX5_addWord 5 none :: tb) ({ frames := 1, cells := 0, slots := 0, locals := 24 }) (pcw [.ref ma, .ref tp, .int 0, .int 0, .int p0] (dC, dI) [(ma, .inr (5, gm)), (lt, .inl (cL, 20, .inl fl)), (sz0, .inl (cS, 20, .inl f2)), (gs, .inl (cG, 20, .inl fg))] [(cL, .int), (cS, .int), (cG, .int)] sz) (va_Qv (fun (gm1 : List Value) => (True) ∧ (gm1.length = 15) ∧ (gm1[0]? = some (.int 1))) (bw (dC, dI) (va_A [(ma, .inr (5, gm)), (lt, .inl (cL, 20, .inl fl)), (sz0, .inl (cS, 20, .inl f2)), (gs, .inl (cG, 20, .inl fg))] sz) (fun (gm1 : List Value) => [(ma, .inr (5, gm1))]) (fun (gm1 : List Value) => [])) (va_A [(ma, .inr (5, gm)), (lt, .inl (cL, 20, .inl fl)), (sz0, .inl (cS, 20, .inl f2)), (gs, .inl (cG, 20, .inl fg))] sz)) 0 0 (va_A [(ma, .inr (5, gm)), (lt, .inl (cL, 20, .inl fl)), (sz0, .inl (cS, 20, .inl f2)), (gs, .inl (cG, 20, .inl fg))] sz) := by
  refine Met.ofW (cc := cX5_addWord) (maxL := 5) (ret := none) (by decide) rfl ?_
  intro p e s m args below meth c s₁ B hml hv
  obtain ⟨rfl, hsz, hP, hK, hD0⟩ := hv
  have hx := B.exec
  have hb := B.bytes
  have hr := B.returns
  have hts := atoms_spec (ws := Cond.code yX5_addWord cX5_addWord 5 none :: tb) B.pre
  have ht : ∀ w ∈ tb, w.before _ s = true := fun w h => hts w (List.mem_cons_of_mem _ h)
  have hown : s.vm.findClass RX5 = some m.cls := findClass_of_methodNamed B.named
  have hlocks := B.notSynchronized
  subst hsz
  have hD := hD0.self (sz := s.heap.size)
  generalize hAe : va_A [(ma, .inr (5, gm)), (lt, .inl (cL, 20, .inl fl)), (sz0, .inl (cS, 20, .inl f2)), (gs, .inl (cG, 20, .inl fg))] s.heap.size = A at hD ⊢
  have hA : ∀ q : Nat, s.heap.size ≤ q → A q := fun q h => by rw [← hAe]; exact Or.inr h
  have hS : va_S A s.heap s.heap [] := va_S.rf
  have hl := lv_entry ([.ref ma, .ref tp, .int 0, .int 0, .int p0]) (n := 5) (Nat.le_of_ble_eq_true rfl)
  rw [lg_entry_eq]
  generalize (lg_sl ([.ref ma, .ref tp, .int 0, .int 0, .int p0]) ++ List.replicate (5 - (lg_sl ([.ref ma, .ref tp, .int 0, .int 0, .int p0])).length) Slot.unset).toArray = ls at hl ⊢
  have hl : lv_has ls 5 [(0, .ref ma), (1, .ref tp), (2, .int 0), (3, .int 0), (4, .int p0)] := hl
  have hP : va_P (dC, dI) cls [(ma, .inr (5, gm)), (lt, .inl (cL, 20, .inl fl)), (sz0, .inl (cS, 20, .inl f2)), (gs, .inl (cG, 20, .inl fg))] s.heap := hP
  refine lv_aload_n hx hb dX5_addWord_0 rfl (lv_at hl 0 rfl) ?_
  refine ca_i (wr := [(lt, .inl (cL, 20, .inl fl)), (sz0, .inl (cS, 20, .inl f2)), (gs, .inl (cG, 20, .inl fg))]) (va_runV (As := []) (rest := []) ⟨hx, hb, hml, hown, ht⟩ (m5_isFull l dC dI s.heap.size ma gm L_gm K0_gm ) (cwV 0 ht (gdV k_8_172 k_8_177 k_8_170 k_8_171 k_1_15) rfl rfl rfl (by decide +kernel) ⟨Nat.le_of_ble_eq_true rfl, Nat.le_of_ble_eq_true rfl⟩) ⟨pcw_blind, va_recv hK hP (ci := 5) (q0 := 0) rfl rfl, pcw_at hP hD hK [0] [] (by decide) rfl rfl rfl⟩ rfl rfl hl.1 rfl (lv_room (Nat.le_of_ble_eq_true rfl)) dX5_addWord_1 ⟨Nat.le_of_ble_eq_true rfl, Nat.le_of_ble_eq_true rfl⟩) hP hD hK hS hA [0] [1, 2, 3] rfl rfl (by decide) (by decide) (fun r1 u H locs w2 hK hP hD hS => ?_)
  have hK : va_K (dC, dI) cls [(cL, .int), (cS, .int), (cG, .int)] s := hK
  have hP : va_P (dC, dI) cls [(lt, .inl (cL, 20, .inl fl)), (sz0, .inl (cS, 20, .inl f2)), (gs, .inl (cG, 20, .inl fg)), (ma, .inr (5, gm))] H := hP
  have hD : va_D A [(lt, .inl (cL, 20, .inl fl)), (sz0, .inl (cS, 20, .inl f2)), (gs, .inl (cG, 20, .inl fg)), (ma, .inr (5, gm))] := hD
  obtain rfl : r1 = 0 := w2
  refine lv_if_ne (tgt := 59) hx hb dX5_addWord_4 (by decide) (fun c0 => absurd c0 (by decide)) (fun _ => ?_)
  refine lv_iload_n hx hb dX5_addWord_7 rfl (lv_at hl 3 rfl) ?_
  refine lv_bipush (v := 8) hx hb dX5_addWord_8 (by decide) ?_
  refine lv_icmp_gt (tgt := 59) hx hb dX5_addWord_10 (by decide) (fun c0 => absurd c0 (by decide)) (fun _ => ?_)
  refine lv_aload_n hx hb dX5_addWord_13 rfl (lv_at hl 0 rfl) ?_
  refine va_get (D := (dC, dI)) (ci := 5) (v := .ref lt) (C := RX5) (T := TX5) (N := 15) hx hb ht uX5 hown hK hP 3 rfl rfl 1 (by decide) (ht _ k_4_9) (fun _ h9 => h9) K1_gm dX5_addWord_14 ?_
  refine lv_aload_n hx hb dX5_addWord_17 rfl (lv_at hl 0 rfl) ?_
  refine va_get (D := (dC, dI)) (ci := 5) (v := .int 0) (C := RX5) (T := TX5) (N := 15) hx hb ht uX5 hown hK hP 3 rfl rfl 0 (by decide) (ht _ k_4_7) (fun _ h9 => h9) K0_gm dX5_addWord_18 ?_
  refine lv_aload_n hx hb dX5_addWord_21 rfl (lv_at hl 1 rfl) ?_
  refine lv_iload_n hx hb dX5_addWord_22 rfl (lv_at hl 2 rfl) ?_
  refine lv_iload_n hx hb dX5_addWord_23 rfl (lv_at hl 3 rfl) ?_
  refine ca_i (wr := [(lt, .inl (cL, 20, .inl fl)), (sz0, .inl (cS, 20, .inl f2)), (gs, .inl (cG, 20, .inl fg)), (ma, .inr (5, gm))]) (va_runS (As := [.ref tp, .int 0, .int 0]) (rest := [.int 0, .ref lt]) ⟨hx, hb, hml, hown, ht⟩ (m5_bitsOf l dC dI H.size tp  ) (cwS 3 ht (gdS k_8_168 k_8_166 k_8_167 k_1_15) rfl rfl rfl (by decide +kernel) ⟨Nat.le_of_ble_eq_true rfl, Nat.le_of_ble_eq_true rfl⟩) ⟨pcw_blind, pcw_at hP hD hK [] [] (by decide) rfl rfl rfl⟩ rfl rfl hl.1 rfl (lv_room (Nat.le_of_ble_eq_true rfl)) dX5_addWord_24 ⟨Nat.le_of_ble_eq_true rfl, Nat.le_of_ble_eq_true rfl⟩) hP hD hK hS hA [] [0, 1, 2, 3] rfl rfl (by decide) (by decide) (fun r3 u H locs w4 hK hP hD hS => ?_)
  have hK : va_K (dC, dI) cls [(cL, .int), (cS, .int), (cG, .int)] s := hK
  have hP : va_P (dC, dI) cls [(lt, .inl (cL, 20, .inl fl)), (sz0, .inl (cS, 20, .inl f2)), (gs, .inl (cG, 20, .inl fg)), (ma, .inr (5, gm))] H := hP
  have hD : va_D A [(lt, .inl (cL, 20, .inl fl)), (sz0, .inl (cS, 20, .inl f2)), (gs, .inl (cG, 20, .inl fg)), (ma, .inr (5, gm))] := hD
  obtain rfl : r3 = 0 := w4
  refine va_iast (i := 0) (x := 0) hx hb hK hP hD hS 0 0 rfl rfl (by unfold vp_in; decide) dX5_addWord_27 (fun H locs hP hD hS => ?_)
  obtain ⟨f5, ef5⟩ : ∃ g : Nat → Int32, g = upd fl (0 : Int32).toNatClampNeg 0 := ⟨_, rfl⟩
  rw [← ef5] at hP hD
  have hP : va_P (dC, dI) cls [(lt, .inl (cL, 20, .inl f5)), (sz0, .inl (cS, 20, .inl f2)), (gs, .inl (cG, 20, .inl fg)), (ma, .inr (5, gm))] H := hP
  have hD : va_D A [(lt, .inl (cL, 20, .inl f5)), (sz0, .inl (cS, 20, .inl f2)), (gs, .inl (cG, 20, .inl fg)), (ma, .inr (5, gm))] := hD
  refine lv_aload_n hx hb dX5_addWord_28 rfl (lv_at hl 0 rfl) ?_
  refine va_get (D := (dC, dI)) (ci := 5) (v := .ref sz0) (C := RX5) (T := TX5) (N := 15) hx hb ht uX5 hown hK hP 3 rfl rfl 2 (by decide) (ht _ k_4_10) (fun _ h9 => h9) K2_gm dX5_addWord_29 ?_
  refine lv_aload_n hx hb dX5_addWord_32 rfl (lv_at hl 0 rfl) ?_
  refine va_get (D := (dC, dI)) (ci := 5) (v := .int 0) (C := RX5) (T := TX5) (N := 15) hx hb ht uX5 hown hK hP 3 rfl rfl 0 (by decide) (ht _ k_4_7) (fun _ h9 => h9) K0_gm dX5_addWord_33 ?_
  refine lv_iload_n hx hb dX5_addWord_36 rfl (lv_at hl 3 rfl) ?_
  refine va_iast (i := 0) (x := 0) hx hb hK hP hD hS 1 1 rfl rfl (by unfold vp_in; decide) dX5_addWord_37 (fun H locs hP hD hS => ?_)
  obtain ⟨f6, ef6⟩ : ∃ g : Nat → Int32, g = upd f2 (0 : Int32).toNatClampNeg 0 := ⟨_, rfl⟩
  rw [← ef6] at hP hD
  have hP : va_P (dC, dI) cls [(lt, .inl (cL, 20, .inl f5)), (sz0, .inl (cS, 20, .inl f6)), (gs, .inl (cG, 20, .inl fg)), (ma, .inr (5, gm))] H := hP
  have hD : va_D A [(lt, .inl (cL, 20, .inl f5)), (sz0, .inl (cS, 20, .inl f6)), (gs, .inl (cG, 20, .inl fg)), (ma, .inr (5, gm))] := hD
  refine lv_aload_n hx hb dX5_addWord_38 rfl (lv_at hl 0 rfl) ?_
  refine va_get (D := (dC, dI)) (ci := 5) (v := .ref gs) (C := RX5) (T := TX5) (N := 15) hx hb ht uX5 hown hK hP 3 rfl rfl 3 (by decide) (ht _ k_4_11) (fun _ h9 => h9) K3_gm dX5_addWord_39 ?_
  refine lv_aload_n hx hb dX5_addWord_42 rfl (lv_at hl 0 rfl) ?_
  refine va_get (D := (dC, dI)) (ci := 5) (v := .int 0) (C := RX5) (T := TX5) (N := 15) hx hb ht uX5 hown hK hP 3 rfl rfl 0 (by decide) (ht _ k_4_7) (fun _ h9 => h9) K0_gm dX5_addWord_43 ?_
  refine lv_iload hx hb dX5_addWord_46 (lv_at hl 4 rfl) ?_
  refine va_iast (i := 0) (x := p0) hx hb hK hP hD hS 2 2 rfl rfl (by unfold vp_in; decide) dX5_addWord_48 (fun H locs hP hD hS => ?_)
  obtain ⟨f7, ef7⟩ : ∃ g : Nat → Int32, g = upd fg (0 : Int32).toNatClampNeg p0 := ⟨_, rfl⟩
  rw [← ef7] at hP hD
  have hP : va_P (dC, dI) cls [(lt, .inl (cL, 20, .inl f5)), (sz0, .inl (cS, 20, .inl f6)), (gs, .inl (cG, 20, .inl f7)), (ma, .inr (5, gm))] H := hP
  have hD : va_D A [(lt, .inl (cL, 20, .inl f5)), (sz0, .inl (cS, 20, .inl f6)), (gs, .inl (cG, 20, .inl f7)), (ma, .inr (5, gm))] := hD
  refine lv_aload_n hx hb dX5_addWord_49 rfl (lv_at hl 0 rfl) ?_
  refine lv_dup hx hb dX5_addWord_50 rfl ?_
  refine va_get (D := (dC, dI)) (ci := 5) (v := .int 0) (C := RX5) (T := TX5) (N := 15) hx hb ht uX5 hown hK hP 3 rfl rfl 0 (by decide) (ht _ k_4_7) (fun _ h9 => h9) K0_gm dX5_addWord_51 ?_
  refine lv_iconst (v := 1) hx hb dX5_addWord_54 (by decide) ?_
  refine lv_iadd hx hb dX5_addWord_55 ?_
  refine tk_i (y := 1) (by decide) ?_
  refine va_put (D := (dC, dI)) (ci := 5) (v := .int 1) (ty := .int) (C := RX5) (T := TX5) (N := 15) hx hb ht uX5 tyX5 tkX5 nmX5 hown hK hP hD hS 3 rfl rfl 0 (by decide) (ht _ k_4_7) (fun _ h9 => h9) rfl (by decide +kernel) rfl rfl (by rw [L_gm]; decide) dX5_addWord_56 (fun H locs hP hD hS => ?_)
  obtain ⟨F8, eF8⟩ : ∃ g : List Value, g = gm.set 0 (.int 1) := ⟨_, rfl⟩
  rw [← eF8] at hP hD
  have K1_F8 : F8[1]? = some (.ref lt) := by rw [eF8, List.getElem?_set_ne (by decide)]; exact K1_gm
  have K2_F8 : F8[2]? = some (.ref sz0) := by rw [eF8, List.getElem?_set_ne (by decide)]; exact K2_gm
  have K3_F8 : F8[3]? = some (.ref gs) := by rw [eF8, List.getElem?_set_ne (by decide)]; exact K3_gm
  have K0_F8 : F8[0]? = some (.int 1) := by rw [eF8]; exact List.getElem?_set_self (by rw [L_gm]; decide)
  have L_F8 : F8.length = 15 := by rw [eF8, List.length_set]; exact L_gm
  have hP : va_P (dC, dI) cls [(lt, .inl (cL, 20, .inl f5)), (sz0, .inl (cS, 20, .inl f6)), (gs, .inl (cG, 20, .inl f7)), (ma, .inr (5, F8))] H := hP
  have hD : va_D A [(lt, .inl (cL, 20, .inl f5)), (sz0, .inl (cS, 20, .inl f6)), (gs, .inl (cG, 20, .inl f7)), (ma, .inr (5, F8))] := hD
  exact W.vret hx hb hr (fun t ht9 hW => ⟨⟨(F8), rfl, ⟨trivial, L_F8, K0_F8⟩, by rw [ht9]; exact hP.sub [3] rfl, va_K.moved hW.alike (hK.sub [] rfl), hD.sub [3] (by decide) rfl⟩, hS.F ht9⟩) hS.2.2 dX5_addWord_59
set_option maxHeartbeats 4000000 in
set_option maxRecDepth 100000 in
theorem x_addWord (l : Launch) (dC : Nat → ClassId) (dI : Nat → Nat → Nat) (sz : Nat) (q : Nat) (fs : List Value) (tp : Nat) (cT : ClassId) (ft : Nat → Int32) (ma : Nat) (gm : List Value) (lt : Nat) (cL : ClassId) (fl : Nat → Int32) (sz0 : Nat) (cS : ClassId) (f2 : Nat → Int32) (gs : Nat) (cG : ClassId) (fg : Nat → Int32) (d : Nat) (gd : List Value) (wt : Nat) (cW : ClassId) (fw : Nat → Int32) (p0 : Int32) (L_fs : fs.length = 18) (K16_fs : fs[16]? = some (.ref ma)) (K17_fs : fs[17]? = some (.ref d)) (L_gm : gm.length = 15) (K0_gm : gm[0]? = some (.int 0)) (K1_gm : gm[1]? = some (.ref lt)) (K2_gm : gm[2]? = some (.ref sz0)) (K3_gm : gm[3]? = some (.ref gs)) (L_gd : gd.length = 7) (K1_gd : gd[1]? = some (.int 0)) (K2_gd : gd[2]? = some (.ref wt)) (K3_gd : gd[3]? = some (.int 0)) (K4_gd : gd[4]? = some (.int 0)) (K5_gd : gd[5]? = some (.int (-1))) : Met l yX11_addWord (Cond.code yX11_addWord cX11_addWord 7 (some .int) :: tb) ({ frames := 2, cells := 0, slots := 0, locals := 49 }) (pcw [.ref q, .ref tp, .int 0, .int 0, .int p0, .int 1] (dC, dI) [(q, .inr (11, fs)), (tp, .inl (cT, 2000, .inl ft)), (ma, .inr (5, gm)), (lt, .inl (cL, 20, .inl fl)), (sz0, .inl (cS, 20, .inl f2)), (gs, .inl (cG, 20, .inl fg)), (d, .inr (2, gd)), (wt, .inl (cW, 24200, .inl fw))] [(cT, .byte), (cL, .int), (cS, .int), (cG, .int), (cW, .byte)] sz) (va_Qi (fun (r : Int32) => (fun (_ : Unit) => r = 1)) (bw (dC, dI) (va_A [(q, .inr (11, fs)), (tp, .inl (cT, 2000, .inl ft)), (ma, .inr (5, gm)), (lt, .inl (cL, 20, .inl fl)), (sz0, .inl (cS, 20, .inl f2)), (gs, .inl (cG, 20, .inl fg)), (d, .inr (2, gd)), (wt, .inl (cW, 24200, .inl fw))] sz) (fun (_ : Unit) => []) (fun (_ : Unit) => [])) (va_A [(q, .inr (11, fs)), (tp, .inl (cT, 2000, .inl ft)), (ma, .inr (5, gm)), (lt, .inl (cL, 20, .inl fl)), (sz0, .inl (cS, 20, .inl f2)), (gs, .inl (cG, 20, .inl fg)), (d, .inr (2, gd)), (wt, .inl (cW, 24200, .inl fw))] sz)) 0 0 (va_A [(q, .inr (11, fs)), (tp, .inl (cT, 2000, .inl ft)), (ma, .inr (5, gm)), (lt, .inl (cL, 20, .inl fl)), (sz0, .inl (cS, 20, .inl f2)), (gs, .inl (cG, 20, .inl fg)), (d, .inr (2, gd)), (wt, .inl (cW, 24200, .inl fw))] sz) := by
  refine Met.ofW (cc := cX11_addWord) (maxL := 7) (ret := (some .int)) (by decide) rfl ?_
  intro p e s m args below meth c s₁ B hml hv
  obtain ⟨rfl, hsz, hP, hK, hD0⟩ := hv
  have hx := B.exec
  have hb := B.bytes
  have hr := B.returns
  have hts := atoms_spec (ws := Cond.code yX11_addWord cX11_addWord 7 (some .int) :: tb) B.pre
  have ht : ∀ w ∈ tb, w.before _ s = true := fun w h => hts w (List.mem_cons_of_mem _ h)
  have hown : s.vm.findClass RX11 = some m.cls := findClass_of_methodNamed B.named
  have hlocks := B.notSynchronized
  subst hsz
  have hD := hD0.self (sz := s.heap.size)
  generalize hAe : va_A [(q, .inr (11, fs)), (tp, .inl (cT, 2000, .inl ft)), (ma, .inr (5, gm)), (lt, .inl (cL, 20, .inl fl)), (sz0, .inl (cS, 20, .inl f2)), (gs, .inl (cG, 20, .inl fg)), (d, .inr (2, gd)), (wt, .inl (cW, 24200, .inl fw))] s.heap.size = A at hD ⊢
  have hA : ∀ q : Nat, s.heap.size ≤ q → A q := fun q h => by rw [← hAe]; exact Or.inr h
  have hS : va_S A s.heap s.heap [] := va_S.rf
  have hl := lv_entry ([.ref q, .ref tp, .int 0, .int 0, .int p0, .int 1]) (n := 7) (Nat.le_of_ble_eq_true rfl)
  rw [lg_entry_eq]
  generalize (lg_sl ([.ref q, .ref tp, .int 0, .int 0, .int p0, .int 1]) ++ List.replicate (7 - (lg_sl ([.ref q, .ref tp, .int 0, .int 0, .int p0, .int 1])).length) Slot.unset).toArray = ls at hl ⊢
  have hl : lv_has ls 7 [(0, .ref q), (1, .ref tp), (2, .int 0), (3, .int 0), (4, .int p0), (5, .int 1)] := hl
  have hP : va_P (dC, dI) cls [(q, .inr (11, fs)), (tp, .inl (cT, 2000, .inl ft)), (ma, .inr (5, gm)), (lt, .inl (cL, 20, .inl fl)), (sz0, .inl (cS, 20, .inl f2)), (gs, .inl (cG, 20, .inl fg)), (d, .inr (2, gd)), (wt, .inl (cW, 24200, .inl fw))] s.heap := hP
  refine lv_iload_n hx hb dX11_addWord_0 rfl (lv_at hl 3 rfl) ?_
  refine lv_if_lt (tgt := 21) hx hb dX11_addWord_1 (by decide) (fun c0 => absurd c0 (by decide)) (fun _ => ?_)
  refine lv_iload_n hx hb dX11_addWord_4 rfl (lv_at hl 3 rfl) ?_
  refine lv_bipush (v := 8) hx hb dX11_addWord_5 (by decide) ?_
  refine lv_icmp_gt (tgt := 21) hx hb dX11_addWord_7 (by decide) (fun c0 => absurd c0 (by decide)) (fun _ => ?_)
  refine lv_aload_n hx hb dX11_addWord_10 rfl (lv_at hl 1 rfl) ?_
  refine lv_iload_n hx hb dX11_addWord_11 rfl (lv_at hl 2 rfl) ?_
  refine lv_iload_n hx hb dX11_addWord_12 rfl (lv_at hl 3 rfl) ?_
  refine lv_bipush (v := 98) hx hb dX11_addWord_13 (by decide) ?_
  refine ca_i (wr := [(q, .inr (11, fs)), (ma, .inr (5, gm)), (lt, .inl (cL, 20, .inl fl)), (sz0, .inl (cS, 20, .inl f2)), (gs, .inl (cG, 20, .inl fg)), (d, .inr (2, gd)), (wt, .inl (cW, 24200, .inl fw))]) (va_runS (As := [.ref tp, .int 0, .int 0, .int 98]) (rest := []) ⟨hx, hb, hml, hown, ht⟩ (x_lettersIn_98 l dC dI s.heap.size tp cT ft  ) (cwS 4 ht (gdS k_8_31 k_8_29 k_8_30 k_1_1) rfl rfl rfl (by decide +kernel) ⟨Nat.le_of_ble_eq_true rfl, Nat.le_of_ble_eq_true rfl⟩) ⟨pcw_blind, pcw_at hP hD hK [1] [0] (by decide) rfl rfl rfl⟩ rfl rfl hl.1 rfl (lv_room (Nat.le_of_ble_eq_true rfl)) dX11_addWord_15 ⟨Nat.le_of_ble_eq_true rfl, Nat.le_of_ble_eq_true rfl⟩) hP hD hK hS hA [1] [0, 2, 3, 4, 5, 6, 7] rfl rfl (by decide) (by decide) (fun r1 u H locs w2 hK hP hD hS => ?_)
  have hK : va_K (dC, dI) cls [(cT, .byte), (cL, .int), (cS, .int), (cG, .int), (cW, .byte), (cT, .byte)] s := hK
  have hP : va_P (dC, dI) cls [(q, .inr (11, fs)), (ma, .inr (5, gm)), (lt, .inl (cL, 20, .inl fl)), (sz0, .inl (cS, 20, .inl f2)), (gs, .inl (cG, 20, .inl fg)), (d, .inr (2, gd)), (wt, .inl (cW, 24200, .inl fw)), (tp, .inl (cT, 2000, .inl ft))] H := hP
  have hD : va_D A [(q, .inr (11, fs)), (ma, .inr (5, gm)), (lt, .inl (cL, 20, .inl fl)), (sz0, .inl (cS, 20, .inl f2)), (gs, .inl (cG, 20, .inl fg)), (d, .inr (2, gd)), (wt, .inl (cW, 24200, .inl fw)), (tp, .inl (cT, 2000, .inl ft))] := hD
  obtain rfl : r1 = 1 := w2
  refine lv_if_ne (tgt := 23) hx hb dX11_addWord_18 (by decide) (fun _ => ?_) (fun c0 => absurd c0 (by decide))
  refine lv_aload_n hx hb dX11_addWord_23 rfl (lv_at hl 0 rfl) ?_
  refine va_get (D := (dC, dI)) (ci := 11) (v := .ref ma) (C := RX11) (T := TX11) (N := 18) hx hb ht uX11 hown hK hP 0 rfl rfl 16 (by decide) (ht _ k_4_107) (fun _ h9 => h9) K16_fs dX11_addWord_24 ?_
  refine lv_aload_n hx hb dX11_addWord_27 rfl (lv_at hl 1 rfl) ?_
  refine lv_iload_n hx hb dX11_addWord_28 rfl (lv_at hl 2 rfl) ?_
  refine lv_iload_n hx hb dX11_addWord_29 rfl (lv_at hl 3 rfl) ?_
  refine ca_i (wr := [(q, .inr (11, fs)), (lt, .inl (cL, 20, .inl fl)), (sz0, .inl (cS, 20, .inl f2)), (gs, .inl (cG, 20, .inl fg)), (d, .inr (2, gd)), (wt, .inl (cW, 24200, .inl fw)), (tp, .inl (cT, 2000, .inl ft))]) (va_runV (As := [.ref tp, .int 0, .int 0]) (rest := []) ⟨hx, hb, hml, hown, ht⟩ (m5_wordTold l dC dI H.size ma gm tp L_gm K0_gm ) (cwV 3 ht (gdV k_8_165 k_8_162 k_8_163 k_8_164 k_1_15) rfl rfl rfl (by decide +kernel) ⟨Nat.le_of_ble_eq_true rfl, Nat.le_of_ble_eq_true rfl⟩) ⟨pcw_blind, va_recv hK hP (ci := 5) (q0 := 1) rfl rfl, pcw_at hP hD hK [1] [] (by decide) rfl rfl rfl⟩ rfl rfl hl.1 rfl (lv_room (Nat.le_of_ble_eq_true rfl)) dX11_addWord_30 ⟨Nat.le_of_ble_eq_true rfl, Nat.le_of_ble_eq_true rfl⟩) hP hD hK hS hA [1] [0, 2, 3, 4, 5, 6, 7] rfl rfl (by decide) (by decide) (fun r3 u H locs w4 hK hP hD hS => ?_)
  have hK : va_K (dC, dI) cls [(cT, .byte), (cL, .int), (cS, .int), (cG, .int), (cW, .byte), (cT, .byte)] s := hK
  have hP : va_P (dC, dI) cls [(q, .inr (11, fs)), (lt, .inl (cL, 20, .inl fl)), (sz0, .inl (cS, 20, .inl f2)), (gs, .inl (cG, 20, .inl fg)), (d, .inr (2, gd)), (wt, .inl (cW, 24200, .inl fw)), (tp, .inl (cT, 2000, .inl ft)), (ma, .inr (5, gm))] H := hP
  have hD : va_D A [(q, .inr (11, fs)), (lt, .inl (cL, 20, .inl fl)), (sz0, .inl (cS, 20, .inl f2)), (gs, .inl (cG, 20, .inl fg)), (d, .inr (2, gd)), (wt, .inl (cW, 24200, .inl fw)), (tp, .inl (cT, 2000, .inl ft)), (ma, .inr (5, gm))] := hD
  obtain rfl : r3 = (-1) := w4
  refine lv_istore (lv' := [(6, .int (-1)), (0, .ref q), (1, .ref tp), (2, .int 0), (3, .int 0), (4, .int p0), (5, .int 1)]) hx hb dX11_addWord_33 hl (by decide) rfl (fun ls hl => ?_)
  refine lv_iload hx hb dX11_addWord_35 (lv_at hl 0 rfl) ?_
  refine lv_if_lt (tgt := 60) hx hb dX11_addWord_37 (by decide) (fun _ => ?_) (fun c0 => absurd c0 (by decide))
  refine lv_aload_n hx hb dX11_addWord_60 rfl (lv_at hl 1 rfl) ?_
  refine va_get (D := (dC, dI)) (ci := 11) (v := .ref ma) (C := RX11) (T := TX11) (N := 18) hx hb ht uX11 hown hK hP 0 rfl rfl 16 (by decide) (ht _ k_4_107) (fun _ h9 => h9) K16_fs dX11_addWord_61 ?_
  refine ca_i (wr := [(q, .inr (11, fs)), (lt, .inl (cL, 20, .inl fl)), (sz0, .inl (cS, 20, .inl f2)), (gs, .inl (cG, 20, .inl fg)), (d, .inr (2, gd)), (wt, .inl (cW, 24200, .inl fw)), (tp, .inl (cT, 2000, .inl ft))]) (va_runV (As := []) (rest := []) ⟨hx, hb, hml, hown, ht⟩ (m5_isFull l dC dI H.size ma gm L_gm K0_gm ) (cwV 0 ht (gdV k_8_172 k_8_169 k_8_170 k_8_171 k_1_15) rfl rfl rfl (by decide +kernel) ⟨Nat.le_of_ble_eq_true rfl, Nat.le_of_ble_eq_true rfl⟩) ⟨pcw_blind, va_recv hK hP (ci := 5) (q0 := 7) rfl rfl, pcw_at hP hD hK [7] [] (by decide) rfl rfl rfl⟩ rfl rfl hl.1 rfl (lv_room (Nat.le_of_ble_eq_true rfl)) dX11_addWord_64 ⟨Nat.le_of_ble_eq_true rfl, Nat.le_of_ble_eq_true rfl⟩) hP hD hK hS hA [7] [0, 1, 2, 3, 4, 5, 6] rfl rfl (by decide) (by decide) (fun r5 u H locs w6 hK hP hD hS => ?_)
  have hK : va_K (dC, dI) cls [(cT, .byte), (cL, .int), (cS, .int), (cG, .int), (cW, .byte), (cT, .byte)] s := hK
  have hP : va_P (dC, dI) cls [(q, .inr (11, fs)), (lt, .inl (cL, 20, .inl fl)), (sz0, .inl (cS, 20, .inl f2)), (gs, .inl (cG, 20, .inl fg)), (d, .inr (2, gd)), (wt, .inl (cW, 24200, .inl fw)), (tp, .inl (cT, 2000, .inl ft)), (ma, .inr (5, gm))] H := hP
  have hD : va_D A [(q, .inr (11, fs)), (lt, .inl (cL, 20, .inl fl)), (sz0, .inl (cS, 20, .inl f2)), (gs, .inl (cG, 20, .inl fg)), (d, .inr (2, gd)), (wt, .inl (cW, 24200, .inl fw)), (tp, .inl (cT, 2000, .inl ft)), (ma, .inr (5, gm))] := hD
  obtain rfl : r5 = 0 := w6
  refine lv_if_ne (tgt := 88) hx hb dX11_addWord_67 (by decide) (fun c0 => absurd c0 (by decide)) (fun _ => ?_)
  refine lv_iload hx hb dX11_addWord_70 (lv_at hl 6 rfl) ?_
  refine lv_if_eq (tgt := 91) hx hb dX11_addWord_72 (by decide) (fun c0 => absurd c0 (by decide)) (fun _ => ?_)
  refine lv_aload_n hx hb dX11_addWord_75 rfl (lv_at hl 1 rfl) ?_
  refine va_get (D := (dC, dI)) (ci := 11) (v := .ref d) (C := RX11) (T := TX11) (N := 18) hx hb ht uX11 hown hK hP 0 rfl rfl 17 (by decide) (ht _ k_4_108) (fun _ h9 => h9) K17_fs dX11_addWord_76 ?_
  refine lv_iload_n hx hb dX11_addWord_79 rfl (lv_at hl 4 rfl) ?_
  refine lv_iconst (v := 1) hx hb dX11_addWord_80 (by decide) ?_
  refine lv_iadd hx hb dX11_addWord_81 ?_
  refine tk_i (y := 1) (by decide) ?_
  refine ca_i (wr := [(q, .inr (11, fs)), (lt, .inl (cL, 20, .inl fl)), (sz0, .inl (cS, 20, .inl f2)), (gs, .inl (cG, 20, .inl fg)), (wt, .inl (cW, 24200, .inl fw)), (tp, .inl (cT, 2000, .inl ft)), (ma, .inr (5, gm))]) (va_runV (As := [.int 1]) (rest := []) ⟨hx, hb, hml, hown, ht⟩ (m2_hasRoom l dC dI H.size d gd L_gd K1_gd K4_gd ) (cwV 1 ht (gdV k_5_169 k_5_166 k_5_167 k_5_168 k_1_16) rfl rfl rfl (by decide +kernel) ⟨Nat.le_of_ble_eq_true rfl, Nat.le_of_ble_eq_true rfl⟩) ⟨pcw_blind, va_recv hK hP (ci := 2) (q0 := 4) rfl rfl, pcw_at hP hD hK [4] [] (by decide) rfl rfl rfl⟩ rfl rfl hl.1 rfl (lv_room (Nat.le_of_ble_eq_true rfl)) dX11_addWord_82 ⟨Nat.le_of_ble_eq_true rfl, Nat.le_of_ble_eq_true rfl⟩) hP hD hK hS hA [4] [0, 1, 2, 3, 5, 6, 7] rfl rfl (by decide) (by decide) (fun r7 u H locs w8 hK hP hD hS => ?_)
  have hK : va_K (dC, dI) cls [(cT, .byte), (cL, .int), (cS, .int), (cG, .int), (cW, .byte), (cT, .byte)] s := hK
  have hP : va_P (dC, dI) cls [(q, .inr (11, fs)), (lt, .inl (cL, 20, .inl fl)), (sz0, .inl (cS, 20, .inl f2)), (gs, .inl (cG, 20, .inl fg)), (wt, .inl (cW, 24200, .inl fw)), (tp, .inl (cT, 2000, .inl ft)), (ma, .inr (5, gm)), (d, .inr (2, gd))] H := hP
  have hD : va_D A [(q, .inr (11, fs)), (lt, .inl (cL, 20, .inl fl)), (sz0, .inl (cS, 20, .inl f2)), (gs, .inl (cG, 20, .inl fg)), (wt, .inl (cW, 24200, .inl fw)), (tp, .inl (cT, 2000, .inl ft)), (ma, .inr (5, gm)), (d, .inr (2, gd))] := hD
  obtain rfl : r7 = 1 := w8
  refine lv_if_ne (tgt := 91) hx hb dX11_addWord_85 (by decide) (fun _ => ?_) (fun c0 => absurd c0 (by decide))
  refine lv_aload_n hx hb dX11_addWord_91 rfl (lv_at hl 1 rfl) ?_
  refine va_get (D := (dC, dI)) (ci := 11) (v := .ref ma) (C := RX11) (T := TX11) (N := 18) hx hb ht uX11 hown hK hP 0 rfl rfl 16 (by decide) (ht _ k_4_107) (fun _ h9 => h9) K16_fs dX11_addWord_92 ?_
  refine lv_aload_n hx hb dX11_addWord_95 rfl (lv_at hl 2 rfl) ?_
  refine lv_iload_n hx hb dX11_addWord_96 rfl (lv_at hl 3 rfl) ?_
  refine lv_iload_n hx hb dX11_addWord_97 rfl (lv_at hl 4 rfl) ?_
  refine lv_iload hx hb dX11_addWord_98 (lv_at hl 5 rfl) ?_
  refine ca_v (wr := [(q, .inr (11, fs)), (wt, .inl (cW, 24200, .inl fw)), (tp, .inl (cT, 2000, .inl ft)), (d, .inr (2, gd))]) (va_runV (As := [.ref tp, .int 0, .int 0, .int p0]) (rest := []) ⟨hx, hb, hml, hown, ht⟩ (m5_addWord l dC dI H.size ma gm lt cL fl sz0 cS f2 gs cG fg tp p0 L_gm K0_gm K1_gm K2_gm K3_gm ) (cwV 4 ht (gdV k_8_176 k_8_173 k_8_174 k_8_175 k_1_15) rfl rfl rfl (by decide +kernel) ⟨Nat.le_of_ble_eq_true rfl, Nat.le_of_ble_eq_true rfl⟩) ⟨pcw_blind, va_recv hK hP (ci := 5) (q0 := 6) rfl rfl, pcw_at hP hD hK [6, 1, 2, 3] [1, 2, 3] (by decide) rfl rfl rfl⟩ rfl rfl hl.1 rfl (lv_room (Nat.le_of_ble_eq_true rfl)) dX11_addWord_100 ⟨Nat.le_of_ble_eq_true rfl, Nat.le_of_ble_eq_true rfl⟩) hP hD hK hS hA [6, 1, 2, 3] [0, 4, 5, 7] rfl rfl (by decide) (by decide) (fun u H locs w10 hK hP hD hS => ?_)
  obtain ⟨F11, rfl⟩ : ∃ z, z = u := ⟨_, rfl⟩
  have hK : va_K (dC, dI) cls [(cT, .byte), (cL, .int), (cS, .int), (cG, .int), (cW, .byte), (cT, .byte)] s := hK
  have hP : va_P (dC, dI) cls [(q, .inr (11, fs)), (wt, .inl (cW, 24200, .inl fw)), (tp, .inl (cT, 2000, .inl ft)), (d, .inr (2, gd)), (ma, .inr (5, F11))] H := hP
  have hD : va_D A [(q, .inr (11, fs)), (wt, .inl (cW, 24200, .inl fw)), (tp, .inl (cT, 2000, .inl ft)), (d, .inr (2, gd)), (ma, .inr (5, F11))] := hD
  obtain ⟨w10, K12, K13⟩ := w10
  refine lv_iload hx hb dX11_addWord_103 (lv_at hl 6 rfl) ?_
  refine lv_if_eq (tgt := 138) hx hb dX11_addWord_105 (by decide) (fun c0 => absurd c0 (by decide)) (fun _ => ?_)
  refine lv_aload_n hx hb dX11_addWord_108 rfl (lv_at hl 1 rfl) ?_
  refine va_get (D := (dC, dI)) (ci := 11) (v := .ref d) (C := RX11) (T := TX11) (N := 18) hx hb ht uX11 hown hK hP 0 rfl rfl 17 (by decide) (ht _ k_4_108) (fun _ h9 => h9) K17_fs dX11_addWord_109 ?_
  refine lv_iconst (v := 4) hx hb dX11_addWord_112 (by decide) ?_
  refine lv_iload_n hx hb dX11_addWord_113 rfl (lv_at hl 4 rfl) ?_
  refine lv_iconst (v := 1) hx hb dX11_addWord_114 (by decide) ?_
  refine lv_iadd hx hb dX11_addWord_115 ?_
  refine tk_i (y := 1) (by decide) ?_
  refine ca_v (wr := [(q, .inr (11, fs)), (tp, .inl (cT, 2000, .inl ft)), (ma, .inr (5, F11))]) (va_runV (As := [.int 4, .int 1]) (rest := []) ⟨hx, hb, hml, hown, ht⟩ (m2_record l dC dI H.size d gd wt cW fw L_gd K1_gd K2_gd K3_gd K4_gd K5_gd ) (cwV 2 ht (gdV k_5_215 k_5_212 k_5_213 k_5_214 k_1_16) rfl rfl rfl (by decide +kernel) ⟨Nat.le_of_ble_eq_true rfl, Nat.le_of_ble_eq_true rfl⟩) ⟨pcw_blind, va_recv hK hP (ci := 2) (q0 := 3) rfl rfl, pcw_at hP hD hK [3, 1] [4] (by decide) rfl rfl rfl⟩ rfl rfl hl.1 rfl (lv_room (Nat.le_of_ble_eq_true rfl)) dX11_addWord_116 ⟨Nat.le_of_ble_eq_true rfl, Nat.le_of_ble_eq_true rfl⟩) hP hD hK hS hA [3, 1] [0, 2, 4] rfl rfl (by decide) (by decide) (fun u H locs w15 hK hP hD hS => ?_)
  obtain ⟨F16, y17⟩ := u
  have hK : va_K (dC, dI) cls [(cT, .byte), (cL, .int), (cS, .int), (cG, .int), (cW, .byte), (cT, .byte), (cW, .byte)] s := hK
  have hP : va_P (dC, dI) cls [(q, .inr (11, fs)), (tp, .inl (cT, 2000, .inl ft)), (ma, .inr (5, F11)), (d, .inr (2, F16)), (wt, .inl (cW, 24200, .inl y17))] H := hP
  have hD : va_D A [(q, .inr (11, fs)), (tp, .inl (cT, 2000, .inl ft)), (ma, .inr (5, F11)), (d, .inr (2, F16)), (wt, .inl (cW, 24200, .inl y17))] := hD
  obtain ⟨w15, K18, K19, K20, K21, K22, K23⟩ := w15
  refine lv_aload_n hx hb dX11_addWord_119 rfl (lv_at hl 1 rfl) ?_
  refine va_get (D := (dC, dI)) (ci := 11) (v := .ref d) (C := RX11) (T := TX11) (N := 18) hx hb ht uX11 hown hK hP 0 rfl rfl 17 (by decide) (ht _ k_4_108) (fun _ h9 => h9) K17_fs dX11_addWord_120 ?_
  refine lv_iload hx hb dX11_addWord_123 (lv_at hl 5 rfl) ?_
  refine ca_v (wr := [(q, .inr (11, fs)), (tp, .inl (cT, 2000, .inl ft)), (ma, .inr (5, F11))]) (va_runV (As := [.int p0]) (rest := []) ⟨hx, hb, hml, hown, ht⟩ (m2_put_3 l dC dI H.size d F16 wt cW y17 p0 K18 K19 K20 K21 K22 K23 ) (cwV 1 ht (gdV k_5_219 k_7_84 k_5_217 k_5_218 k_1_16) rfl rfl rfl (by decide +kernel) ⟨Nat.le_of_ble_eq_true rfl, Nat.le_of_ble_eq_true rfl⟩) ⟨pcw_blind, va_recv hK hP (ci := 2) (q0 := 3) rfl rfl, pcw_at hP hD hK [3, 4] [4] (by decide) rfl rfl rfl⟩ rfl rfl hl.1 rfl (lv_room (Nat.le_of_ble_eq_true rfl)) dX11_addWord_125 ⟨Nat.le_of_ble_eq_true rfl, Nat.le_of_ble_eq_true rfl⟩) hP hD hK hS hA [3, 4] [0, 1, 2] rfl rfl (by decide) (by decide) (fun u H locs w25 hK hP hD hS => ?_)
  obtain ⟨F26, y27⟩ := u
  have hK : va_K (dC, dI) cls [(cT, .byte), (cL, .int), (cS, .int), (cG, .int), (cW, .byte), (cT, .byte), (cW, .byte), (cW, .byte)] s := hK
  have hP : va_P (dC, dI) cls [(q, .inr (11, fs)), (tp, .inl (cT, 2000, .inl ft)), (ma, .inr (5, F11)), (d, .inr (2, F26)), (wt, .inl (cW, 24200, .inl y27))] H := hP
  have hD : va_D A [(q, .inr (11, fs)), (tp, .inl (cT, 2000, .inl ft)), (ma, .inr (5, F11)), (d, .inr (2, F26)), (wt, .inl (cW, 24200, .inl y27))] := hD
  obtain ⟨w25, K28, K29, K30, K31, K32, K33⟩ := w25
  refine lv_aload_n hx hb dX11_addWord_128 rfl (lv_at hl 1 rfl) ?_
  refine va_get (D := (dC, dI)) (ci := 11) (v := .ref d) (C := RX11) (T := TX11) (N := 18) hx hb ht uX11 hown hK hP 0 rfl rfl 17 (by decide) (ht _ k_4_108) (fun _ h9 => h9) K17_fs dX11_addWord_129 ?_
  refine lv_aload_n hx hb dX11_addWord_132 rfl (lv_at hl 2 rfl) ?_
  refine lv_iload_n hx hb dX11_addWord_133 rfl (lv_at hl 3 rfl) ?_
  refine lv_iload_n hx hb dX11_addWord_134 rfl (lv_at hl 4 rfl) ?_
  refine ca_v (wr := [(q, .inr (11, fs)), (tp, .inl (cT, 2000, .inl ft)), (ma, .inr (5, F11)), (wt, .inl (cW, 24200, .inl y27))]) (va_runV (As := [.ref tp, .int 0, .int 0]) (rest := []) ⟨hx, hb, hml, hown, ht⟩ (m2_putAll l dC dI H.size d F26 tp K28 ) (cwV 3 ht (gdV k_5_223 k_5_220 k_5_221 k_5_222 k_1_16) rfl rfl rfl (by decide +kernel) ⟨Nat.le_of_ble_eq_true rfl, Nat.le_of_ble_eq_true rfl⟩) ⟨pcw_blind, va_recv hK hP (ci := 2) (q0 := 3) rfl rfl, pcw_at hP hD hK [3] [] (by decide) rfl rfl rfl⟩ rfl rfl hl.1 rfl (lv_room (Nat.le_of_ble_eq_true rfl)) dX11_addWord_135 ⟨Nat.le_of_ble_eq_true rfl, Nat.le_of_ble_eq_true rfl⟩) hP hD hK hS hA [3] [0, 1, 2, 4] rfl rfl (by decide) (by decide) (fun u H locs w35 hK hP hD hS => ?_)
  have hK : va_K (dC, dI) cls [(cT, .byte), (cL, .int), (cS, .int), (cG, .int), (cW, .byte), (cT, .byte), (cW, .byte), (cW, .byte)] s := hK
  have hP : va_P (dC, dI) cls [(q, .inr (11, fs)), (tp, .inl (cT, 2000, .inl ft)), (ma, .inr (5, F11)), (wt, .inl (cW, 24200, .inl y27))] H := hP
  have hD : va_D A [(q, .inr (11, fs)), (tp, .inl (cT, 2000, .inl ft)), (ma, .inr (5, F11)), (wt, .inl (cW, 24200, .inl y27))] := hD
  refine lv_aload_n hx hb dX11_addWord_138 rfl (lv_at hl 1 rfl) ?_
  refine va_get (D := (dC, dI)) (ci := 11) (v := .ref ma) (C := RX11) (T := TX11) (N := 18) hx hb ht uX11 hown hK hP 0 rfl rfl 16 (by decide) (ht _ k_4_107) (fun _ h9 => h9) K16_fs dX11_addWord_139 ?_
  refine va_get (D := (dC, dI)) (ci := 5) (v := .int 1) (C := RX5) (T := TX5) (N := 15) hx hb ht uX5 hown hK hP 2 rfl rfl 0 (by decide) (ht _ k_4_8) (fun _ h9 => h9) K13 dX11_addWord_142 ?_
  exact W.iret (v := 1) hx hb hr (fun t ht9 hW => ⟨⟨1, (), rfl, rfl, by rw [ht9]; exact hP.sub [] rfl, va_K.moved hW.alike (hK.sub [] rfl), hD.sub [] (by decide) rfl⟩, hS.F ht9⟩) hS.2.2 dX11_addWord_145
set_option maxHeartbeats 4000000 in
set_option maxRecDepth 100000 in
theorem x_word (l : Launch) (dC : Nat → ClassId) (dI : Nat → Nat → Nat) (sz : Nat) (q : Nat) (fs : List Value) (tp : Nat) (rd : Nat) (as : Nat) (sp : Nat) (lp : Nat) (wr : Nat) (ma : Nat) (dk : Nat) (cT : ClassId) (ft : Nat → Int32) (gm : List Value) (lt : Nat) (cL : ClassId) (fl : Nat → Int32) (sz0 : Nat) (cS : ClassId) (f2 : Nat → Int32) (gs : Nat) (cG : ClassId) (fg : Nat → Int32) (gd : List Value) (wt : Nat) (cW : ClassId) (fw : Nat → Int32) (p0 : Int32) (L_fs : fs.length = 18) (K0_fs : fs[0]? = some (.ref tp)) (K1_fs : fs[1]? = some (.int 0)) (K2_fs : fs[2]? = some (.int 0)) (K8_fs : fs[8]? = some (.ref rd)) (K9_fs : fs[9]? = some (.ref as)) (K10_fs : fs[10]? = some (.ref sp)) (K11_fs : fs[11]? = some (.int 0)) (K14_fs : fs[14]? = some (.ref lp)) (K15_fs : fs[15]? = some (.ref wr)) (K16_fs : fs[16]? = some (.ref ma)) (K17_fs : fs[17]? = some (.ref dk)) (L_gm : gm.length = 15) (K0_gm : gm[0]? = some (.int 0)) (K1_gm : gm[1]? = some (.ref lt)) (K2_gm : gm[2]? = some (.ref sz0)) (K3_gm : gm[3]? = some (.ref gs)) (L_gd : gd.length = 7) (K1_gd : gd[1]? = some (.int 0)) (K2_gd : gd[2]? = some (.ref wt)) (K3_gd : gd[3]? = some (.int 0)) (K4_gd : gd[4]? = some (.int 0)) (K5_gd : gd[5]? = some (.int (-1))) : Met l yX11_word (Cond.code yX11_word cX11_word 2 (some .int) :: tb) ({ frames := 3, cells := 0, slots := 0, locals := 75 }) (pcw [.ref q, .int p0] (dC, dI) [(q, .inr (11, fs)), (tp, .inl (cT, 2000, .inl ft)), (ma, .inr (5, gm)), (lt, .inl (cL, 20, .inl fl)), (sz0, .inl (cS, 20, .inl f2)), (gs, .inl (cG, 20, .inl fg)), (dk, .inr (2, gd)), (wt, .inl (cW, 24200, .inl fw))] [(cT, .byte), (cL, .int), (cS, .int), (cG, .int), (cW, .byte)] sz) (va_Qi (fun (r : Int32) => (fun (_ : Unit) => r = 1)) (bw (dC, dI) (va_A [(q, .inr (11, fs)), (tp, .inl (cT, 2000, .inl ft)), (ma, .inr (5, gm)), (lt, .inl (cL, 20, .inl fl)), (sz0, .inl (cS, 20, .inl f2)), (gs, .inl (cG, 20, .inl fg)), (dk, .inr (2, gd)), (wt, .inl (cW, 24200, .inl fw))] sz) (fun (_ : Unit) => []) (fun (_ : Unit) => [])) (va_A [(q, .inr (11, fs)), (tp, .inl (cT, 2000, .inl ft)), (ma, .inr (5, gm)), (lt, .inl (cL, 20, .inl fl)), (sz0, .inl (cS, 20, .inl f2)), (gs, .inl (cG, 20, .inl fg)), (dk, .inr (2, gd)), (wt, .inl (cW, 24200, .inl fw))] sz)) 0 0 (va_A [(q, .inr (11, fs)), (tp, .inl (cT, 2000, .inl ft)), (ma, .inr (5, gm)), (lt, .inl (cL, 20, .inl fl)), (sz0, .inl (cS, 20, .inl f2)), (gs, .inl (cG, 20, .inl fg)), (dk, .inr (2, gd)), (wt, .inl (cW, 24200, .inl fw))] sz) := by
  refine Met.ofW (cc := cX11_word) (maxL := 2) (ret := (some .int)) (by decide) rfl ?_
  intro p e s m args below meth c s₁ B hml hv
  obtain ⟨rfl, hsz, hP, hK, hD0⟩ := hv
  have hx := B.exec
  have hb := B.bytes
  have hr := B.returns
  have hts := atoms_spec (ws := Cond.code yX11_word cX11_word 2 (some .int) :: tb) B.pre
  have ht : ∀ w ∈ tb, w.before _ s = true := fun w h => hts w (List.mem_cons_of_mem _ h)
  have hown : s.vm.findClass RX11 = some m.cls := findClass_of_methodNamed B.named
  have hlocks := B.notSynchronized
  subst hsz
  have hD := hD0.self (sz := s.heap.size)
  generalize hAe : va_A [(q, .inr (11, fs)), (tp, .inl (cT, 2000, .inl ft)), (ma, .inr (5, gm)), (lt, .inl (cL, 20, .inl fl)), (sz0, .inl (cS, 20, .inl f2)), (gs, .inl (cG, 20, .inl fg)), (dk, .inr (2, gd)), (wt, .inl (cW, 24200, .inl fw))] s.heap.size = A at hD ⊢
  have hA : ∀ q : Nat, s.heap.size ≤ q → A q := fun q h => by rw [← hAe]; exact Or.inr h
  have hS : va_S A s.heap s.heap [] := va_S.rf
  have hl := lv_entry ([.ref q, .int p0]) (n := 2) (Nat.le_of_ble_eq_true rfl)
  rw [lg_entry_eq]
  generalize (lg_sl ([.ref q, .int p0]) ++ List.replicate (2 - (lg_sl ([.ref q, .int p0])).length) Slot.unset).toArray = ls at hl ⊢
  have hl : lv_has ls 2 [(0, .ref q), (1, .int p0)] := hl
  have hP : va_P (dC, dI) cls [(q, .inr (11, fs)), (tp, .inl (cT, 2000, .inl ft)), (ma, .inr (5, gm)), (lt, .inl (cL, 20, .inl fl)), (sz0, .inl (cS, 20, .inl f2)), (gs, .inl (cG, 20, .inl fg)), (dk, .inr (2, gd)), (wt, .inl (cW, 24200, .inl fw))] s.heap := hP
  refine lv_aload_n hx hb dX11_word_0 rfl (lv_at hl 0 rfl) ?_
  refine va_get (D := (dC, dI)) (ci := 11) (v := .int 0) (C := RX11) (T := TX11) (N := 18) hx hb ht uX11 hown hK hP 0 rfl rfl 2 (by decide) (ht _ k_4_93) (fun _ h9 => h9) K2_fs dX11_word_1 ?_
  refine lv_if_eq (tgt := 10) hx hb dX11_word_4 (by decide) (fun _ => ?_) (fun c0 => absurd c0 (by decide))
  refine lv_aload_n hx hb dX11_word_10 rfl (lv_at hl 0 rfl) ?_
  refine lv_aload_n hx hb dX11_word_11 rfl (lv_at hl 0 rfl) ?_
  refine va_get (D := (dC, dI)) (ci := 11) (v := .ref tp) (C := RX11) (T := TX11) (N := 18) hx hb ht uX11 hown hK hP 0 rfl rfl 0 (by decide) (ht _ k_4_91) (fun _ h9 => h9) K0_fs dX11_word_12 ?_
  refine lv_iconst (v := 0) hx hb dX11_word_15 (by decide) ?_
  refine lv_aload_n hx hb dX11_word_16 rfl (lv_at hl 0 rfl) ?_
  refine ca_i (wr := [(tp, .inl (cT, 2000, .inl ft)), (ma, .inr (5, gm)), (lt, .inl (cL, 20, .inl fl)), (sz0, .inl (cS, 20, .inl f2)), (gs, .inl (cG, 20, .inl fg)), (dk, .inr (2, gd)), (wt, .inl (cW, 24200, .inl fw))]) (va_runV (As := []) (rest := [.int 0, .ref tp, .ref q]) ⟨hx, hb, hml, hown, ht⟩ (x_takeTape l dC dI s.heap.size q fs tp rd as sp lp wr ma dk L_fs K0_fs K1_fs K2_fs K8_fs K9_fs K10_fs K11_fs K14_fs K15_fs K16_fs K17_fs ) (cwV 0 ht (gdV k_4_165 k_4_162 k_4_164 ks_1 k_1_1) rfl rfl rfl (by decide +kernel) ⟨Nat.le_of_ble_eq_true rfl, Nat.le_of_ble_eq_true rfl⟩) ⟨pcw_blind, va_recv hK hP (ci := 11) (q0 := 0) rfl rfl, pcw_at hP hD hK [0] [] (by decide) rfl rfl rfl⟩ rfl rfl hl.1 rfl (lv_room (Nat.le_of_ble_eq_true rfl)) dX11_word_17 ⟨Nat.le_of_ble_eq_true rfl, Nat.le_of_ble_eq_true rfl⟩) hP hD hK hS hA [0] [1, 2, 3, 4, 5, 6, 7] rfl rfl (by decide) (by decide) (fun r1 u H locs w2 hK hP hD hS => ?_)
  obtain ⟨F3, rfl⟩ : ∃ z, z = u := ⟨_, rfl⟩
  have hK : va_K (dC, dI) cls [(cT, .byte), (cL, .int), (cS, .int), (cG, .int), (cW, .byte)] s := hK
  have hP : va_P (dC, dI) cls [(tp, .inl (cT, 2000, .inl ft)), (ma, .inr (5, gm)), (lt, .inl (cL, 20, .inl fl)), (sz0, .inl (cS, 20, .inl f2)), (gs, .inl (cG, 20, .inl fg)), (dk, .inr (2, gd)), (wt, .inl (cW, 24200, .inl fw)), (q, .inr (11, F3))] H := hP
  have hD : va_D A [(tp, .inl (cT, 2000, .inl ft)), (ma, .inr (5, gm)), (lt, .inl (cL, 20, .inl fl)), (sz0, .inl (cS, 20, .inl f2)), (gs, .inl (cG, 20, .inl fg)), (dk, .inr (2, gd)), (wt, .inl (cW, 24200, .inl fw)), (q, .inr (11, F3))] := hD
  obtain ⟨w2, K4, K5, K6, K7, K8, K9, K10, K11, K12, K13, K14, K15⟩ := w2
  obtain rfl : r1 = 0 := w2
  refine lv_iload_n hx hb dX11_word_20 rfl (lv_at hl 1 rfl) ?_
  refine lv_if_eq (tgt := 28) hx hb dX11_word_21 (by decide) (fun b16 => ?_) (fun b16 => ?_)
  · refine lv_iconst (v := 0) hx hb dX11_word_28 (by decide) ?_
    refine lv_iconst (v := 1) hx hb dX11_word_29 (by decide) ?_
    refine ca_i (wr := []) (va_runV (As := [.ref tp, .int 0, .int 0, .int 0, .int 1]) (rest := []) ⟨hx, hb, hml, hown, ht⟩ (x_addWord l dC dI H.size q F3 tp cT ft ma gm lt cL fl sz0 cS f2 gs cG fg dk gd wt cW fw 0 K4 K14 K15 L_gm K0_gm K1_gm K2_gm K3_gm L_gd K1_gd K2_gd K3_gd K4_gd K5_gd ) (cwV 5 ht (gdV k_8_161 k_8_158 k_8_160 ks_96 k_1_1) rfl rfl rfl (by decide +kernel) ⟨Nat.le_of_ble_eq_true rfl, Nat.le_of_ble_eq_true rfl⟩) ⟨pcw_blind, va_recv hK hP (ci := 11) (q0 := 7) rfl rfl, pcw_at hP hD hK [7, 0, 1, 2, 3, 4, 5, 6] [0, 1, 2, 3, 4] (by decide) rfl rfl rfl⟩ rfl rfl hl.1 rfl (lv_room (Nat.le_of_ble_eq_true rfl)) dX11_word_30 ⟨Nat.le_of_ble_eq_true rfl, Nat.le_of_ble_eq_true rfl⟩) hP hD hK hS hA [7, 0, 1, 2, 3, 4, 5, 6] [] rfl rfl (by decide) (by decide) (fun r17 u H locs w18 hK hP hD hS => ?_)
    have hK : va_K (dC, dI) cls [(cT, .byte), (cL, .int), (cS, .int), (cG, .int), (cW, .byte)] s := hK
    have hP : va_P (dC, dI) cls [] H := hP
    have hD : va_D A [] := hD
    obtain rfl : r17 = 1 := w18
    exact W.iret (v := 1) hx hb hr (fun t ht9 hW => ⟨⟨1, (), rfl, rfl, by rw [ht9]; exact hP.sub [] rfl, va_K.moved hW.alike (hK.sub [] rfl), hD.sub [] (by decide) rfl⟩, hS.F ht9⟩) hS.2.2 dX11_word_33
  · refine lv_iconst (v := 1) hx hb dX11_word_24 (by decide) ?_
    refine lv_goto (tgt := 29) hx hb dX11_word_25 (by decide) ?_
    refine lv_iconst (v := 1) hx hb dX11_word_29 (by decide) ?_
    refine ca_i (wr := []) (va_runV (As := [.ref tp, .int 0, .int 0, .int 1, .int 1]) (rest := []) ⟨hx, hb, hml, hown, ht⟩ (x_addWord l dC dI H.size q F3 tp cT ft ma gm lt cL fl sz0 cS f2 gs cG fg dk gd wt cW fw 1 K4 K14 K15 L_gm K0_gm K1_gm K2_gm K3_gm L_gd K1_gd K2_gd K3_gd K4_gd K5_gd ) (cwV 5 ht (gdV k_8_161 k_8_158 k_8_160 ks_96 k_1_1) rfl rfl rfl (by decide +kernel) ⟨Nat.le_of_ble_eq_true rfl, Nat.le_of_ble_eq_true rfl⟩) ⟨pcw_blind, va_recv hK hP (ci := 11) (q0 := 7) rfl rfl, pcw_at hP hD hK [7, 0, 1, 2, 3, 4, 5, 6] [0, 1, 2, 3, 4] (by decide) rfl rfl rfl⟩ rfl rfl hl.1 rfl (lv_room (Nat.le_of_ble_eq_true rfl)) dX11_word_30 ⟨Nat.le_of_ble_eq_true rfl, Nat.le_of_ble_eq_true rfl⟩) hP hD hK hS hA [7, 0, 1, 2, 3, 4, 5, 6] [] rfl rfl (by decide) (by decide) (fun r19 u H locs w20 hK hP hD hS => ?_)
    have hK : va_K (dC, dI) cls [(cT, .byte), (cL, .int), (cS, .int), (cG, .int), (cW, .byte)] s := hK
    have hP : va_P (dC, dI) cls [] H := hP
    have hD : va_D A [] := hD
    obtain rfl : r19 = 1 := w20
    exact W.iret (v := 1) hx hb hr (fun t ht9 hW => ⟨⟨1, (), rfl, rfl, by rw [ht9]; exact hP.sub [] rfl, va_K.moved hW.alike (hK.sub [] rfl), hD.sub [] (by decide) rfl⟩, hS.F ht9⟩) hS.2.2 dX11_word_33
set_option maxHeartbeats 4000000 in
set_option maxRecDepth 100000 in
theorem m5_endsOf_00 (l : Launch) (dC : Nat → ClassId) (dI : Nat → Nat → Nat) (sz : Nat) (ma : Nat) (gm : List Value) (L_gm : gm.length = 15) (K0_gm : gm[0]? = some (.int 0)) : Met l yX5_endsOf (Cond.code yX5_endsOf cX5_endsOf 5 (some .int) :: tb) ({ frames := 0, cells := 0, slots := 0, locals := 0 }) (pcw [.ref ma, .int 0, .int 0] (dC, dI) [(ma, .inr (5, gm))] [] sz) (va_Qi (fun (r : Int32) => (fun (_ : Unit) => r = 0)) (bw (dC, dI) (va_A [(ma, .inr (5, gm))] sz) (fun (_ : Unit) => [(ma, .inr (5, gm))]) (fun (_ : Unit) => [])) (va_A [(ma, .inr (5, gm))] sz)) 0 0 (va_A [(ma, .inr (5, gm))] sz) := by
  refine Met.ofW (cc := cX5_endsOf) (maxL := 5) (ret := (some .int)) (by decide) rfl ?_
  intro p e s m args below meth c s₁ B hml hv
  obtain ⟨rfl, hsz, hP, hK, hD0⟩ := hv
  have hx := B.exec
  have hb := B.bytes
  have hr := B.returns
  have hts := atoms_spec (ws := Cond.code yX5_endsOf cX5_endsOf 5 (some .int) :: tb) B.pre
  have ht : ∀ w ∈ tb, w.before _ s = true := fun w h => hts w (List.mem_cons_of_mem _ h)
  have hown : s.vm.findClass RX5 = some m.cls := findClass_of_methodNamed B.named
  have hlocks := B.notSynchronized
  subst hsz
  have hD := hD0.self (sz := s.heap.size)
  generalize hAe : va_A [(ma, .inr (5, gm))] s.heap.size = A at hD ⊢
  have hA : ∀ q : Nat, s.heap.size ≤ q → A q := fun q h => by rw [← hAe]; exact Or.inr h
  have hS : va_S A s.heap s.heap [] := va_S.rf
  have hl := lv_entry ([.ref ma, .int 0, .int 0]) (n := 5) (Nat.le_of_ble_eq_true rfl)
  rw [lg_entry_eq]
  generalize (lg_sl ([.ref ma, .int 0, .int 0]) ++ List.replicate (5 - (lg_sl ([.ref ma, .int 0, .int 0])).length) Slot.unset).toArray = ls at hl ⊢
  have hl : lv_has ls 5 [(0, .ref ma), (1, .int 0), (2, .int 0)] := hl
  have hP : va_P (dC, dI) cls [(ma, .inr (5, gm))] s.heap := hP
  refine lv_iconst (v := 0) hx hb dX5_endsOf_0 (by decide) ?_
  refine lv_istore_n (lv' := [(3, .int 0), (0, .ref ma), (1, .int 0), (2, .int 0)]) hx hb dX5_endsOf_1 rfl hl (by decide) rfl (fun ls hl => ?_)
  refine lv_iconst (v := 0) hx hb dX5_endsOf_2 (by decide) ?_
  refine lv_istore (lv' := [(4, .int 0), (3, .int 0), (0, .ref ma), (1, .int 0), (2, .int 0)]) hx hb dX5_endsOf_3 hl (by decide) rfl (fun ls hl => ?_)
  refine lv_iload hx hb dX5_endsOf_5 (lv_at hl 0 rfl) ?_
  refine lv_aload_n hx hb dX5_endsOf_7 rfl (lv_at hl 2 rfl) ?_
  refine va_get (D := (dC, dI)) (ci := 5) (v := .int 0) (C := RX5) (T := TX5) (N := 15) hx hb ht uX5 hown hK hP 0 rfl rfl 0 (by decide) (ht _ k_4_7) (fun _ h9 => h9) K0_gm dX5_endsOf_8 ?_
  refine lv_icmp_ge (tgt := 70) hx hb dX5_endsOf_11 (by decide) (fun _ => ?_) (fun c0 => absurd c0 (by decide))
  refine lv_iload_n hx hb dX5_endsOf_70 rfl (lv_at hl 1 rfl) ?_
  exact W.iret (v := 0) hx hb hr (fun t ht9 hW => ⟨⟨0, (), rfl, rfl, by rw [ht9]; exact hP.sub [0] rfl, va_K.moved hW.alike (hK.sub [] rfl), hD.sub [0] (by decide) rfl⟩, hS.F ht9⟩) hS.2.2 dX5_endsOf_71
set_option maxHeartbeats 4000000 in
set_option maxRecDepth 100000 in
theorem m5_endsOf_01 (l : Launch) (dC : Nat → ClassId) (dI : Nat → Nat → Nat) (sz : Nat) (ma : Nat) (gm : List Value) (L_gm : gm.length = 15) (K0_gm : gm[0]? = some (.int 0)) : Met l yX5_endsOf (Cond.code yX5_endsOf cX5_endsOf 5 (some .int) :: tb) ({ frames := 0, cells := 0, slots := 0, locals := 0 }) (pcw [.ref ma, .int 0, .int 1] (dC, dI) [(ma, .inr (5, gm))] [] sz) (va_Qi (fun (r : Int32) => (fun (_ : Unit) => r = 0)) (bw (dC, dI) (va_A [(ma, .inr (5, gm))] sz) (fun (_ : Unit) => [(ma, .inr (5, gm))]) (fun (_ : Unit) => [])) (va_A [(ma, .inr (5, gm))] sz)) 0 0 (va_A [(ma, .inr (5, gm))] sz) := by
  refine Met.ofW (cc := cX5_endsOf) (maxL := 5) (ret := (some .int)) (by decide) rfl ?_
  intro p e s m args below meth c s₁ B hml hv
  obtain ⟨rfl, hsz, hP, hK, hD0⟩ := hv
  have hx := B.exec
  have hb := B.bytes
  have hr := B.returns
  have hts := atoms_spec (ws := Cond.code yX5_endsOf cX5_endsOf 5 (some .int) :: tb) B.pre
  have ht : ∀ w ∈ tb, w.before _ s = true := fun w h => hts w (List.mem_cons_of_mem _ h)
  have hown : s.vm.findClass RX5 = some m.cls := findClass_of_methodNamed B.named
  have hlocks := B.notSynchronized
  subst hsz
  have hD := hD0.self (sz := s.heap.size)
  generalize hAe : va_A [(ma, .inr (5, gm))] s.heap.size = A at hD ⊢
  have hA : ∀ q : Nat, s.heap.size ≤ q → A q := fun q h => by rw [← hAe]; exact Or.inr h
  have hS : va_S A s.heap s.heap [] := va_S.rf
  have hl := lv_entry ([.ref ma, .int 0, .int 1]) (n := 5) (Nat.le_of_ble_eq_true rfl)
  rw [lg_entry_eq]
  generalize (lg_sl ([.ref ma, .int 0, .int 1]) ++ List.replicate (5 - (lg_sl ([.ref ma, .int 0, .int 1])).length) Slot.unset).toArray = ls at hl ⊢
  have hl : lv_has ls 5 [(0, .ref ma), (1, .int 0), (2, .int 1)] := hl
  have hP : va_P (dC, dI) cls [(ma, .inr (5, gm))] s.heap := hP
  refine lv_iconst (v := 0) hx hb dX5_endsOf_0 (by decide) ?_
  refine lv_istore_n (lv' := [(3, .int 0), (0, .ref ma), (1, .int 0), (2, .int 1)]) hx hb dX5_endsOf_1 rfl hl (by decide) rfl (fun ls hl => ?_)
  refine lv_iconst (v := 0) hx hb dX5_endsOf_2 (by decide) ?_
  refine lv_istore (lv' := [(4, .int 0), (3, .int 0), (0, .ref ma), (1, .int 0), (2, .int 1)]) hx hb dX5_endsOf_3 hl (by decide) rfl (fun ls hl => ?_)
  refine lv_iload hx hb dX5_endsOf_5 (lv_at hl 0 rfl) ?_
  refine lv_aload_n hx hb dX5_endsOf_7 rfl (lv_at hl 2 rfl) ?_
  refine va_get (D := (dC, dI)) (ci := 5) (v := .int 0) (C := RX5) (T := TX5) (N := 15) hx hb ht uX5 hown hK hP 0 rfl rfl 0 (by decide) (ht _ k_4_7) (fun _ h9 => h9) K0_gm dX5_endsOf_8 ?_
  refine lv_icmp_ge (tgt := 70) hx hb dX5_endsOf_11 (by decide) (fun _ => ?_) (fun c0 => absurd c0 (by decide))
  refine lv_iload_n hx hb dX5_endsOf_70 rfl (lv_at hl 1 rfl) ?_
  exact W.iret (v := 0) hx hb hr (fun t ht9 hW => ⟨⟨0, (), rfl, rfl, by rw [ht9]; exact hP.sub [0] rfl, va_K.moved hW.alike (hK.sub [] rfl), hD.sub [0] (by decide) rfl⟩, hS.F ht9⟩) hS.2.2 dX5_endsOf_71
set_option maxHeartbeats 4000000 in
set_option maxRecDepth 100000 in
theorem m5_isClash_0 (l : Launch) (dC : Nat → ClassId) (dI : Nat → Nat → Nat) (sz : Nat) (ma : Nat) (gm : List Value) (L_gm : gm.length = 15) (K0_gm : gm[0]? = some (.int 0)) : Met l yX5_isClash (Cond.code yX5_isClash cX5_isClash 2 (some .boolean) :: tb) ({ frames := 1, cells := 0, slots := 0, locals := 24 }) (pcw [.ref ma, .int 0] (dC, dI) [(ma, .inr (5, gm))] [] sz) (va_Qi (fun (r : Int32) => (fun (_ : Unit) => r = 0)) (bw (dC, dI) (va_A [(ma, .inr (5, gm))] sz) (fun (_ : Unit) => [(ma, .inr (5, gm))]) (fun (_ : Unit) => [])) (va_A [(ma, .inr (5, gm))] sz)) 0 0 (va_A [(ma, .inr (5, gm))] sz) := by
  refine Met.ofW (cc := cX5_isClash) (maxL := 2) (ret := (some .boolean)) (by decide) rfl ?_
  intro p e s m args below meth c s₁ B hml hv
  obtain ⟨rfl, hsz, hP, hK, hD0⟩ := hv
  have hx := B.exec
  have hb := B.bytes
  have hr := B.returns
  have hts := atoms_spec (ws := Cond.code yX5_isClash cX5_isClash 2 (some .boolean) :: tb) B.pre
  have ht : ∀ w ∈ tb, w.before _ s = true := fun w h => hts w (List.mem_cons_of_mem _ h)
  have hown : s.vm.findClass RX5 = some m.cls := findClass_of_methodNamed B.named
  have hlocks := B.notSynchronized
  subst hsz
  have hD := hD0.self (sz := s.heap.size)
  generalize hAe : va_A [(ma, .inr (5, gm))] s.heap.size = A at hD ⊢
  have hA : ∀ q : Nat, s.heap.size ≤ q → A q := fun q h => by rw [← hAe]; exact Or.inr h
  have hS : va_S A s.heap s.heap [] := va_S.rf
  have hl := lv_entry ([.ref ma, .int 0]) (n := 2) (Nat.le_of_ble_eq_true rfl)
  rw [lg_entry_eq]
  generalize (lg_sl ([.ref ma, .int 0]) ++ List.replicate (2 - (lg_sl ([.ref ma, .int 0])).length) Slot.unset).toArray = ls at hl ⊢
  have hl : lv_has ls 2 [(0, .ref ma), (1, .int 0)] := hl
  have hP : va_P (dC, dI) cls [(ma, .inr (5, gm))] s.heap := hP
  refine lv_aload_n hx hb dX5_isClash_0 rfl (lv_at hl 0 rfl) ?_
  refine lv_iload_n hx hb dX5_isClash_1 rfl (lv_at hl 1 rfl) ?_
  refine lv_iconst (v := 0) hx hb dX5_isClash_2 (by decide) ?_
  refine ca_i (wr := []) (va_runV (As := [.int 0, .int 0]) (rest := []) ⟨hx, hb, hml, hown, ht⟩ (m5_endsOf_00 l dC dI s.heap.size ma gm L_gm K0_gm ) (cwV 2 ht (gdV k_8_197 k_8_194 k_8_196 ks_98 k_1_15) rfl rfl rfl (by decide +kernel) ⟨Nat.le_of_ble_eq_true rfl, Nat.le_of_ble_eq_true rfl⟩) ⟨pcw_blind, va_recv hK hP (ci := 5) (q0 := 0) rfl rfl, pcw_at hP hD hK [0] [] (by decide) rfl rfl rfl⟩ rfl rfl hl.1 rfl (lv_room (Nat.le_of_ble_eq_true rfl)) dX5_isClash_3 ⟨Nat.le_of_ble_eq_true rfl, Nat.le_of_ble_eq_true rfl⟩) hP hD hK hS hA [0] [] rfl rfl (by decide) (by decide) (fun r1 u H locs w2 hK hP hD hS => ?_)
  have hK : va_K (dC, dI) cls [] s := hK
  have hP : va_P (dC, dI) cls [(ma, .inr (5, gm))] H := hP
  have hD : va_D A [(ma, .inr (5, gm))] := hD
  obtain rfl : r1 = 0 := w2
  refine lv_aload_n hx hb dX5_isClash_6 rfl (lv_at hl 0 rfl) ?_
  refine lv_iload_n hx hb dX5_isClash_7 rfl (lv_at hl 1 rfl) ?_
  refine lv_iconst (v := 1) hx hb dX5_isClash_8 (by decide) ?_
  refine ca_i (wr := []) (va_runV (As := [.int 0, .int 1]) (rest := [.int 0]) ⟨hx, hb, hml, hown, ht⟩ (m5_endsOf_01 l dC dI H.size ma gm L_gm K0_gm ) (cwV 2 ht (gdV k_8_197 k_8_194 k_8_196 ks_98 k_1_15) rfl rfl rfl (by decide +kernel) ⟨Nat.le_of_ble_eq_true rfl, Nat.le_of_ble_eq_true rfl⟩) ⟨pcw_blind, va_recv hK hP (ci := 5) (q0 := 0) rfl rfl, pcw_at hP hD hK [0] [] (by decide) rfl rfl rfl⟩ rfl rfl hl.1 rfl (lv_room (Nat.le_of_ble_eq_true rfl)) dX5_isClash_9 ⟨Nat.le_of_ble_eq_true rfl, Nat.le_of_ble_eq_true rfl⟩) hP hD hK hS hA [0] [] rfl rfl (by decide) (by decide) (fun r3 u H locs w4 hK hP hD hS => ?_)
  have hK : va_K (dC, dI) cls [] s := hK
  have hP : va_P (dC, dI) cls [(ma, .inr (5, gm))] H := hP
  have hD : va_D A [(ma, .inr (5, gm))] := hD
  obtain rfl : r3 = 0 := w4
  refine lv_iand hx hb dX5_isClash_12 ?_
  refine tk_i (y := 0) (by decide) ?_
  refine lv_if_eq (tgt := 20) hx hb dX5_isClash_13 (by decide) (fun _ => ?_) (fun c0 => absurd c0 (by decide))
  refine lv_iconst (v := 0) hx hb dX5_isClash_20 (by decide) ?_
  exact W.zret (v := 0) hx hb hr rfl (fun t ht9 hW => ⟨⟨0, (), rfl, rfl, by rw [ht9]; exact hP.sub [0] rfl, va_K.moved hW.alike (hK.sub [] rfl), hD.sub [0] (by decide) rfl⟩, hS.F ht9⟩) hS.2.2 dX5_isClash_21
set_option maxHeartbeats 4000000 in
set_option maxRecDepth 100000 in
theorem m5_endsOf_10 (l : Launch) (dC : Nat → ClassId) (dI : Nat → Nat → Nat) (sz : Nat) (ma : Nat) (gm : List Value) (L_gm : gm.length = 15) (K0_gm : gm[0]? = some (.int 0)) : Met l yX5_endsOf (Cond.code yX5_endsOf cX5_endsOf 5 (some .int) :: tb) ({ frames := 0, cells := 0, slots := 0, locals := 0 }) (pcw [.ref ma, .int 1, .int 0] (dC, dI) [(ma, .inr (5, gm))] [] sz) (va_Qi (fun (r : Int32) => (fun (_ : Unit) => r = 0)) (bw (dC, dI) (va_A [(ma, .inr (5, gm))] sz) (fun (_ : Unit) => [(ma, .inr (5, gm))]) (fun (_ : Unit) => [])) (va_A [(ma, .inr (5, gm))] sz)) 0 0 (va_A [(ma, .inr (5, gm))] sz) := by
  refine Met.ofW (cc := cX5_endsOf) (maxL := 5) (ret := (some .int)) (by decide) rfl ?_
  intro p e s m args below meth c s₁ B hml hv
  obtain ⟨rfl, hsz, hP, hK, hD0⟩ := hv
  have hx := B.exec
  have hb := B.bytes
  have hr := B.returns
  have hts := atoms_spec (ws := Cond.code yX5_endsOf cX5_endsOf 5 (some .int) :: tb) B.pre
  have ht : ∀ w ∈ tb, w.before _ s = true := fun w h => hts w (List.mem_cons_of_mem _ h)
  have hown : s.vm.findClass RX5 = some m.cls := findClass_of_methodNamed B.named
  have hlocks := B.notSynchronized
  subst hsz
  have hD := hD0.self (sz := s.heap.size)
  generalize hAe : va_A [(ma, .inr (5, gm))] s.heap.size = A at hD ⊢
  have hA : ∀ q : Nat, s.heap.size ≤ q → A q := fun q h => by rw [← hAe]; exact Or.inr h
  have hS : va_S A s.heap s.heap [] := va_S.rf
  have hl := lv_entry ([.ref ma, .int 1, .int 0]) (n := 5) (Nat.le_of_ble_eq_true rfl)
  rw [lg_entry_eq]
  generalize (lg_sl ([.ref ma, .int 1, .int 0]) ++ List.replicate (5 - (lg_sl ([.ref ma, .int 1, .int 0])).length) Slot.unset).toArray = ls at hl ⊢
  have hl : lv_has ls 5 [(0, .ref ma), (1, .int 1), (2, .int 0)] := hl
  have hP : va_P (dC, dI) cls [(ma, .inr (5, gm))] s.heap := hP
  refine lv_iconst (v := 0) hx hb dX5_endsOf_0 (by decide) ?_
  refine lv_istore_n (lv' := [(3, .int 0), (0, .ref ma), (1, .int 1), (2, .int 0)]) hx hb dX5_endsOf_1 rfl hl (by decide) rfl (fun ls hl => ?_)
  refine lv_iconst (v := 0) hx hb dX5_endsOf_2 (by decide) ?_
  refine lv_istore (lv' := [(4, .int 0), (3, .int 0), (0, .ref ma), (1, .int 1), (2, .int 0)]) hx hb dX5_endsOf_3 hl (by decide) rfl (fun ls hl => ?_)
  refine lv_iload hx hb dX5_endsOf_5 (lv_at hl 0 rfl) ?_
  refine lv_aload_n hx hb dX5_endsOf_7 rfl (lv_at hl 2 rfl) ?_
  refine va_get (D := (dC, dI)) (ci := 5) (v := .int 0) (C := RX5) (T := TX5) (N := 15) hx hb ht uX5 hown hK hP 0 rfl rfl 0 (by decide) (ht _ k_4_7) (fun _ h9 => h9) K0_gm dX5_endsOf_8 ?_
  refine lv_icmp_ge (tgt := 70) hx hb dX5_endsOf_11 (by decide) (fun _ => ?_) (fun c0 => absurd c0 (by decide))
  refine lv_iload_n hx hb dX5_endsOf_70 rfl (lv_at hl 1 rfl) ?_
  exact W.iret (v := 0) hx hb hr (fun t ht9 hW => ⟨⟨0, (), rfl, rfl, by rw [ht9]; exact hP.sub [0] rfl, va_K.moved hW.alike (hK.sub [] rfl), hD.sub [0] (by decide) rfl⟩, hS.F ht9⟩) hS.2.2 dX5_endsOf_71
set_option maxHeartbeats 4000000 in
set_option maxRecDepth 100000 in
theorem m5_endsOf_11 (l : Launch) (dC : Nat → ClassId) (dI : Nat → Nat → Nat) (sz : Nat) (ma : Nat) (gm : List Value) (L_gm : gm.length = 15) (K0_gm : gm[0]? = some (.int 0)) : Met l yX5_endsOf (Cond.code yX5_endsOf cX5_endsOf 5 (some .int) :: tb) ({ frames := 0, cells := 0, slots := 0, locals := 0 }) (pcw [.ref ma, .int 1, .int 1] (dC, dI) [(ma, .inr (5, gm))] [] sz) (va_Qi (fun (r : Int32) => (fun (_ : Unit) => r = 0)) (bw (dC, dI) (va_A [(ma, .inr (5, gm))] sz) (fun (_ : Unit) => [(ma, .inr (5, gm))]) (fun (_ : Unit) => [])) (va_A [(ma, .inr (5, gm))] sz)) 0 0 (va_A [(ma, .inr (5, gm))] sz) := by
  refine Met.ofW (cc := cX5_endsOf) (maxL := 5) (ret := (some .int)) (by decide) rfl ?_
  intro p e s m args below meth c s₁ B hml hv
  obtain ⟨rfl, hsz, hP, hK, hD0⟩ := hv
  have hx := B.exec
  have hb := B.bytes
  have hr := B.returns
  have hts := atoms_spec (ws := Cond.code yX5_endsOf cX5_endsOf 5 (some .int) :: tb) B.pre
  have ht : ∀ w ∈ tb, w.before _ s = true := fun w h => hts w (List.mem_cons_of_mem _ h)
  have hown : s.vm.findClass RX5 = some m.cls := findClass_of_methodNamed B.named
  have hlocks := B.notSynchronized
  subst hsz
  have hD := hD0.self (sz := s.heap.size)
  generalize hAe : va_A [(ma, .inr (5, gm))] s.heap.size = A at hD ⊢
  have hA : ∀ q : Nat, s.heap.size ≤ q → A q := fun q h => by rw [← hAe]; exact Or.inr h
  have hS : va_S A s.heap s.heap [] := va_S.rf
  have hl := lv_entry ([.ref ma, .int 1, .int 1]) (n := 5) (Nat.le_of_ble_eq_true rfl)
  rw [lg_entry_eq]
  generalize (lg_sl ([.ref ma, .int 1, .int 1]) ++ List.replicate (5 - (lg_sl ([.ref ma, .int 1, .int 1])).length) Slot.unset).toArray = ls at hl ⊢
  have hl : lv_has ls 5 [(0, .ref ma), (1, .int 1), (2, .int 1)] := hl
  have hP : va_P (dC, dI) cls [(ma, .inr (5, gm))] s.heap := hP
  refine lv_iconst (v := 0) hx hb dX5_endsOf_0 (by decide) ?_
  refine lv_istore_n (lv' := [(3, .int 0), (0, .ref ma), (1, .int 1), (2, .int 1)]) hx hb dX5_endsOf_1 rfl hl (by decide) rfl (fun ls hl => ?_)
  refine lv_iconst (v := 0) hx hb dX5_endsOf_2 (by decide) ?_
  refine lv_istore (lv' := [(4, .int 0), (3, .int 0), (0, .ref ma), (1, .int 1), (2, .int 1)]) hx hb dX5_endsOf_3 hl (by decide) rfl (fun ls hl => ?_)
  refine lv_iload hx hb dX5_endsOf_5 (lv_at hl 0 rfl) ?_
  refine lv_aload_n hx hb dX5_endsOf_7 rfl (lv_at hl 2 rfl) ?_
  refine va_get (D := (dC, dI)) (ci := 5) (v := .int 0) (C := RX5) (T := TX5) (N := 15) hx hb ht uX5 hown hK hP 0 rfl rfl 0 (by decide) (ht _ k_4_7) (fun _ h9 => h9) K0_gm dX5_endsOf_8 ?_
  refine lv_icmp_ge (tgt := 70) hx hb dX5_endsOf_11 (by decide) (fun _ => ?_) (fun c0 => absurd c0 (by decide))
  refine lv_iload_n hx hb dX5_endsOf_70 rfl (lv_at hl 1 rfl) ?_
  exact W.iret (v := 0) hx hb hr (fun t ht9 hW => ⟨⟨0, (), rfl, rfl, by rw [ht9]; exact hP.sub [0] rfl, va_K.moved hW.alike (hK.sub [] rfl), hD.sub [0] (by decide) rfl⟩, hS.F ht9⟩) hS.2.2 dX5_endsOf_71
set_option maxHeartbeats 4000000 in
set_option maxRecDepth 100000 in
theorem m5_isClash_1 (l : Launch) (dC : Nat → ClassId) (dI : Nat → Nat → Nat) (sz : Nat) (ma : Nat) (gm : List Value) (L_gm : gm.length = 15) (K0_gm : gm[0]? = some (.int 0)) : Met l yX5_isClash (Cond.code yX5_isClash cX5_isClash 2 (some .boolean) :: tb) ({ frames := 1, cells := 0, slots := 0, locals := 24 }) (pcw [.ref ma, .int 1] (dC, dI) [(ma, .inr (5, gm))] [] sz) (va_Qi (fun (r : Int32) => (fun (_ : Unit) => r = 0)) (bw (dC, dI) (va_A [(ma, .inr (5, gm))] sz) (fun (_ : Unit) => [(ma, .inr (5, gm))]) (fun (_ : Unit) => [])) (va_A [(ma, .inr (5, gm))] sz)) 0 0 (va_A [(ma, .inr (5, gm))] sz) := by
  refine Met.ofW (cc := cX5_isClash) (maxL := 2) (ret := (some .boolean)) (by decide) rfl ?_
  intro p e s m args below meth c s₁ B hml hv
  obtain ⟨rfl, hsz, hP, hK, hD0⟩ := hv
  have hx := B.exec
  have hb := B.bytes
  have hr := B.returns
  have hts := atoms_spec (ws := Cond.code yX5_isClash cX5_isClash 2 (some .boolean) :: tb) B.pre
  have ht : ∀ w ∈ tb, w.before _ s = true := fun w h => hts w (List.mem_cons_of_mem _ h)
  have hown : s.vm.findClass RX5 = some m.cls := findClass_of_methodNamed B.named
  have hlocks := B.notSynchronized
  subst hsz
  have hD := hD0.self (sz := s.heap.size)
  generalize hAe : va_A [(ma, .inr (5, gm))] s.heap.size = A at hD ⊢
  have hA : ∀ q : Nat, s.heap.size ≤ q → A q := fun q h => by rw [← hAe]; exact Or.inr h
  have hS : va_S A s.heap s.heap [] := va_S.rf
  have hl := lv_entry ([.ref ma, .int 1]) (n := 2) (Nat.le_of_ble_eq_true rfl)
  rw [lg_entry_eq]
  generalize (lg_sl ([.ref ma, .int 1]) ++ List.replicate (2 - (lg_sl ([.ref ma, .int 1])).length) Slot.unset).toArray = ls at hl ⊢
  have hl : lv_has ls 2 [(0, .ref ma), (1, .int 1)] := hl
  have hP : va_P (dC, dI) cls [(ma, .inr (5, gm))] s.heap := hP
  refine lv_aload_n hx hb dX5_isClash_0 rfl (lv_at hl 0 rfl) ?_
  refine lv_iload_n hx hb dX5_isClash_1 rfl (lv_at hl 1 rfl) ?_
  refine lv_iconst (v := 0) hx hb dX5_isClash_2 (by decide) ?_
  refine ca_i (wr := []) (va_runV (As := [.int 1, .int 0]) (rest := []) ⟨hx, hb, hml, hown, ht⟩ (m5_endsOf_10 l dC dI s.heap.size ma gm L_gm K0_gm ) (cwV 2 ht (gdV k_8_197 k_8_194 k_8_196 ks_98 k_1_15) rfl rfl rfl (by decide +kernel) ⟨Nat.le_of_ble_eq_true rfl, Nat.le_of_ble_eq_true rfl⟩) ⟨pcw_blind, va_recv hK hP (ci := 5) (q0 := 0) rfl rfl, pcw_at hP hD hK [0] [] (by decide) rfl rfl rfl⟩ rfl rfl hl.1 rfl (lv_room (Nat.le_of_ble_eq_true rfl)) dX5_isClash_3 ⟨Nat.le_of_ble_eq_true rfl, Nat.le_of_ble_eq_true rfl⟩) hP hD hK hS hA [0] [] rfl rfl (by decide) (by decide) (fun r1 u H locs w2 hK hP hD hS => ?_)
  have hK : va_K (dC, dI) cls [] s := hK
  have hP : va_P (dC, dI) cls [(ma, .inr (5, gm))] H := hP
  have hD : va_D A [(ma, .inr (5, gm))] := hD
  obtain rfl : r1 = 0 := w2
  refine lv_aload_n hx hb dX5_isClash_6 rfl (lv_at hl 0 rfl) ?_
  refine lv_iload_n hx hb dX5_isClash_7 rfl (lv_at hl 1 rfl) ?_
  refine lv_iconst (v := 1) hx hb dX5_isClash_8 (by decide) ?_
  refine ca_i (wr := []) (va_runV (As := [.int 1, .int 1]) (rest := [.int 0]) ⟨hx, hb, hml, hown, ht⟩ (m5_endsOf_11 l dC dI H.size ma gm L_gm K0_gm ) (cwV 2 ht (gdV k_8_197 k_8_194 k_8_196 ks_98 k_1_15) rfl rfl rfl (by decide +kernel) ⟨Nat.le_of_ble_eq_true rfl, Nat.le_of_ble_eq_true rfl⟩) ⟨pcw_blind, va_recv hK hP (ci := 5) (q0 := 0) rfl rfl, pcw_at hP hD hK [0] [] (by decide) rfl rfl rfl⟩ rfl rfl hl.1 rfl (lv_room (Nat.le_of_ble_eq_true rfl)) dX5_isClash_9 ⟨Nat.le_of_ble_eq_true rfl, Nat.le_of_ble_eq_true rfl⟩) hP hD hK hS hA [0] [] rfl rfl (by decide) (by decide) (fun r3 u H locs w4 hK hP hD hS => ?_)
  have hK : va_K (dC, dI) cls [] s := hK
  have hP : va_P (dC, dI) cls [(ma, .inr (5, gm))] H := hP
  have hD : va_D A [(ma, .inr (5, gm))] := hD
  obtain rfl : r3 = 0 := w4
  refine lv_iand hx hb dX5_isClash_12 ?_
  refine tk_i (y := 0) (by decide) ?_
  refine lv_if_eq (tgt := 20) hx hb dX5_isClash_13 (by decide) (fun _ => ?_) (fun c0 => absurd c0 (by decide))
  refine lv_iconst (v := 0) hx hb dX5_isClash_20 (by decide) ?_
  exact W.zret (v := 0) hx hb hr rfl (fun t ht9 hW => ⟨⟨0, (), rfl, rfl, by rw [ht9]; exact hP.sub [0] rfl, va_K.moved hW.alike (hK.sub [] rfl), hD.sub [0] (by decide) rfl⟩, hS.F ht9⟩) hS.2.2 dX5_isClash_21
set_option maxHeartbeats 4000000 in
set_option maxRecDepth 100000 in
theorem m5_endsOf_20 (l : Launch) (dC : Nat → ClassId) (dI : Nat → Nat → Nat) (sz : Nat) (ma : Nat) (gm : List Value) (L_gm : gm.length = 15) (K0_gm : gm[0]? = some (.int 0)) : Met l yX5_endsOf (Cond.code yX5_endsOf cX5_endsOf 5 (some .int) :: tb) ({ frames := 0, cells := 0, slots := 0, locals := 0 }) (pcw [.ref ma, .int 2, .int 0] (dC, dI) [(ma, .inr (5, gm))] [] sz) (va_Qi (fun (r : Int32) => (fun (_ : Unit) => r = 0)) (bw (dC, dI) (va_A [(ma, .inr (5, gm))] sz) (fun (_ : Unit) => [(ma, .inr (5, gm))]) (fun (_ : Unit) => [])) (va_A [(ma, .inr (5, gm))] sz)) 0 0 (va_A [(ma, .inr (5, gm))] sz) := by
  refine Met.ofW (cc := cX5_endsOf) (maxL := 5) (ret := (some .int)) (by decide) rfl ?_
  intro p e s m args below meth c s₁ B hml hv
  obtain ⟨rfl, hsz, hP, hK, hD0⟩ := hv
  have hx := B.exec
  have hb := B.bytes
  have hr := B.returns
  have hts := atoms_spec (ws := Cond.code yX5_endsOf cX5_endsOf 5 (some .int) :: tb) B.pre
  have ht : ∀ w ∈ tb, w.before _ s = true := fun w h => hts w (List.mem_cons_of_mem _ h)
  have hown : s.vm.findClass RX5 = some m.cls := findClass_of_methodNamed B.named
  have hlocks := B.notSynchronized
  subst hsz
  have hD := hD0.self (sz := s.heap.size)
  generalize hAe : va_A [(ma, .inr (5, gm))] s.heap.size = A at hD ⊢
  have hA : ∀ q : Nat, s.heap.size ≤ q → A q := fun q h => by rw [← hAe]; exact Or.inr h
  have hS : va_S A s.heap s.heap [] := va_S.rf
  have hl := lv_entry ([.ref ma, .int 2, .int 0]) (n := 5) (Nat.le_of_ble_eq_true rfl)
  rw [lg_entry_eq]
  generalize (lg_sl ([.ref ma, .int 2, .int 0]) ++ List.replicate (5 - (lg_sl ([.ref ma, .int 2, .int 0])).length) Slot.unset).toArray = ls at hl ⊢
  have hl : lv_has ls 5 [(0, .ref ma), (1, .int 2), (2, .int 0)] := hl
  have hP : va_P (dC, dI) cls [(ma, .inr (5, gm))] s.heap := hP
  refine lv_iconst (v := 0) hx hb dX5_endsOf_0 (by decide) ?_
  refine lv_istore_n (lv' := [(3, .int 0), (0, .ref ma), (1, .int 2), (2, .int 0)]) hx hb dX5_endsOf_1 rfl hl (by decide) rfl (fun ls hl => ?_)
  refine lv_iconst (v := 0) hx hb dX5_endsOf_2 (by decide) ?_
  refine lv_istore (lv' := [(4, .int 0), (3, .int 0), (0, .ref ma), (1, .int 2), (2, .int 0)]) hx hb dX5_endsOf_3 hl (by decide) rfl (fun ls hl => ?_)
  refine lv_iload hx hb dX5_endsOf_5 (lv_at hl 0 rfl) ?_
  refine lv_aload_n hx hb dX5_endsOf_7 rfl (lv_at hl 2 rfl) ?_
  refine va_get (D := (dC, dI)) (ci := 5) (v := .int 0) (C := RX5) (T := TX5) (N := 15) hx hb ht uX5 hown hK hP 0 rfl rfl 0 (by decide) (ht _ k_4_7) (fun _ h9 => h9) K0_gm dX5_endsOf_8 ?_
  refine lv_icmp_ge (tgt := 70) hx hb dX5_endsOf_11 (by decide) (fun _ => ?_) (fun c0 => absurd c0 (by decide))
  refine lv_iload_n hx hb dX5_endsOf_70 rfl (lv_at hl 1 rfl) ?_
  exact W.iret (v := 0) hx hb hr (fun t ht9 hW => ⟨⟨0, (), rfl, rfl, by rw [ht9]; exact hP.sub [0] rfl, va_K.moved hW.alike (hK.sub [] rfl), hD.sub [0] (by decide) rfl⟩, hS.F ht9⟩) hS.2.2 dX5_endsOf_71
set_option maxHeartbeats 4000000 in
set_option maxRecDepth 100000 in
theorem m5_endsOf_21 (l : Launch) (dC : Nat → ClassId) (dI : Nat → Nat → Nat) (sz : Nat) (ma : Nat) (gm : List Value) (L_gm : gm.length = 15) (K0_gm : gm[0]? = some (.int 0)) : Met l yX5_endsOf (Cond.code yX5_endsOf cX5_endsOf 5 (some .int) :: tb) ({ frames := 0, cells := 0, slots := 0, locals := 0 }) (pcw [.ref ma, .int 2, .int 1] (dC, dI) [(ma, .inr (5, gm))] [] sz) (va_Qi (fun (r : Int32) => (fun (_ : Unit) => r = 0)) (bw (dC, dI) (va_A [(ma, .inr (5, gm))] sz) (fun (_ : Unit) => [(ma, .inr (5, gm))]) (fun (_ : Unit) => [])) (va_A [(ma, .inr (5, gm))] sz)) 0 0 (va_A [(ma, .inr (5, gm))] sz) := by
  refine Met.ofW (cc := cX5_endsOf) (maxL := 5) (ret := (some .int)) (by decide) rfl ?_
  intro p e s m args below meth c s₁ B hml hv
  obtain ⟨rfl, hsz, hP, hK, hD0⟩ := hv
  have hx := B.exec
  have hb := B.bytes
  have hr := B.returns
  have hts := atoms_spec (ws := Cond.code yX5_endsOf cX5_endsOf 5 (some .int) :: tb) B.pre
  have ht : ∀ w ∈ tb, w.before _ s = true := fun w h => hts w (List.mem_cons_of_mem _ h)
  have hown : s.vm.findClass RX5 = some m.cls := findClass_of_methodNamed B.named
  have hlocks := B.notSynchronized
  subst hsz
  have hD := hD0.self (sz := s.heap.size)
  generalize hAe : va_A [(ma, .inr (5, gm))] s.heap.size = A at hD ⊢
  have hA : ∀ q : Nat, s.heap.size ≤ q → A q := fun q h => by rw [← hAe]; exact Or.inr h
  have hS : va_S A s.heap s.heap [] := va_S.rf
  have hl := lv_entry ([.ref ma, .int 2, .int 1]) (n := 5) (Nat.le_of_ble_eq_true rfl)
  rw [lg_entry_eq]
  generalize (lg_sl ([.ref ma, .int 2, .int 1]) ++ List.replicate (5 - (lg_sl ([.ref ma, .int 2, .int 1])).length) Slot.unset).toArray = ls at hl ⊢
  have hl : lv_has ls 5 [(0, .ref ma), (1, .int 2), (2, .int 1)] := hl
  have hP : va_P (dC, dI) cls [(ma, .inr (5, gm))] s.heap := hP
  refine lv_iconst (v := 0) hx hb dX5_endsOf_0 (by decide) ?_
  refine lv_istore_n (lv' := [(3, .int 0), (0, .ref ma), (1, .int 2), (2, .int 1)]) hx hb dX5_endsOf_1 rfl hl (by decide) rfl (fun ls hl => ?_)
  refine lv_iconst (v := 0) hx hb dX5_endsOf_2 (by decide) ?_
  refine lv_istore (lv' := [(4, .int 0), (3, .int 0), (0, .ref ma), (1, .int 2), (2, .int 1)]) hx hb dX5_endsOf_3 hl (by decide) rfl (fun ls hl => ?_)
  refine lv_iload hx hb dX5_endsOf_5 (lv_at hl 0 rfl) ?_
  refine lv_aload_n hx hb dX5_endsOf_7 rfl (lv_at hl 2 rfl) ?_
  refine va_get (D := (dC, dI)) (ci := 5) (v := .int 0) (C := RX5) (T := TX5) (N := 15) hx hb ht uX5 hown hK hP 0 rfl rfl 0 (by decide) (ht _ k_4_7) (fun _ h9 => h9) K0_gm dX5_endsOf_8 ?_
  refine lv_icmp_ge (tgt := 70) hx hb dX5_endsOf_11 (by decide) (fun _ => ?_) (fun c0 => absurd c0 (by decide))
  refine lv_iload_n hx hb dX5_endsOf_70 rfl (lv_at hl 1 rfl) ?_
  exact W.iret (v := 0) hx hb hr (fun t ht9 hW => ⟨⟨0, (), rfl, rfl, by rw [ht9]; exact hP.sub [0] rfl, va_K.moved hW.alike (hK.sub [] rfl), hD.sub [0] (by decide) rfl⟩, hS.F ht9⟩) hS.2.2 dX5_endsOf_71
set_option maxHeartbeats 4000000 in
set_option maxRecDepth 100000 in
theorem m5_isClash_2 (l : Launch) (dC : Nat → ClassId) (dI : Nat → Nat → Nat) (sz : Nat) (ma : Nat) (gm : List Value) (L_gm : gm.length = 15) (K0_gm : gm[0]? = some (.int 0)) : Met l yX5_isClash (Cond.code yX5_isClash cX5_isClash 2 (some .boolean) :: tb) ({ frames := 1, cells := 0, slots := 0, locals := 24 }) (pcw [.ref ma, .int 2] (dC, dI) [(ma, .inr (5, gm))] [] sz) (va_Qi (fun (r : Int32) => (fun (_ : Unit) => r = 0)) (bw (dC, dI) (va_A [(ma, .inr (5, gm))] sz) (fun (_ : Unit) => [(ma, .inr (5, gm))]) (fun (_ : Unit) => [])) (va_A [(ma, .inr (5, gm))] sz)) 0 0 (va_A [(ma, .inr (5, gm))] sz) := by
  refine Met.ofW (cc := cX5_isClash) (maxL := 2) (ret := (some .boolean)) (by decide) rfl ?_
  intro p e s m args below meth c s₁ B hml hv
  obtain ⟨rfl, hsz, hP, hK, hD0⟩ := hv
  have hx := B.exec
  have hb := B.bytes
  have hr := B.returns
  have hts := atoms_spec (ws := Cond.code yX5_isClash cX5_isClash 2 (some .boolean) :: tb) B.pre
  have ht : ∀ w ∈ tb, w.before _ s = true := fun w h => hts w (List.mem_cons_of_mem _ h)
  have hown : s.vm.findClass RX5 = some m.cls := findClass_of_methodNamed B.named
  have hlocks := B.notSynchronized
  subst hsz
  have hD := hD0.self (sz := s.heap.size)
  generalize hAe : va_A [(ma, .inr (5, gm))] s.heap.size = A at hD ⊢
  have hA : ∀ q : Nat, s.heap.size ≤ q → A q := fun q h => by rw [← hAe]; exact Or.inr h
  have hS : va_S A s.heap s.heap [] := va_S.rf
  have hl := lv_entry ([.ref ma, .int 2]) (n := 2) (Nat.le_of_ble_eq_true rfl)
  rw [lg_entry_eq]
  generalize (lg_sl ([.ref ma, .int 2]) ++ List.replicate (2 - (lg_sl ([.ref ma, .int 2])).length) Slot.unset).toArray = ls at hl ⊢
  have hl : lv_has ls 2 [(0, .ref ma), (1, .int 2)] := hl
  have hP : va_P (dC, dI) cls [(ma, .inr (5, gm))] s.heap := hP
  refine lv_aload_n hx hb dX5_isClash_0 rfl (lv_at hl 0 rfl) ?_
  refine lv_iload_n hx hb dX5_isClash_1 rfl (lv_at hl 1 rfl) ?_
  refine lv_iconst (v := 0) hx hb dX5_isClash_2 (by decide) ?_
  refine ca_i (wr := []) (va_runV (As := [.int 2, .int 0]) (rest := []) ⟨hx, hb, hml, hown, ht⟩ (m5_endsOf_20 l dC dI s.heap.size ma gm L_gm K0_gm ) (cwV 2 ht (gdV k_8_197 k_8_194 k_8_196 ks_98 k_1_15) rfl rfl rfl (by decide +kernel) ⟨Nat.le_of_ble_eq_true rfl, Nat.le_of_ble_eq_true rfl⟩) ⟨pcw_blind, va_recv hK hP (ci := 5) (q0 := 0) rfl rfl, pcw_at hP hD hK [0] [] (by decide) rfl rfl rfl⟩ rfl rfl hl.1 rfl (lv_room (Nat.le_of_ble_eq_true rfl)) dX5_isClash_3 ⟨Nat.le_of_ble_eq_true rfl, Nat.le_of_ble_eq_true rfl⟩) hP hD hK hS hA [0] [] rfl rfl (by decide) (by decide) (fun r1 u H locs w2 hK hP hD hS => ?_)
  have hK : va_K (dC, dI) cls [] s := hK
  have hP : va_P (dC, dI) cls [(ma, .inr (5, gm))] H := hP
  have hD : va_D A [(ma, .inr (5, gm))] := hD
  obtain rfl : r1 = 0 := w2
  refine lv_aload_n hx hb dX5_isClash_6 rfl (lv_at hl 0 rfl) ?_
  refine lv_iload_n hx hb dX5_isClash_7 rfl (lv_at hl 1 rfl) ?_
  refine lv_iconst (v := 1) hx hb dX5_isClash_8 (by decide) ?_
  refine ca_i (wr := []) (va_runV (As := [.int 2, .int 1]) (rest := [.int 0]) ⟨hx, hb, hml, hown, ht⟩ (m5_endsOf_21 l dC dI H.size ma gm L_gm K0_gm ) (cwV 2 ht (gdV k_8_197 k_8_194 k_8_196 ks_98 k_1_15) rfl rfl rfl (by decide +kernel) ⟨Nat.le_of_ble_eq_true rfl, Nat.le_of_ble_eq_true rfl⟩) ⟨pcw_blind, va_recv hK hP (ci := 5) (q0 := 0) rfl rfl, pcw_at hP hD hK [0] [] (by decide) rfl rfl rfl⟩ rfl rfl hl.1 rfl (lv_room (Nat.le_of_ble_eq_true rfl)) dX5_isClash_9 ⟨Nat.le_of_ble_eq_true rfl, Nat.le_of_ble_eq_true rfl⟩) hP hD hK hS hA [0] [] rfl rfl (by decide) (by decide) (fun r3 u H locs w4 hK hP hD hS => ?_)
  have hK : va_K (dC, dI) cls [] s := hK
  have hP : va_P (dC, dI) cls [(ma, .inr (5, gm))] H := hP
  have hD : va_D A [(ma, .inr (5, gm))] := hD
  obtain rfl : r3 = 0 := w4
  refine lv_iand hx hb dX5_isClash_12 ?_
  refine tk_i (y := 0) (by decide) ?_
  refine lv_if_eq (tgt := 20) hx hb dX5_isClash_13 (by decide) (fun _ => ?_) (fun c0 => absurd c0 (by decide))
  refine lv_iconst (v := 0) hx hb dX5_isClash_20 (by decide) ?_
  exact W.zret (v := 0) hx hb hr rfl (fun t ht9 hW => ⟨⟨0, (), rfl, rfl, by rw [ht9]; exact hP.sub [0] rfl, va_K.moved hW.alike (hK.sub [] rfl), hD.sub [0] (by decide) rfl⟩, hS.F ht9⟩) hS.2.2 dX5_isClash_21
set_option maxHeartbeats 4000000 in
set_option maxRecDepth 100000 in
theorem m5_advance_0 (l : Launch) (dC : Nat → ClassId) (dI : Nat → Nat → Nat) (sz : Nat) (ma : Nat) (gm : List Value) (L_gm : gm.length = 15) (K0_gm : gm[0]? = some (.int 0)) : Met l yX5_advance (Cond.code yX5_advance cX5_advance 7 none :: tb) ({ frames := 0, cells := 0, slots := 0, locals := 0 }) (pcw [.ref ma, .int 0] (dC, dI) [(ma, .inr (5, gm))] [] sz) (va_Qv (fun (_ : Unit) => True) (bw (dC, dI) (va_A [(ma, .inr (5, gm))] sz) (fun (_ : Unit) => [(ma, .inr (5, gm))]) (fun (_ : Unit) => [])) (va_A [(ma, .inr (5, gm))] sz)) 0 0 (va_A [(ma, .inr (5, gm))] sz) := by
  refine Met.ofW (cc := cX5_advance) (maxL := 7) (ret := none) (by decide) rfl ?_
  intro p e s m args below meth c s₁ B hml hv
  obtain ⟨rfl, hsz, hP, hK, hD0⟩ := hv
  have hx := B.exec
  have hb := B.bytes
  have hr := B.returns
  have hts := atoms_spec (ws := Cond.code yX5_advance cX5_advance 7 none :: tb) B.pre
  have ht : ∀ w ∈ tb, w.before _ s = true := fun w h => hts w (List.mem_cons_of_mem _ h)
  have hown : s.vm.findClass RX5 = some m.cls := findClass_of_methodNamed B.named
  have hlocks := B.notSynchronized
  subst hsz
  have hD := hD0.self (sz := s.heap.size)
  generalize hAe : va_A [(ma, .inr (5, gm))] s.heap.size = A at hD ⊢
  have hA : ∀ q : Nat, s.heap.size ≤ q → A q := fun q h => by rw [← hAe]; exact Or.inr h
  have hS : va_S A s.heap s.heap [] := va_S.rf
  have hl := lv_entry ([.ref ma, .int 0]) (n := 7) (Nat.le_of_ble_eq_true rfl)
  rw [lg_entry_eq]
  generalize (lg_sl ([.ref ma, .int 0]) ++ List.replicate (7 - (lg_sl ([.ref ma, .int 0])).length) Slot.unset).toArray = ls at hl ⊢
  have hl : lv_has ls 7 [(0, .ref ma), (1, .int 0)] := hl
  have hP : va_P (dC, dI) cls [(ma, .inr (5, gm))] s.heap := hP
  refine lv_iload_n hx hb dX5_advance_0 rfl (lv_at hl 1 rfl) ?_
  refine lv_bipush (v := 20) hx hb dX5_advance_1 (by decide) ?_
  refine lv_imul hx hb dX5_advance_3 ?_
  refine tk_i (y := 0) (by decide) ?_
  refine lv_istore_n (lv' := [(2, .int 0), (0, .ref ma), (1, .int 0)]) hx hb dX5_advance_4 rfl hl (by decide) rfl (fun ls hl => ?_)
  refine lv_iload_n hx hb dX5_advance_5 rfl (lv_at hl 0 rfl) ?_
  refine lv_bipush (v := 20) hx hb dX5_advance_6 (by decide) ?_
  refine lv_iadd hx hb dX5_advance_8 ?_
  refine tk_i (y := 20) (by decide) ?_
  refine lv_istore_n (lv' := [(3, .int 20), (2, .int 0), (0, .ref ma), (1, .int 0)]) hx hb dX5_advance_9 rfl hl (by decide) rfl (fun ls hl => ?_)
  refine lv_iconst (v := 0) hx hb dX5_advance_10 (by decide) ?_
  refine lv_istore (lv' := [(4, .int 0), (3, .int 20), (2, .int 0), (0, .ref ma), (1, .int 0)]) hx hb dX5_advance_11 hl (by decide) rfl (fun ls hl => ?_)
  refine lv_iload hx hb dX5_advance_13 (lv_at hl 0 rfl) ?_
  refine lv_aload_n hx hb dX5_advance_15 rfl (lv_at hl 3 rfl) ?_
  refine va_get (D := (dC, dI)) (ci := 5) (v := .int 0) (C := RX5) (T := TX5) (N := 15) hx hb ht uX5 hown hK hP 0 rfl rfl 0 (by decide) (ht _ k_4_7) (fun _ h9 => h9) K0_gm dX5_advance_16 ?_
  refine lv_icmp_ge (tgt := 135) hx hb dX5_advance_19 (by decide) (fun _ => ?_) (fun c0 => absurd c0 (by decide))
  exact W.vret hx hb hr (fun t ht9 hW => ⟨⟨(), rfl, trivial, by rw [ht9]; exact hP.sub [0] rfl, va_K.moved hW.alike (hK.sub [] rfl), hD.sub [0] (by decide) rfl⟩, hS.F ht9⟩) hS.2.2 dX5_advance_135
set_option maxHeartbeats 4000000 in
set_option maxRecDepth 100000 in
theorem m5_advance_1 (l : Launch) (dC : Nat → ClassId) (dI : Nat → Nat → Nat) (sz : Nat) (ma : Nat) (gm : List Value) (L_gm : gm.length = 15) (K0_gm : gm[0]? = some (.int 0)) : Met l yX5_advance (Cond.code yX5_advance cX5_advance 7 none :: tb) ({ frames := 0, cells := 0, slots := 0, locals := 0 }) (pcw [.ref ma, .int 1] (dC, dI) [(ma, .inr (5, gm))] [] sz) (va_Qv (fun (_ : Unit) => True) (bw (dC, dI) (va_A [(ma, .inr (5, gm))] sz) (fun (_ : Unit) => [(ma, .inr (5, gm))]) (fun (_ : Unit) => [])) (va_A [(ma, .inr (5, gm))] sz)) 0 0 (va_A [(ma, .inr (5, gm))] sz) := by
  refine Met.ofW (cc := cX5_advance) (maxL := 7) (ret := none) (by decide) rfl ?_
  intro p e s m args below meth c s₁ B hml hv
  obtain ⟨rfl, hsz, hP, hK, hD0⟩ := hv
  have hx := B.exec
  have hb := B.bytes
  have hr := B.returns
  have hts := atoms_spec (ws := Cond.code yX5_advance cX5_advance 7 none :: tb) B.pre
  have ht : ∀ w ∈ tb, w.before _ s = true := fun w h => hts w (List.mem_cons_of_mem _ h)
  have hown : s.vm.findClass RX5 = some m.cls := findClass_of_methodNamed B.named
  have hlocks := B.notSynchronized
  subst hsz
  have hD := hD0.self (sz := s.heap.size)
  generalize hAe : va_A [(ma, .inr (5, gm))] s.heap.size = A at hD ⊢
  have hA : ∀ q : Nat, s.heap.size ≤ q → A q := fun q h => by rw [← hAe]; exact Or.inr h
  have hS : va_S A s.heap s.heap [] := va_S.rf
  have hl := lv_entry ([.ref ma, .int 1]) (n := 7) (Nat.le_of_ble_eq_true rfl)
  rw [lg_entry_eq]
  generalize (lg_sl ([.ref ma, .int 1]) ++ List.replicate (7 - (lg_sl ([.ref ma, .int 1])).length) Slot.unset).toArray = ls at hl ⊢
  have hl : lv_has ls 7 [(0, .ref ma), (1, .int 1)] := hl
  have hP : va_P (dC, dI) cls [(ma, .inr (5, gm))] s.heap := hP
  refine lv_iload_n hx hb dX5_advance_0 rfl (lv_at hl 1 rfl) ?_
  refine lv_bipush (v := 20) hx hb dX5_advance_1 (by decide) ?_
  refine lv_imul hx hb dX5_advance_3 ?_
  refine tk_i (y := 20) (by decide) ?_
  refine lv_istore_n (lv' := [(2, .int 20), (0, .ref ma), (1, .int 1)]) hx hb dX5_advance_4 rfl hl (by decide) rfl (fun ls hl => ?_)
  refine lv_iload_n hx hb dX5_advance_5 rfl (lv_at hl 0 rfl) ?_
  refine lv_bipush (v := 20) hx hb dX5_advance_6 (by decide) ?_
  refine lv_iadd hx hb dX5_advance_8 ?_
  refine tk_i (y := 40) (by decide) ?_
  refine lv_istore_n (lv' := [(3, .int 40), (2, .int 20), (0, .ref ma), (1, .int 1)]) hx hb dX5_advance_9 rfl hl (by decide) rfl (fun ls hl => ?_)
  refine lv_iconst (v := 0) hx hb dX5_advance_10 (by decide) ?_
  refine lv_istore (lv' := [(4, .int 0), (3, .int 40), (2, .int 20), (0, .ref ma), (1, .int 1)]) hx hb dX5_advance_11 hl (by decide) rfl (fun ls hl => ?_)
  refine lv_iload hx hb dX5_advance_13 (lv_at hl 0 rfl) ?_
  refine lv_aload_n hx hb dX5_advance_15 rfl (lv_at hl 3 rfl) ?_
  refine va_get (D := (dC, dI)) (ci := 5) (v := .int 0) (C := RX5) (T := TX5) (N := 15) hx hb ht uX5 hown hK hP 0 rfl rfl 0 (by decide) (ht _ k_4_7) (fun _ h9 => h9) K0_gm dX5_advance_16 ?_
  refine lv_icmp_ge (tgt := 135) hx hb dX5_advance_19 (by decide) (fun _ => ?_) (fun c0 => absurd c0 (by decide))
  exact W.vret hx hb hr (fun t ht9 hW => ⟨⟨(), rfl, trivial, by rw [ht9]; exact hP.sub [0] rfl, va_K.moved hW.alike (hK.sub [] rfl), hD.sub [0] (by decide) rfl⟩, hS.F ht9⟩) hS.2.2 dX5_advance_135
set_option maxHeartbeats 4000000 in
set_option maxRecDepth 100000 in
theorem m5_setMoves_2 (l : Launch) (dC : Nat → ClassId) (dI : Nat → Nat → Nat) (sz : Nat) (ma : Nat) (gm : List Value) (tr : Nat) (cR : ClassId) (fr : Nat → Int32) (L_gm : gm.length = 15) (K0_gm : gm[0]? = some (.int 0)) (K9_gm : gm[9]? = some (.ref tr)) : Met l yX5_setMoves (Cond.code yX5_setMoves cX5_setMoves 5 (some .boolean) :: tb) ({ frames := 0, cells := 0, slots := 0, locals := 0 }) (pcw [.ref ma, .int 1, .int 2, .int 0] (dC, dI) [(ma, .inr (5, gm)), (tr, .inl (cR, 10, .inl fr))] [(cR, .int)] sz) (va_Qi (fun (r : Int32) => (fun (fr1 : Nat → Int32) => r = 1)) (bw (dC, dI) (va_A [(ma, .inr (5, gm)), (tr, .inl (cR, 10, .inl fr))] sz) (fun (fr1 : Nat → Int32) => [(ma, .inr (5, gm)), (tr, .inl (cR, 10, .inl fr1))]) (fun (fr1 : Nat → Int32) => [(cR, .int)])) (va_A [(ma, .inr (5, gm)), (tr, .inl (cR, 10, .inl fr))] sz)) 0 0 (va_A [(ma, .inr (5, gm)), (tr, .inl (cR, 10, .inl fr))] sz) := by
  refine Met.ofW (cc := cX5_setMoves) (maxL := 5) (ret := (some .boolean)) (by decide) rfl ?_
  intro p e s m args below meth c s₁ B hml hv
  obtain ⟨rfl, hsz, hP, hK, hD0⟩ := hv
  have hx := B.exec
  have hb := B.bytes
  have hr := B.returns
  have hts := atoms_spec (ws := Cond.code yX5_setMoves cX5_setMoves 5 (some .boolean) :: tb) B.pre
  have ht : ∀ w ∈ tb, w.before _ s = true := fun w h => hts w (List.mem_cons_of_mem _ h)
  have hown : s.vm.findClass RX5 = some m.cls := findClass_of_methodNamed B.named
  have hlocks := B.notSynchronized
  subst hsz
  have hD := hD0.self (sz := s.heap.size)
  generalize hAe : va_A [(ma, .inr (5, gm)), (tr, .inl (cR, 10, .inl fr))] s.heap.size = A at hD ⊢
  have hA : ∀ q : Nat, s.heap.size ≤ q → A q := fun q h => by rw [← hAe]; exact Or.inr h
  have hS : va_S A s.heap s.heap [] := va_S.rf
  have hl := lv_entry ([.ref ma, .int 1, .int 2, .int 0]) (n := 5) (Nat.le_of_ble_eq_true rfl)
  rw [lg_entry_eq]
  generalize (lg_sl ([.ref ma, .int 1, .int 2, .int 0]) ++ List.replicate (5 - (lg_sl ([.ref ma, .int 1, .int 2, .int 0])).length) Slot.unset).toArray = ls at hl ⊢
  have hl : lv_has ls 5 [(0, .ref ma), (1, .int 1), (2, .int 2), (3, .int 0)] := hl
  have hP : va_P (dC, dI) cls [(ma, .inr (5, gm)), (tr, .inl (cR, 10, .inl fr))] s.heap := hP
  refine lv_iload_n hx hb dX5_setMoves_0 rfl (lv_at hl 2 rfl) ?_
  refine lv_iconst (v := 2) hx hb dX5_setMoves_1 (by decide) ?_
  refine lv_iload_n hx hb dX5_setMoves_2 rfl (lv_at hl 1 rfl) ?_
  refine lv_imul hx hb dX5_setMoves_3 ?_
  refine tk_i (y := 2) (by decide) ?_
  refine lv_icmp_lt (tgt := 20) hx hb dX5_setMoves_4 (by decide) (fun c0 => absurd c0 (by decide)) (fun _ => ?_)
  refine lv_iload_n hx hb dX5_setMoves_7 rfl (lv_at hl 3 rfl) ?_
  refine lv_iload_n hx hb dX5_setMoves_8 rfl (lv_at hl 1 rfl) ?_
  refine lv_iconst (v := 1) hx hb dX5_setMoves_9 (by decide) ?_
  refine lv_isub hx hb dX5_setMoves_10 ?_
  refine tk_i (y := 0) (by decide) ?_
  refine lv_icmp_ne (tgt := 18) hx hb dX5_setMoves_11 (by decide) (fun c0 => absurd c0 (by decide)) (fun _ => ?_)
  refine lv_iconst (v := 1) hx hb dX5_setMoves_14 (by decide) ?_
  refine lv_goto (tgt := 19) hx hb dX5_setMoves_15 (by decide) ?_
  exact W.zret (v := 1) hx hb hr rfl (fun t ht9 hW => ⟨⟨1, (fr), rfl, rfl, by rw [ht9]; exact hP.sub [0, 1] rfl, va_K.moved hW.alike (hK.sub [0] rfl), hD.sub [0, 1] (by decide) rfl⟩, hS.F ht9⟩) hS.2.2 dX5_setMoves_19
set_option maxHeartbeats 4000000 in
set_option maxRecDepth 100000 in
theorem m5_setMoves_1 (l : Launch) (dC : Nat → ClassId) (dI : Nat → Nat → Nat) (sz : Nat) (ma : Nat) (gm : List Value) (tr : Nat) (cR : ClassId) (fr : Nat → Int32) (L_gm : gm.length = 15) (K0_gm : gm[0]? = some (.int 0)) (K9_gm : gm[9]? = some (.ref tr)) : Met l yX5_setMoves (Cond.code yX5_setMoves cX5_setMoves 5 (some .boolean) :: tb) ({ frames := 2, cells := 0, slots := 0, locals := 45 }) (pcw [.ref ma, .int 1, .int 1, .int 0] (dC, dI) [(ma, .inr (5, gm)), (tr, .inl (cR, 10, .inl fr))] [(cR, .int)] sz) (va_Qi (fun (r : Int32) => (fun (fr1 : Nat → Int32) => r = 1)) (bw (dC, dI) (va_A [(ma, .inr (5, gm)), (tr, .inl (cR, 10, .inl fr))] sz) (fun (fr1 : Nat → Int32) => [(ma, .inr (5, gm)), (tr, .inl (cR, 10, .inl fr1))]) (fun (fr1 : Nat → Int32) => [(cR, .int)])) (va_A [(ma, .inr (5, gm)), (tr, .inl (cR, 10, .inl fr))] sz)) 0 0 (va_A [(ma, .inr (5, gm)), (tr, .inl (cR, 10, .inl fr))] sz) := by
  refine Met.ofW (cc := cX5_setMoves) (maxL := 5) (ret := (some .boolean)) (by decide) rfl ?_
  intro p e s m args below meth c s₁ B hml hv
  obtain ⟨rfl, hsz, hP, hK, hD0⟩ := hv
  have hx := B.exec
  have hb := B.bytes
  have hr := B.returns
  have hts := atoms_spec (ws := Cond.code yX5_setMoves cX5_setMoves 5 (some .boolean) :: tb) B.pre
  have ht : ∀ w ∈ tb, w.before _ s = true := fun w h => hts w (List.mem_cons_of_mem _ h)
  have hown : s.vm.findClass RX5 = some m.cls := findClass_of_methodNamed B.named
  have hlocks := B.notSynchronized
  subst hsz
  have hD := hD0.self (sz := s.heap.size)
  generalize hAe : va_A [(ma, .inr (5, gm)), (tr, .inl (cR, 10, .inl fr))] s.heap.size = A at hD ⊢
  have hA : ∀ q : Nat, s.heap.size ≤ q → A q := fun q h => by rw [← hAe]; exact Or.inr h
  have hS : va_S A s.heap s.heap [] := va_S.rf
  have hl := lv_entry ([.ref ma, .int 1, .int 1, .int 0]) (n := 5) (Nat.le_of_ble_eq_true rfl)
  rw [lg_entry_eq]
  generalize (lg_sl ([.ref ma, .int 1, .int 1, .int 0]) ++ List.replicate (5 - (lg_sl ([.ref ma, .int 1, .int 1, .int 0])).length) Slot.unset).toArray = ls at hl ⊢
  have hl : lv_has ls 5 [(0, .ref ma), (1, .int 1), (2, .int 1), (3, .int 0)] := hl
  have hP : va_P (dC, dI) cls [(ma, .inr (5, gm)), (tr, .inl (cR, 10, .inl fr))] s.heap := hP
  refine lv_iload_n hx hb dX5_setMoves_0 rfl (lv_at hl 2 rfl) ?_
  refine lv_iconst (v := 2) hx hb dX5_setMoves_1 (by decide) ?_
  refine lv_iload_n hx hb dX5_setMoves_2 rfl (lv_at hl 1 rfl) ?_
  refine lv_imul hx hb dX5_setMoves_3 ?_
  refine tk_i (y := 2) (by decide) ?_
  refine lv_icmp_lt (tgt := 20) hx hb dX5_setMoves_4 (by decide) (fun _ => ?_) (fun c0 => absurd c0 (by decide))
  refine lv_iload_n hx hb dX5_setMoves_20 rfl (lv_at hl 2 rfl) ?_
  refine lv_iconst (v := 2) hx hb dX5_setMoves_21 (by decide) ?_
  refine lv_idiv hx hb dX5_setMoves_22 (by decide) ?_
  refine tk_i (y := 0) (by decide) ?_
  refine lv_iload_n hx hb dX5_setMoves_23 rfl (lv_at hl 3 rfl) ?_
  refine lv_icmp_gt (tgt := 40) hx hb dX5_setMoves_24 (by decide) (fun c0 => absurd c0 (by decide)) (fun _ => ?_)
  refine lv_iload_n hx hb dX5_setMoves_27 rfl (lv_at hl 3 rfl) ?_
  refine lv_iconst (v := 2) hx hb dX5_setMoves_28 (by decide) ?_
  refine lv_iload_n hx hb dX5_setMoves_29 rfl (lv_at hl 1 rfl) ?_
  refine lv_imul hx hb dX5_setMoves_30 ?_
  refine tk_i (y := 2) (by decide) ?_
  refine lv_iadd hx hb dX5_setMoves_31 ?_
  refine tk_i (y := 2) (by decide) ?_
  refine lv_iload_n hx hb dX5_setMoves_32 rfl (lv_at hl 2 rfl) ?_
  refine lv_isub hx hb dX5_setMoves_33 ?_
  refine tk_i (y := 1) (by decide) ?_
  refine lv_iload_n hx hb dX5_setMoves_34 rfl (lv_at hl 1 rfl) ?_
  refine lv_iconst (v := 1) hx hb dX5_setMoves_35 (by decide) ?_
  refine lv_isub hx hb dX5_setMoves_36 ?_
  refine tk_i (y := 0) (by decide) ?_
  refine lv_icmp_ge (tgt := 42) hx hb dX5_setMoves_37 (by decide) (fun _ => ?_) (fun c0 => absurd c0 (by decide))
  refine lv_iconst (v := 0) hx hb dX5_setMoves_42 (by decide) ?_
  refine lv_istore (lv' := [(4, .int 0), (0, .ref ma), (1, .int 1), (2, .int 1), (3, .int 0)]) hx hb dX5_setMoves_43 hl (by decide) rfl (fun ls hl => ?_)
  refine lv_iload hx hb dX5_setMoves_45 (lv_at hl 0 rfl) ?_
  refine lv_iload_n hx hb dX5_setMoves_47 rfl (lv_at hl 4 rfl) ?_
  refine lv_iconst (v := 1) hx hb dX5_setMoves_48 (by decide) ?_
  refine lv_iadd hx hb dX5_setMoves_49 ?_
  refine tk_i (y := 1) (by decide) ?_
  refine lv_icmp_gt (tgt := 107) hx hb dX5_setMoves_50 (by decide) (fun c0 => absurd c0 (by decide)) (fun _ => ?_)
  refine lv_iload hx hb dX5_setMoves_53 (lv_at hl 0 rfl) ?_
  refine lv_iload_n hx hb dX5_setMoves_55 rfl (lv_at hl 2 rfl) ?_
  refine lv_icmp_ge (tgt := 107) hx hb dX5_setMoves_56 (by decide) (fun c0 => absurd c0 (by decide)) (fun _ => ?_)
  refine lv_aload_n hx hb dX5_setMoves_59 rfl (lv_at hl 1 rfl) ?_
  refine va_get (D := (dC, dI)) (ci := 5) (v := .ref tr) (C := RX5) (T := TX5) (N := 15) hx hb ht uX5 hown hK hP 0 rfl rfl 9 (by decide) (ht _ k_4_17) (fun _ h9 => h9) K9_gm dX5_setMoves_60 ?_
  refine lv_iload_n hx hb dX5_setMoves_63 rfl (lv_at hl 3 rfl) ?_
  refine lv_iload hx hb dX5_setMoves_64 (lv_at hl 0 rfl) ?_
  refine va_iast (i := 1) (x := 0) hx hb hK hP hD hS 1 0 rfl rfl (by unfold vp_in; decide) dX5_setMoves_66 (fun H locs hP hD hS => ?_)
  obtain ⟨f1, ef1⟩ : ∃ g : Nat → Int32, g = upd fr (1 : Int32).toNatClampNeg 0 := ⟨_, rfl⟩
  rw [← ef1] at hP hD
  have hP : va_P (dC, dI) cls [(ma, .inr (5, gm)), (tr, .inl (cR, 10, .inl f1))] H := hP
  have hD : va_D A [(ma, .inr (5, gm)), (tr, .inl (cR, 10, .inl f1))] := hD
  refine lv_aload_n hx hb dX5_setMoves_67 rfl (lv_at hl 1 rfl) ?_
  refine lv_iload_n hx hb dX5_setMoves_68 rfl (lv_at hl 3 rfl) ?_
  refine ca_v (wr := [(tr, .inl (cR, 10, .inl f1))]) (va_runV (As := [.int 1]) (rest := []) ⟨hx, hb, hml, hown, ht⟩ (m5_advance_1 l dC dI H.size ma gm L_gm K0_gm ) (cwV 1 ht (gdV k_8_205 k_8_202 k_8_204 ks_100 k_1_15) rfl rfl rfl (by decide +kernel) ⟨Nat.le_of_ble_eq_true rfl, Nat.le_of_ble_eq_true rfl⟩) ⟨pcw_blind, va_recv hK hP (ci := 5) (q0 := 0) rfl rfl, pcw_at hP hD hK [0] [] (by decide) rfl rfl rfl⟩ rfl rfl hl.1 rfl (lv_room (Nat.le_of_ble_eq_true rfl)) dX5_setMoves_69 ⟨Nat.le_of_ble_eq_true rfl, Nat.le_of_ble_eq_true rfl⟩) hP hD hK hS hA [0] [1] rfl rfl (by decide) (by decide) (fun u H locs w3 hK hP hD hS => ?_)
  have hK : va_K (dC, dI) cls [(cR, .int)] s := hK
  have hP : va_P (dC, dI) cls [(tr, .inl (cR, 10, .inl f1)), (ma, .inr (5, gm))] H := hP
  have hD : va_D A [(tr, .inl (cR, 10, .inl f1)), (ma, .inr (5, gm))] := hD
  refine lv_aload_n hx hb dX5_setMoves_72 rfl (lv_at hl 1 rfl) ?_
  refine lv_iload_n hx hb dX5_setMoves_73 rfl (lv_at hl 3 rfl) ?_
  refine lv_iconst (v := 1) hx hb dX5_setMoves_74 (by decide) ?_
  refine lv_iadd hx hb dX5_setMoves_75 ?_
  refine tk_i (y := 2) (by decide) ?_
  refine ca_i (wr := [(tr, .inl (cR, 10, .inl f1))]) (va_runV (As := [.int 2]) (rest := []) ⟨hx, hb, hml, hown, ht⟩ (m5_isClash_2 l dC dI H.size ma gm L_gm K0_gm ) (cwV 1 ht (gdV k_8_193 k_8_190 k_8_192 ks_97 k_1_15) rfl rfl rfl (by decide +kernel) ⟨Nat.le_of_ble_eq_true rfl, Nat.le_of_ble_eq_true rfl⟩) ⟨pcw_blind, va_recv hK hP (ci := 5) (q0 := 1) rfl rfl, pcw_at hP hD hK [1] [] (by decide) rfl rfl rfl⟩ rfl rfl hl.1 rfl (lv_room (Nat.le_of_ble_eq_true rfl)) dX5_setMoves_76 ⟨Nat.le_of_ble_eq_true rfl, Nat.le_of_ble_eq_true rfl⟩) hP hD hK hS hA [1] [0] rfl rfl (by decide) (by decide) (fun r4 u H locs w5 hK hP hD hS => ?_)
  have hK : va_K (dC, dI) cls [(cR, .int)] s := hK
  have hP : va_P (dC, dI) cls [(tr, .inl (cR, 10, .inl f1)), (ma, .inr (5, gm))] H := hP
  have hD : va_D A [(tr, .inl (cR, 10, .inl f1)), (ma, .inr (5, gm))] := hD
  obtain rfl : r4 = 0 := w5
  refine lv_if_ne (tgt := 101) hx hb dX5_setMoves_79 (by decide) (fun c0 => absurd c0 (by decide)) (fun _ => ?_)
  refine lv_aload_n hx hb dX5_setMoves_82 rfl (lv_at hl 1 rfl) ?_
  refine lv_iload_n hx hb dX5_setMoves_83 rfl (lv_at hl 2 rfl) ?_
  refine lv_iload_n hx hb dX5_setMoves_84 rfl (lv_at hl 3 rfl) ?_
  refine lv_iconst (v := 1) hx hb dX5_setMoves_85 (by decide) ?_
  refine lv_iadd hx hb dX5_setMoves_86 ?_
  refine tk_i (y := 2) (by decide) ?_
  refine lv_iload_n hx hb dX5_setMoves_87 rfl (lv_at hl 4 rfl) ?_
  refine lv_iload hx hb dX5_setMoves_88 (lv_at hl 0 rfl) ?_
  refine va_mmax hx hb (hml.trans hl.1.symm) hown (ht _ k_8_206) (ht _ k_8_207) (ht _ k_1_27) (ht _ k_mmax) (Nat.le_of_ble_eq_true rfl) (Nat.le_of_ble_eq_true rfl) (Nat.le_of_ble_eq_true rfl) (Nat.le_of_ble_eq_true rfl) dX5_setMoves_90 ?_
  refine tk_i (y := 0) (by decide) ?_
  refine ca_i (wr := []) (va_runV (As := [.int 1, .int 2, .int 0]) (rest := []) ⟨hx, hb, hml, hown, ht⟩ (m5_setMoves_2 l dC dI H.size ma gm tr cR f1 L_gm K0_gm K9_gm ) (cwV 3 ht (gdV k_8_201 k_8_198 k_8_200 ks_99 k_1_15) rfl rfl rfl (by decide +kernel) ⟨Nat.le_of_ble_eq_true rfl, Nat.le_of_ble_eq_true rfl⟩) ⟨pcw_blind, va_recv hK hP (ci := 5) (q0 := 1) rfl rfl, pcw_at hP hD hK [1, 0] [0] (by decide) rfl rfl rfl⟩ rfl rfl hl.1 rfl (lv_room (Nat.le_of_ble_eq_true rfl)) dX5_setMoves_93 ⟨Nat.le_of_ble_eq_true rfl, Nat.le_of_ble_eq_true rfl⟩) hP hD hK hS hA [1, 0] [] rfl rfl (by decide) (by decide) (fun r6 u H locs w7 hK hP hD hS => ?_)
  obtain ⟨y8, rfl⟩ : ∃ z, z = u := ⟨_, rfl⟩
  have hK : va_K (dC, dI) cls [(cR, .int), (cR, .int)] s := hK
  have hP : va_P (dC, dI) cls [(ma, .inr (5, gm)), (tr, .inl (cR, 10, .inl y8))] H := hP
  have hD : va_D A [(ma, .inr (5, gm)), (tr, .inl (cR, 10, .inl y8))] := hD
  obtain rfl : r6 = 1 := w7
  refine lv_if_eq (tgt := 101) hx hb dX5_setMoves_96 (by decide) (fun c0 => absurd c0 (by decide)) (fun _ => ?_)
  refine lv_iconst (v := 1) hx hb dX5_setMoves_99 (by decide) ?_
  exact W.zret (v := 1) hx hb hr rfl (fun t ht9 hW => ⟨⟨1, (y8), rfl, rfl, by rw [ht9]; exact hP.sub [0, 1] rfl, va_K.moved hW.alike (hK.sub [0] rfl), hD.sub [0, 1] (by decide) rfl⟩, hS.F ht9⟩) hS.2.2 dX5_setMoves_100
set_option maxHeartbeats 4000000 in
set_option maxRecDepth 100000 in
theorem m5_setMoves_0 (l : Launch) (dC : Nat → ClassId) (dI : Nat → Nat → Nat) (sz : Nat) (ma : Nat) (gm : List Value) (tr : Nat) (cR : ClassId) (fr : Nat → Int32) (L_gm : gm.length = 15) (K0_gm : gm[0]? = some (.int 0)) (K9_gm : gm[9]? = some (.ref tr)) : Met l yX5_setMoves (Cond.code yX5_setMoves cX5_setMoves 5 (some .boolean) :: tb) ({ frames := 3, cells := 0, slots := 0, locals := 69 }) (pcw [.ref ma, .int 1, .int 0, .int 0] (dC, dI) [(ma, .inr (5, gm)), (tr, .inl (cR, 10, .inl fr))] [(cR, .int)] sz) (va_Qi (fun (r : Int32) => (fun (fr1 : Nat → Int32) => r = 1)) (bw (dC, dI) (va_A [(ma, .inr (5, gm)), (tr, .inl (cR, 10, .inl fr))] sz) (fun (fr1 : Nat → Int32) => [(ma, .inr (5, gm)), (tr, .inl (cR, 10, .inl fr1))]) (fun (fr1 : Nat → Int32) => [(cR, .int)])) (va_A [(ma, .inr (5, gm)), (tr, .inl (cR, 10, .inl fr))] sz)) 0 0 (va_A [(ma, .inr (5, gm)), (tr, .inl (cR, 10, .inl fr))] sz) := by
  refine Met.ofW (cc := cX5_setMoves) (maxL := 5) (ret := (some .boolean)) (by decide) rfl ?_
  intro p e s m args below meth c s₁ B hml hv
  obtain ⟨rfl, hsz, hP, hK, hD0⟩ := hv
  have hx := B.exec
  have hb := B.bytes
  have hr := B.returns
  have hts := atoms_spec (ws := Cond.code yX5_setMoves cX5_setMoves 5 (some .boolean) :: tb) B.pre
  have ht : ∀ w ∈ tb, w.before _ s = true := fun w h => hts w (List.mem_cons_of_mem _ h)
  have hown : s.vm.findClass RX5 = some m.cls := findClass_of_methodNamed B.named
  have hlocks := B.notSynchronized
  subst hsz
  have hD := hD0.self (sz := s.heap.size)
  generalize hAe : va_A [(ma, .inr (5, gm)), (tr, .inl (cR, 10, .inl fr))] s.heap.size = A at hD ⊢
  have hA : ∀ q : Nat, s.heap.size ≤ q → A q := fun q h => by rw [← hAe]; exact Or.inr h
  have hS : va_S A s.heap s.heap [] := va_S.rf
  have hl := lv_entry ([.ref ma, .int 1, .int 0, .int 0]) (n := 5) (Nat.le_of_ble_eq_true rfl)
  rw [lg_entry_eq]
  generalize (lg_sl ([.ref ma, .int 1, .int 0, .int 0]) ++ List.replicate (5 - (lg_sl ([.ref ma, .int 1, .int 0, .int 0])).length) Slot.unset).toArray = ls at hl ⊢
  have hl : lv_has ls 5 [(0, .ref ma), (1, .int 1), (2, .int 0), (3, .int 0)] := hl
  have hP : va_P (dC, dI) cls [(ma, .inr (5, gm)), (tr, .inl (cR, 10, .inl fr))] s.heap := hP
  refine lv_iload_n hx hb dX5_setMoves_0 rfl (lv_at hl 2 rfl) ?_
  refine lv_iconst (v := 2) hx hb dX5_setMoves_1 (by decide) ?_
  refine lv_iload_n hx hb dX5_setMoves_2 rfl (lv_at hl 1 rfl) ?_
  refine lv_imul hx hb dX5_setMoves_3 ?_
  refine tk_i (y := 2) (by decide) ?_
  refine lv_icmp_lt (tgt := 20) hx hb dX5_setMoves_4 (by decide) (fun _ => ?_) (fun c0 => absurd c0 (by decide))
  refine lv_iload_n hx hb dX5_setMoves_20 rfl (lv_at hl 2 rfl) ?_
  refine lv_iconst (v := 2) hx hb dX5_setMoves_21 (by decide) ?_
  refine lv_idiv hx hb dX5_setMoves_22 (by decide) ?_
  refine tk_i (y := 0) (by decide) ?_
  refine lv_iload_n hx hb dX5_setMoves_23 rfl (lv_at hl 3 rfl) ?_
  refine lv_icmp_gt (tgt := 40) hx hb dX5_setMoves_24 (by decide) (fun c0 => absurd c0 (by decide)) (fun _ => ?_)
  refine lv_iload_n hx hb dX5_setMoves_27 rfl (lv_at hl 3 rfl) ?_
  refine lv_iconst (v := 2) hx hb dX5_setMoves_28 (by decide) ?_
  refine lv_iload_n hx hb dX5_setMoves_29 rfl (lv_at hl 1 rfl) ?_
  refine lv_imul hx hb dX5_setMoves_30 ?_
  refine tk_i (y := 2) (by decide) ?_
  refine lv_iadd hx hb dX5_setMoves_31 ?_
  refine tk_i (y := 2) (by decide) ?_
  refine lv_iload_n hx hb dX5_setMoves_32 rfl (lv_at hl 2 rfl) ?_
  refine lv_isub hx hb dX5_setMoves_33 ?_
  refine tk_i (y := 2) (by decide) ?_
  refine lv_iload_n hx hb dX5_setMoves_34 rfl (lv_at hl 1 rfl) ?_
  refine lv_iconst (v := 1) hx hb dX5_setMoves_35 (by decide) ?_
  refine lv_isub hx hb dX5_setMoves_36 ?_
  refine tk_i (y := 0) (by decide) ?_
  refine lv_icmp_ge (tgt := 42) hx hb dX5_setMoves_37 (by decide) (fun _ => ?_) (fun c0 => absurd c0 (by decide))
  refine lv_iconst (v := 0) hx hb dX5_setMoves_42 (by decide) ?_
  refine lv_istore (lv' := [(4, .int 0), (0, .ref ma), (1, .int 1), (2, .int 0), (3, .int 0)]) hx hb dX5_setMoves_43 hl (by decide) rfl (fun ls hl => ?_)
  refine lv_iload hx hb dX5_setMoves_45 (lv_at hl 0 rfl) ?_
  refine lv_iload_n hx hb dX5_setMoves_47 rfl (lv_at hl 4 rfl) ?_
  refine lv_iconst (v := 1) hx hb dX5_setMoves_48 (by decide) ?_
  refine lv_iadd hx hb dX5_setMoves_49 ?_
  refine tk_i (y := 1) (by decide) ?_
  refine lv_icmp_gt (tgt := 107) hx hb dX5_setMoves_50 (by decide) (fun c0 => absurd c0 (by decide)) (fun _ => ?_)
  refine lv_iload hx hb dX5_setMoves_53 (lv_at hl 0 rfl) ?_
  refine lv_iload_n hx hb dX5_setMoves_55 rfl (lv_at hl 2 rfl) ?_
  refine lv_icmp_ge (tgt := 107) hx hb dX5_setMoves_56 (by decide) (fun c0 => absurd c0 (by decide)) (fun _ => ?_)
  refine lv_aload_n hx hb dX5_setMoves_59 rfl (lv_at hl 1 rfl) ?_
  refine va_get (D := (dC, dI)) (ci := 5) (v := .ref tr) (C := RX5) (T := TX5) (N := 15) hx hb ht uX5 hown hK hP 0 rfl rfl 9 (by decide) (ht _ k_4_17) (fun _ h9 => h9) K9_gm dX5_setMoves_60 ?_
  refine lv_iload_n hx hb dX5_setMoves_63 rfl (lv_at hl 3 rfl) ?_
  refine lv_iload hx hb dX5_setMoves_64 (lv_at hl 0 rfl) ?_
  refine va_iast (i := 0) (x := 0) hx hb hK hP hD hS 1 0 rfl rfl (by unfold vp_in; decide) dX5_setMoves_66 (fun H locs hP hD hS => ?_)
  obtain ⟨f1, ef1⟩ : ∃ g : Nat → Int32, g = upd fr (0 : Int32).toNatClampNeg 0 := ⟨_, rfl⟩
  rw [← ef1] at hP hD
  have hP : va_P (dC, dI) cls [(ma, .inr (5, gm)), (tr, .inl (cR, 10, .inl f1))] H := hP
  have hD : va_D A [(ma, .inr (5, gm)), (tr, .inl (cR, 10, .inl f1))] := hD
  refine lv_aload_n hx hb dX5_setMoves_67 rfl (lv_at hl 1 rfl) ?_
  refine lv_iload_n hx hb dX5_setMoves_68 rfl (lv_at hl 3 rfl) ?_
  refine ca_v (wr := [(tr, .inl (cR, 10, .inl f1))]) (va_runV (As := [.int 0]) (rest := []) ⟨hx, hb, hml, hown, ht⟩ (m5_advance_0 l dC dI H.size ma gm L_gm K0_gm ) (cwV 1 ht (gdV k_8_205 k_8_202 k_8_204 ks_100 k_1_15) rfl rfl rfl (by decide +kernel) ⟨Nat.le_of_ble_eq_true rfl, Nat.le_of_ble_eq_true rfl⟩) ⟨pcw_blind, va_recv hK hP (ci := 5) (q0 := 0) rfl rfl, pcw_at hP hD hK [0] [] (by decide) rfl rfl rfl⟩ rfl rfl hl.1 rfl (lv_room (Nat.le_of_ble_eq_true rfl)) dX5_setMoves_69 ⟨Nat.le_of_ble_eq_true rfl, Nat.le_of_ble_eq_true rfl⟩) hP hD hK hS hA [0] [1] rfl rfl (by decide) (by decide) (fun u H locs w3 hK hP hD hS => ?_)
  have hK : va_K (dC, dI) cls [(cR, .int)] s := hK
  have hP : va_P (dC, dI) cls [(tr, .inl (cR, 10, .inl f1)), (ma, .inr (5, gm))] H := hP
  have hD : va_D A [(tr, .inl (cR, 10, .inl f1)), (ma, .inr (5, gm))] := hD
  refine lv_aload_n hx hb dX5_setMoves_72 rfl (lv_at hl 1 rfl) ?_
  refine lv_iload_n hx hb dX5_setMoves_73 rfl (lv_at hl 3 rfl) ?_
  refine lv_iconst (v := 1) hx hb dX5_setMoves_74 (by decide) ?_
  refine lv_iadd hx hb dX5_setMoves_75 ?_
  refine tk_i (y := 1) (by decide) ?_
  refine ca_i (wr := [(tr, .inl (cR, 10, .inl f1))]) (va_runV (As := [.int 1]) (rest := []) ⟨hx, hb, hml, hown, ht⟩ (m5_isClash_1 l dC dI H.size ma gm L_gm K0_gm ) (cwV 1 ht (gdV k_8_193 k_8_190 k_8_192 ks_97 k_1_15) rfl rfl rfl (by decide +kernel) ⟨Nat.le_of_ble_eq_true rfl, Nat.le_of_ble_eq_true rfl⟩) ⟨pcw_blind, va_recv hK hP (ci := 5) (q0 := 1) rfl rfl, pcw_at hP hD hK [1] [] (by decide) rfl rfl rfl⟩ rfl rfl hl.1 rfl (lv_room (Nat.le_of_ble_eq_true rfl)) dX5_setMoves_76 ⟨Nat.le_of_ble_eq_true rfl, Nat.le_of_ble_eq_true rfl⟩) hP hD hK hS hA [1] [0] rfl rfl (by decide) (by decide) (fun r4 u H locs w5 hK hP hD hS => ?_)
  have hK : va_K (dC, dI) cls [(cR, .int)] s := hK
  have hP : va_P (dC, dI) cls [(tr, .inl (cR, 10, .inl f1)), (ma, .inr (5, gm))] H := hP
  have hD : va_D A [(tr, .inl (cR, 10, .inl f1)), (ma, .inr (5, gm))] := hD
  obtain rfl : r4 = 0 := w5
  refine lv_if_ne (tgt := 101) hx hb dX5_setMoves_79 (by decide) (fun c0 => absurd c0 (by decide)) (fun _ => ?_)
  refine lv_aload_n hx hb dX5_setMoves_82 rfl (lv_at hl 1 rfl) ?_
  refine lv_iload_n hx hb dX5_setMoves_83 rfl (lv_at hl 2 rfl) ?_
  refine lv_iload_n hx hb dX5_setMoves_84 rfl (lv_at hl 3 rfl) ?_
  refine lv_iconst (v := 1) hx hb dX5_setMoves_85 (by decide) ?_
  refine lv_iadd hx hb dX5_setMoves_86 ?_
  refine tk_i (y := 1) (by decide) ?_
  refine lv_iload_n hx hb dX5_setMoves_87 rfl (lv_at hl 4 rfl) ?_
  refine lv_iload hx hb dX5_setMoves_88 (lv_at hl 0 rfl) ?_
  refine va_mmax hx hb (hml.trans hl.1.symm) hown (ht _ k_8_206) (ht _ k_8_207) (ht _ k_1_27) (ht _ k_mmax) (Nat.le_of_ble_eq_true rfl) (Nat.le_of_ble_eq_true rfl) (Nat.le_of_ble_eq_true rfl) (Nat.le_of_ble_eq_true rfl) dX5_setMoves_90 ?_
  refine tk_i (y := 0) (by decide) ?_
  refine ca_i (wr := []) (va_runV (As := [.int 1, .int 1, .int 0]) (rest := []) ⟨hx, hb, hml, hown, ht⟩ (m5_setMoves_1 l dC dI H.size ma gm tr cR f1 L_gm K0_gm K9_gm ) (cwV 3 ht (gdV k_8_201 k_8_198 k_8_200 ks_99 k_1_15) rfl rfl rfl (by decide +kernel) ⟨Nat.le_of_ble_eq_true rfl, Nat.le_of_ble_eq_true rfl⟩) ⟨pcw_blind, va_recv hK hP (ci := 5) (q0 := 1) rfl rfl, pcw_at hP hD hK [1, 0] [0] (by decide) rfl rfl rfl⟩ rfl rfl hl.1 rfl (lv_room (Nat.le_of_ble_eq_true rfl)) dX5_setMoves_93 ⟨Nat.le_of_ble_eq_true rfl, Nat.le_of_ble_eq_true rfl⟩) hP hD hK hS hA [1, 0] [] rfl rfl (by decide) (by decide) (fun r6 u H locs w7 hK hP hD hS => ?_)
  obtain ⟨y8, rfl⟩ : ∃ z, z = u := ⟨_, rfl⟩
  have hK : va_K (dC, dI) cls [(cR, .int), (cR, .int)] s := hK
  have hP : va_P (dC, dI) cls [(ma, .inr (5, gm)), (tr, .inl (cR, 10, .inl y8))] H := hP
  have hD : va_D A [(ma, .inr (5, gm)), (tr, .inl (cR, 10, .inl y8))] := hD
  obtain rfl : r6 = 1 := w7
  refine lv_if_eq (tgt := 101) hx hb dX5_setMoves_96 (by decide) (fun c0 => absurd c0 (by decide)) (fun _ => ?_)
  refine lv_iconst (v := 1) hx hb dX5_setMoves_99 (by decide) ?_
  exact W.zret (v := 1) hx hb hr rfl (fun t ht9 hW => ⟨⟨1, (y8), rfl, rfl, by rw [ht9]; exact hP.sub [0, 1] rfl, va_K.moved hW.alike (hK.sub [0] rfl), hD.sub [0, 1] (by decide) rfl⟩, hS.F ht9⟩) hS.2.2 dX5_setMoves_100
set_option maxHeartbeats 4000000 in
set_option maxRecDepth 100000 in
theorem m5_findLeast (l : Launch) (dC : Nat → ClassId) (dI : Nat → Nat → Nat) (sz : Nat) (ma : Nat) (gm : List Value) (tr : Nat) (cR : ClassId) (fr : Nat → Int32) (ld : Nat) (cD : ClassId) (fd : Nat → Int32) (L_gm : gm.length = 15) (K0_gm : gm[0]? = some (.int 0)) (K5_gm : gm[5]? = some (.ref ld)) (K9_gm : gm[9]? = some (.ref tr)) : Met l yX5_findLeast (Cond.code yX5_findLeast cX5_findLeast 3 (some .int) :: tb) ({ frames := 4, cells := 0, slots := 0, locals := 93 }) (pcw [.ref ma] (dC, dI) [(ma, .inr (5, gm)), (tr, .inl (cR, 10, .inl fr)), (ld, .inl (cD, 10, .inl fd))] [(cR, .int), (cD, .int)] sz) (va_Qi (fun (r : Int32) => (fun (_ : Unit) => r = 1)) (bw (dC, dI) (va_A [(ma, .inr (5, gm)), (tr, .inl (cR, 10, .inl fr)), (ld, .inl (cD, 10, .inl fd))] sz) (fun (_ : Unit) => []) (fun (_ : Unit) => [])) (va_A [(ma, .inr (5, gm)), (tr, .inl (cR, 10, .inl fr)), (ld, .inl (cD, 10, .inl fd))] sz)) 0 0 (va_A [(ma, .inr (5, gm)), (tr, .inl (cR, 10, .inl fr)), (ld, .inl (cD, 10, .inl fd))] sz) := by
  refine Met.ofW (cc := cX5_findLeast) (maxL := 3) (ret := (some .int)) (by decide) rfl ?_
  intro p e s m args below meth c s₁ B hml hv
  obtain ⟨rfl, hsz, hP, hK, hD0⟩ := hv
  have hx := B.exec
  have hb := B.bytes
  have hr := B.returns
  have hts := atoms_spec (ws := Cond.code yX5_findLeast cX5_findLeast 3 (some .int) :: tb) B.pre
  have ht : ∀ w ∈ tb, w.before _ s = true := fun w h => hts w (List.mem_cons_of_mem _ h)
  have hown : s.vm.findClass RX5 = some m.cls := findClass_of_methodNamed B.named
  have hlocks := B.notSynchronized
  subst hsz
  have hD := hD0.self (sz := s.heap.size)
  generalize hAe : va_A [(ma, .inr (5, gm)), (tr, .inl (cR, 10, .inl fr)), (ld, .inl (cD, 10, .inl fd))] s.heap.size = A at hD ⊢
  have hA : ∀ q : Nat, s.heap.size ≤ q → A q := fun q h => by rw [← hAe]; exact Or.inr h
  have hS : va_S A s.heap s.heap [] := va_S.rf
  have hl := lv_entry ([.ref ma]) (n := 3) (Nat.le_of_ble_eq_true rfl)
  rw [lg_entry_eq]
  generalize (lg_sl ([.ref ma]) ++ List.replicate (3 - (lg_sl ([.ref ma])).length) Slot.unset).toArray = ls at hl ⊢
  have hl : lv_has ls 3 [(0, .ref ma)] := hl
  have hP : va_P (dC, dI) cls [(ma, .inr (5, gm)), (tr, .inl (cR, 10, .inl fr)), (ld, .inl (cD, 10, .inl fd))] s.heap := hP
  refine lv_iconst (v := 1) hx hb dX5_findLeast_0 (by decide) ?_
  refine lv_istore_n (lv' := [(1, .int 1), (0, .ref ma)]) hx hb dX5_findLeast_1 rfl hl (by decide) rfl (fun ls hl => ?_)
  refine lv_iload_n hx hb dX5_findLeast_2 rfl (lv_at hl 0 rfl) ?_
  refine lv_iconst (v := 5) hx hb dX5_findLeast_3 (by decide) ?_
  refine lv_icmp_gt (tgt := 96) hx hb dX5_findLeast_4 (by decide) (fun c0 => absurd c0 (by decide)) (fun _ => ?_)
  refine lv_iconst (v := 0) hx hb dX5_findLeast_7 (by decide) ?_
  refine lv_istore_n (lv' := [(2, .int 0), (1, .int 1), (0, .ref ma)]) hx hb dX5_findLeast_8 rfl hl (by decide) rfl (fun ls hl => ?_)
  refine lv_iload_n hx hb dX5_findLeast_9 rfl (lv_at hl 0 rfl) ?_
  refine lv_aload_n hx hb dX5_findLeast_10 rfl (lv_at hl 2 rfl) ?_
  refine va_get (D := (dC, dI)) (ci := 5) (v := .int 0) (C := RX5) (T := TX5) (N := 15) hx hb ht uX5 hown hK hP 0 rfl rfl 0 (by decide) (ht _ k_4_7) (fun _ h9 => h9) K0_gm dX5_findLeast_11 ?_
  refine lv_icmp_ge (tgt := 37) hx hb dX5_findLeast_14 (by decide) (fun _ => ?_) (fun c0 => absurd c0 (by decide))
  refine lv_aload_n hx hb dX5_findLeast_37 rfl (lv_at hl 2 rfl) ?_
  refine lv_iconst (v := 0) hx hb dX5_findLeast_38 (by decide) ?_
  refine ca_i (wr := [(tr, .inl (cR, 10, .inl fr)), (ld, .inl (cD, 10, .inl fd))]) (va_runV (As := [.int 0]) (rest := []) ⟨hx, hb, hml, hown, ht⟩ (m5_isClash_0 l dC dI s.heap.size ma gm L_gm K0_gm ) (cwV 1 ht (gdV k_8_193 k_8_190 k_8_192 ks_97 k_1_15) rfl rfl rfl (by decide +kernel) ⟨Nat.le_of_ble_eq_true rfl, Nat.le_of_ble_eq_true rfl⟩) ⟨pcw_blind, va_recv hK hP (ci := 5) (q0 := 0) rfl rfl, pcw_at hP hD hK [0] [] (by decide) rfl rfl rfl⟩ rfl rfl hl.1 rfl (lv_room (Nat.le_of_ble_eq_true rfl)) dX5_findLeast_39 ⟨Nat.le_of_ble_eq_true rfl, Nat.le_of_ble_eq_true rfl⟩) hP hD hK hS hA [0] [1, 2] rfl rfl (by decide) (by decide) (fun r1 u H locs w2 hK hP hD hS => ?_)
  have hK : va_K (dC, dI) cls [(cR, .int), (cD, .int)] s := hK
  have hP : va_P (dC, dI) cls [(tr, .inl (cR, 10, .inl fr)), (ld, .inl (cD, 10, .inl fd)), (ma, .inr (5, gm))] H := hP
  have hD : va_D A [(tr, .inl (cR, 10, .inl fr)), (ld, .inl (cD, 10, .inl fd)), (ma, .inr (5, gm))] := hD
  obtain rfl : r1 = 0 := w2
  refine lv_if_ne (tgt := 90) hx hb dX5_findLeast_42 (by decide) (fun c0 => absurd c0 (by decide)) (fun _ => ?_)
  refine lv_aload_n hx hb dX5_findLeast_45 rfl (lv_at hl 2 rfl) ?_
  refine lv_iload_n hx hb dX5_findLeast_46 rfl (lv_at hl 1 rfl) ?_
  refine lv_iconst (v := 0) hx hb dX5_findLeast_47 (by decide) ?_
  refine lv_iconst (v := 0) hx hb dX5_findLeast_48 (by decide) ?_
  refine ca_i (wr := [(ld, .inl (cD, 10, .inl fd))]) (va_runV (As := [.int 1, .int 0, .int 0]) (rest := []) ⟨hx, hb, hml, hown, ht⟩ (m5_setMoves_0 l dC dI H.size ma gm tr cR fr L_gm K0_gm K9_gm ) (cwV 3 ht (gdV k_8_201 k_8_198 k_8_200 ks_99 k_1_15) rfl rfl rfl (by decide +kernel) ⟨Nat.le_of_ble_eq_true rfl, Nat.le_of_ble_eq_true rfl⟩) ⟨pcw_blind, va_recv hK hP (ci := 5) (q0 := 2) rfl rfl, pcw_at hP hD hK [2, 0] [0] (by decide) rfl rfl rfl⟩ rfl rfl hl.1 rfl (lv_room (Nat.le_of_ble_eq_true rfl)) dX5_findLeast_49 ⟨Nat.le_of_ble_eq_true rfl, Nat.le_of_ble_eq_true rfl⟩) hP hD hK hS hA [2, 0] [1] rfl rfl (by decide) (by decide) (fun r3 u H locs w4 hK hP hD hS => ?_)
  obtain ⟨y5, rfl⟩ : ∃ z, z = u := ⟨_, rfl⟩
  have hK : va_K (dC, dI) cls [(cR, .int), (cD, .int), (cR, .int)] s := hK
  have hP : va_P (dC, dI) cls [(ld, .inl (cD, 10, .inl fd)), (ma, .inr (5, gm)), (tr, .inl (cR, 10, .inl y5))] H := hP
  have hD : va_D A [(ld, .inl (cD, 10, .inl fd)), (ma, .inr (5, gm)), (tr, .inl (cR, 10, .inl y5))] := hD
  obtain rfl : r3 = 1 := w4
  refine lv_if_eq (tgt := 90) hx hb dX5_findLeast_52 (by decide) (fun c0 => absurd c0 (by decide)) (fun _ => ?_)
  refine lv_aload_n hx hb dX5_findLeast_55 rfl (lv_at hl 2 rfl) ?_
  refine lv_iload_n hx hb dX5_findLeast_56 rfl (lv_at hl 1 rfl) ?_
  refine va_put (D := (dC, dI)) (ci := 5) (v := .int 1) (ty := .int) (C := RX5) (T := TX5) (N := 15) hx hb ht uX5 tyX5 tkX5 nmX5 hown hK hP hD hS 1 rfl rfl 4 (by decide) (ht _ k_4_12) (fun _ h9 => h9) rfl (by decide +kernel) rfl rfl (by rw [L_gm]; decide) dX5_findLeast_57 (fun H locs hP hD hS => ?_)
  obtain ⟨F6, eF6⟩ : ∃ g : List Value, g = gm.set 4 (.int 1) := ⟨_, rfl⟩
  rw [← eF6] at hP hD
  have K0_F6 : F6[0]? = some (.int 0) := by rw [eF6, List.getElem?_set_ne (by decide)]; exact K0_gm
  have K5_F6 : F6[5]? = some (.ref ld) := by rw [eF6, List.getElem?_set_ne (by decide)]; exact K5_gm
  have K9_F6 : F6[9]? = some (.ref tr) := by rw [eF6, List.getElem?_set_ne (by decide)]; exact K9_gm
  have K4_F6 : F6[4]? = some (.int 1) := by rw [eF6]; exact List.getElem?_set_self (by rw [L_gm]; decide)
  have L_F6 : F6.length = 15 := by rw [eF6, List.length_set]; exact L_gm
  have hP : va_P (dC, dI) cls [(ld, .inl (cD, 10, .inl fd)), (ma, .inr (5, F6)), (tr, .inl (cR, 10, .inl y5))] H := hP
  have hD : va_D A [(ld, .inl (cD, 10, .inl fd)), (ma, .inr (5, F6)), (tr, .inl (cR, 10, .inl y5))] := hD
  refine lv_aload_n hx hb dX5_findLeast_60 rfl (lv_at hl 2 rfl) ?_
  refine va_get (D := (dC, dI)) (ci := 5) (v := .ref tr) (C := RX5) (T := TX5) (N := 15) hx hb ht uX5 hown hK hP 1 rfl rfl 9 (by decide) (ht _ k_4_17) (fun _ h9 => h9) K9_F6 dX5_findLeast_61 ?_
  refine lv_iconst (v := 0) hx hb dX5_findLeast_64 (by decide) ?_
  refine lv_aload_n hx hb dX5_findLeast_65 rfl (lv_at hl 2 rfl) ?_
  refine va_get (D := (dC, dI)) (ci := 5) (v := .ref ld) (C := RX5) (T := TX5) (N := 15) hx hb ht uX5 hown hK hP 1 rfl rfl 5 (by decide) (ht _ k_4_13) (fun _ h9 => h9) K5_F6 dX5_findLeast_66 ?_
  refine lv_iconst (v := 0) hx hb dX5_findLeast_69 (by decide) ?_
  refine lv_iconst (v := 2) hx hb dX5_findLeast_70 (by decide) ?_
  refine lv_iload_n hx hb dX5_findLeast_71 rfl (lv_at hl 1 rfl) ?_
  refine lv_imul hx hb dX5_findLeast_72 ?_
  refine tk_i (y := 2) (by decide) ?_
  refine va_copyi hx hb (hml.trans hl.1.symm) hown (ht _ k_8_209) (ht _ k_6_6) (ht _ k_6_5) (ht _ k_1_28) hK hP hD hS 2 0 0 1 rfl rfl rfl rfl rfl (by decide) (by decide) (by decide) (by decide) (by decide) (fun _ _ => rfl) (Nat.le_of_ble_eq_true rfl) (by decide) dX5_findLeast_73 (fun H locs hP hD hS => ?_)
  obtain ⟨f7, ef7⟩ : ∃ g : Nat → Int32, g = va_cpy y5 fd (0 : Int32).toNatClampNeg (0 : Int32).toNatClampNeg (2 : Int32).toNatClampNeg := ⟨_, rfl⟩
  rw [← ef7] at hP hD
  have hP : va_P (dC, dI) cls [(ld, .inl (cD, 10, .inl f7)), (ma, .inr (5, F6)), (tr, .inl (cR, 10, .inl y5))] H := hP
  have hD : va_D A [(ld, .inl (cD, 10, .inl f7)), (ma, .inr (5, F6)), (tr, .inl (cR, 10, .inl y5))] := hD
  refine lv_aload_n hx hb dX5_findLeast_76 rfl (lv_at hl 2 rfl) ?_
  refine lv_aload_n hx hb dX5_findLeast_77 rfl (lv_at hl 2 rfl) ?_
  refine lv_iconst (v := 2) hx hb dX5_findLeast_78 (by decide) ?_
  refine lv_iload_n hx hb dX5_findLeast_79 rfl (lv_at hl 1 rfl) ?_
  refine lv_imul hx hb dX5_findLeast_80 ?_
  refine tk_i (y := 2) (by decide) ?_
  refine lv_iconst (v := 1) hx hb dX5_findLeast_81 (by decide) ?_
  refine ca_i (wr := [(ld, .inl (cD, 10, .inl f7)), (tr, .inl (cR, 10, .inl y5))]) (va_runV (As := [.int 2, .int 1]) (rest := [.ref ma]) ⟨hx, hb, hml, hown, ht⟩ (m5_endsOf_21 l dC dI H.size ma F6 L_F6 K0_F6 ) (cwV 2 ht (gdV k_8_197 k_8_194 k_8_196 ks_98 k_1_15) rfl rfl rfl (by decide +kernel) ⟨Nat.le_of_ble_eq_true rfl, Nat.le_of_ble_eq_true rfl⟩) ⟨pcw_blind, va_recv hK hP (ci := 5) (q0 := 1) rfl rfl, pcw_at hP hD hK [1] [] (by decide) rfl rfl rfl⟩ rfl rfl hl.1 rfl (lv_room (Nat.le_of_ble_eq_true rfl)) dX5_findLeast_82 ⟨Nat.le_of_ble_eq_true rfl, Nat.le_of_ble_eq_true rfl⟩) hP hD hK hS hA [1] [0, 2] rfl rfl (by decide) (by decide) (fun r8 u H locs w9 hK hP hD hS => ?_)
  have hK : va_K (dC, dI) cls [(cR, .int), (cD, .int), (cR, .int)] s := hK
  have hP : va_P (dC, dI) cls [(ld, .inl (cD, 10, .inl f7)), (tr, .inl (cR, 10, .inl y5)), (ma, .inr (5, F6))] H := hP
  have hD : va_D A [(ld, .inl (cD, 10, .inl f7)), (tr, .inl (cR, 10, .inl y5)), (ma, .inr (5, F6))] := hD
  obtain rfl : r8 = 0 := w9
  refine va_put (D := (dC, dI)) (ci := 5) (v := .int 0) (ty := .int) (C := RX5) (T := TX5) (N := 15) hx hb ht uX5 tyX5 tkX5 nmX5 hown hK hP hD hS 2 rfl rfl 6 (by decide) (ht _ k_4_14) (fun _ h9 => h9) rfl (by decide +kernel) rfl rfl (by rw [L_F6]; decide) dX5_findLeast_85 (fun H locs hP hD hS => ?_)
  obtain ⟨F10, eF10⟩ : ∃ g : List Value, g = F6.set 6 (.int 0) := ⟨_, rfl⟩
  rw [← eF10] at hP hD
  have K0_F10 : F10[0]? = some (.int 0) := by rw [eF10, List.getElem?_set_ne (by decide)]; exact K0_F6
  have K4_F10 : F10[4]? = some (.int 1) := by rw [eF10, List.getElem?_set_ne (by decide)]; exact K4_F6
  have K5_F10 : F10[5]? = some (.ref ld) := by rw [eF10, List.getElem?_set_ne (by decide)]; exact K5_F6
  have K9_F10 : F10[9]? = some (.ref tr) := by rw [eF10, List.getElem?_set_ne (by decide)]; exact K9_F6
  have K6_F10 : F10[6]? = some (.int 0) := by rw [eF10]; exact List.getElem?_set_self (by rw [L_F6]; decide)
  have L_F10 : F10.length = 15 := by rw [eF10, List.length_set]; exact L_F6
  have hP : va_P (dC, dI) cls [(ld, .inl (cD, 10, .inl f7)), (tr, .inl (cR, 10, .inl y5)), (ma, .inr (5, F10))] H := hP
  have hD : va_D A [(ld, .inl (cD, 10, .inl f7)), (tr, .inl (cR, 10, .inl y5)), (ma, .inr (5, F10))] := hD
  refine lv_iload_n hx hb dX5_findLeast_88 rfl (lv_at hl 1 rfl) ?_
  exact W.iret (v := 1) hx hb hr (fun t ht9 hW => ⟨⟨1, (), rfl, rfl, by rw [ht9]; exact hP.sub [] rfl, va_K.moved hW.alike (hK.sub [] rfl), hD.sub [] (by decide) rfl⟩, hS.F ht9⟩) hS.2.2 dX5_findLeast_89
set_option maxHeartbeats 4000000 in
set_option maxRecDepth 100000 in
theorem x_machine (l : Launch) (dC : Nat → ClassId) (dI : Nat → Nat → Nat) (sz : Nat) (q : Nat) (fs : List Value) (ma : Nat) (gm : List Value) (tr : Nat) (cR : ClassId) (fr : Nat → Int32) (ld : Nat) (cD : ClassId) (fd : Nat → Int32) (L_fs : fs.length = 18) (K2_fs : fs[2]? = some (.int 0)) (K16_fs : fs[16]? = some (.ref ma)) (L_gm : gm.length = 15) (K0_gm : gm[0]? = some (.int 0)) (K5_gm : gm[5]? = some (.ref ld)) (K9_gm : gm[9]? = some (.ref tr)) : Met l yX11_machine (Cond.code yX11_machine cX11_machine 1 (some .int) :: tb) ({ frames := 5, cells := 0, slots := 0, locals := 115 }) (pcw [.ref q] (dC, dI) [(q, .inr (11, fs)), (ma, .inr (5, gm)), (tr, .inl (cR, 10, .inl fr)), (ld, .inl (cD, 10, .inl fd))] [(cR, .int), (cD, .int)] sz) (va_Qi (fun (r : Int32) => (fun (_ : Unit) => r = 1)) (bw (dC, dI) (va_A [(q, .inr (11, fs)), (ma, .inr (5, gm)), (tr, .inl (cR, 10, .inl fr)), (ld, .inl (cD, 10, .inl fd))] sz) (fun (_ : Unit) => []) (fun (_ : Unit) => [])) (va_A [(q, .inr (11, fs)), (ma, .inr (5, gm)), (tr, .inl (cR, 10, .inl fr)), (ld, .inl (cD, 10, .inl fd))] sz)) 0 0 (va_A [(q, .inr (11, fs)), (ma, .inr (5, gm)), (tr, .inl (cR, 10, .inl fr)), (ld, .inl (cD, 10, .inl fd))] sz) := by
  refine Met.ofW (cc := cX11_machine) (maxL := 1) (ret := (some .int)) (by decide) rfl ?_
  intro p e s m args below meth c s₁ B hml hv
  obtain ⟨rfl, hsz, hP, hK, hD0⟩ := hv
  have hx := B.exec
  have hb := B.bytes
  have hr := B.returns
  have hts := atoms_spec (ws := Cond.code yX11_machine cX11_machine 1 (some .int) :: tb) B.pre
  have ht : ∀ w ∈ tb, w.before _ s = true := fun w h => hts w (List.mem_cons_of_mem _ h)
  have hown : s.vm.findClass RX11 = some m.cls := findClass_of_methodNamed B.named
  have hlocks := B.notSynchronized
  subst hsz
  have hD := hD0.self (sz := s.heap.size)
  generalize hAe : va_A [(q, .inr (11, fs)), (ma, .inr (5, gm)), (tr, .inl (cR, 10, .inl fr)), (ld, .inl (cD, 10, .inl fd))] s.heap.size = A at hD ⊢
  have hA : ∀ q : Nat, s.heap.size ≤ q → A q := fun q h => by rw [← hAe]; exact Or.inr h
  have hS : va_S A s.heap s.heap [] := va_S.rf
  have hl := lv_entry ([.ref q]) (n := 1) (Nat.le_of_ble_eq_true rfl)
  rw [lg_entry_eq]
  generalize (lg_sl ([.ref q]) ++ List.replicate (1 - (lg_sl ([.ref q])).length) Slot.unset).toArray = ls at hl ⊢
  have hl : lv_has ls 1 [(0, .ref q)] := hl
  have hP : va_P (dC, dI) cls [(q, .inr (11, fs)), (ma, .inr (5, gm)), (tr, .inl (cR, 10, .inl fr)), (ld, .inl (cD, 10, .inl fd))] s.heap := hP
  refine lv_aload_n hx hb dX11_machine_0 rfl (lv_at hl 0 rfl) ?_
  refine va_get (D := (dC, dI)) (ci := 11) (v := .int 0) (C := RX11) (T := TX11) (N := 18) hx hb ht uX11 hown hK hP 0 rfl rfl 2 (by decide) (ht _ k_4_93) (fun _ h9 => h9) K2_fs dX11_machine_1 ?_
  refine lv_if_eq (tgt := 12) hx hb dX11_machine_4 (by decide) (fun _ => ?_) (fun c0 => absurd c0 (by decide))
  refine lv_aload_n hx hb dX11_machine_12 rfl (lv_at hl 0 rfl) ?_
  refine va_get (D := (dC, dI)) (ci := 11) (v := .ref ma) (C := RX11) (T := TX11) (N := 18) hx hb ht uX11 hown hK hP 0 rfl rfl 16 (by decide) (ht _ k_4_107) (fun _ h9 => h9) K16_fs dX11_machine_13 ?_
  refine ca_i (wr := [(q, .inr (11, fs))]) (va_runV (As := []) (rest := []) ⟨hx, hb, hml, hown, ht⟩ (m5_findLeast l dC dI s.heap.size ma gm tr cR fr ld cD fd L_gm K0_gm K5_gm K9_gm ) (cwV 0 ht (gdV k_8_189 k_8_186 k_8_187 k_8_188 k_1_15) rfl rfl rfl (by decide +kernel) ⟨Nat.le_of_ble_eq_true rfl, Nat.le_of_ble_eq_true rfl⟩) ⟨pcw_blind, va_recv hK hP (ci := 5) (q0 := 1) rfl rfl, pcw_at hP hD hK [1, 2, 3] [0, 1] (by decide) rfl rfl rfl⟩ rfl rfl hl.1 rfl (lv_room (Nat.le_of_ble_eq_true rfl)) dX11_machine_16 ⟨Nat.le_of_ble_eq_true rfl, Nat.le_of_ble_eq_true rfl⟩) hP hD hK hS hA [1, 2, 3] [0] rfl rfl (by decide) (by decide) (fun r1 u H locs w2 hK hP hD hS => ?_)
  have hK : va_K (dC, dI) cls [(cR, .int), (cD, .int)] s := hK
  have hP : va_P (dC, dI) cls [(q, .inr (11, fs))] H := hP
  have hD : va_D A [(q, .inr (11, fs))] := hD
  obtain rfl : r1 = 1 := w2
  exact W.iret (v := 1) hx hb hr (fun t ht9 hW => ⟨⟨1, (), rfl, rfl, by rw [ht9]; exact hP.sub [] rfl, va_K.moved hW.alike (hK.sub [] rfl), hD.sub [] (by decide) rfl⟩, hS.F ht9⟩) hS.2.2 dX11_machine_19
set_option maxHeartbeats 4000000 in
set_option maxRecDepth 100000 in
theorem x_feedNumber_0 (l : Launch) (dC : Nat → ClassId) (dI : Nat → Nat → Nat) (sz : Nat) (q : Nat) (fs : List Value) (tp : Nat) (cT : ClassId) (ft : Nat → Int32) (p0 : Int32) (L_fs : fs.length = 18) (K0_fs : fs[0]? = some (.ref tp)) (K1_fs : fs[1]? = some (.int 0)) : Met l yX11_feedNumber (Cond.code yX11_feedNumber cX11_feedNumber 3 none :: tb) ({ frames := 0, cells := 0, slots := 0, locals := 0 }) (pcw [.ref q, .int p0] (dC, dI) [(q, .inr (11, fs)), (tp, .inl (cT, 2000, .inl ft))] [(cT, .byte)] sz) (va_Qv (fun (u : (List Value) × (Nat → Int32)) => match u with | (fs1, ft1) => (True) ∧ (fs1.length = 18) ∧ (fs1[0]? = some (.ref tp)) ∧ (fs1[1]? = some (.int 4))) (bw (dC, dI) (va_A [(q, .inr (11, fs)), (tp, .inl (cT, 2000, .inl ft))] sz) (fun (u : (List Value) × (Nat → Int32)) => match u with | (fs1, ft1) => [(q, .inr (11, fs1)), (tp, .inl (cT, 2000, .inl ft1))]) (fun (u : (List Value) × (Nat → Int32)) => match u with | (fs1, ft1) => [(cT, .byte)])) (va_A [(q, .inr (11, fs)), (tp, .inl (cT, 2000, .inl ft))] sz)) 0 0 (va_A [(q, .inr (11, fs)), (tp, .inl (cT, 2000, .inl ft))] sz) := by
  refine Met.ofW (cc := cX11_feedNumber) (maxL := 3) (ret := none) (by decide) rfl ?_
  intro p e s m args below meth c s₁ B hml hv
  obtain ⟨rfl, hsz, hP, hK, hD0⟩ := hv
  have hx := B.exec
  have hb := B.bytes
  have hr := B.returns
  have hts := atoms_spec (ws := Cond.code yX11_feedNumber cX11_feedNumber 3 none :: tb) B.pre
  have ht : ∀ w ∈ tb, w.before _ s = true := fun w h => hts w (List.mem_cons_of_mem _ h)
  have hown : s.vm.findClass RX11 = some m.cls := findClass_of_methodNamed B.named
  have hlocks := B.notSynchronized
  subst hsz
  have hD := hD0.self (sz := s.heap.size)
  generalize hAe : va_A [(q, .inr (11, fs)), (tp, .inl (cT, 2000, .inl ft))] s.heap.size = A at hD ⊢
  have hA : ∀ q : Nat, s.heap.size ≤ q → A q := fun q h => by rw [← hAe]; exact Or.inr h
  have hS : va_S A s.heap s.heap [] := va_S.rf
  have hl := lv_entry ([.ref q, .int p0]) (n := 3) (Nat.le_of_ble_eq_true rfl)
  rw [lg_entry_eq]
  generalize (lg_sl ([.ref q, .int p0]) ++ List.replicate (3 - (lg_sl ([.ref q, .int p0])).length) Slot.unset).toArray = ls at hl ⊢
  have hl : lv_has ls 3 [(0, .ref q), (1, .int p0)] := hl
  have hP : va_P (dC, dI) cls [(q, .inr (11, fs)), (tp, .inl (cT, 2000, .inl ft))] s.heap := hP
  refine lv_bipush (v := 24) hx hb dX11_feedNumber_0 (by decide) ?_
  refine lv_istore_n (lv' := [(2, .int 24), (0, .ref q), (1, .int p0)]) hx hb dX11_feedNumber_2 rfl hl (by decide) rfl (fun ls hl => ?_)
  refine lv_iload_n hx hb dX11_feedNumber_3 rfl (lv_at hl 0 rfl) ?_
  refine lv_if_lt (tgt := 46) hx hb dX11_feedNumber_4 (by decide) (fun c0 => absurd c0 (by decide)) (fun _ => ?_)
  refine lv_aload_n hx hb dX11_feedNumber_7 rfl (lv_at hl 1 rfl) ?_
  refine va_get (D := (dC, dI)) (ci := 11) (v := .int 0) (C := RX11) (T := TX11) (N := 18) hx hb ht uX11 hown hK hP 0 rfl rfl 1 (by decide) (ht _ k_4_92) (fun _ h9 => h9) K1_fs dX11_feedNumber_8 ?_
  refine lv_sipush (v := 2000) hx hb dX11_feedNumber_11 (by decide) ?_
  refine lv_icmp_ge (tgt := 46) hx hb dX11_feedNumber_14 (by decide) (fun c0 => absurd c0 (by decide)) (fun _ => ?_)
  refine lv_aload_n hx hb dX11_feedNumber_17 rfl (lv_at hl 1 rfl) ?_
  refine va_get (D := (dC, dI)) (ci := 11) (v := .ref tp) (C := RX11) (T := TX11) (N := 18) hx hb ht uX11 hown hK hP 0 rfl rfl 0 (by decide) (ht _ k_4_91) (fun _ h9 => h9) K0_fs dX11_feedNumber_18 ?_
  refine lv_aload_n hx hb dX11_feedNumber_21 rfl (lv_at hl 1 rfl) ?_
  refine va_get (D := (dC, dI)) (ci := 11) (v := .int 0) (C := RX11) (T := TX11) (N := 18) hx hb ht uX11 hown hK hP 0 rfl rfl 1 (by decide) (ht _ k_4_92) (fun _ h9 => h9) K1_fs dX11_feedNumber_22 ?_
  refine lv_iload_n hx hb dX11_feedNumber_25 rfl (lv_at hl 2 rfl) ?_
  refine lv_iload_n hx hb dX11_feedNumber_26 rfl (lv_at hl 0 rfl) ?_
  refine lv_iushr hx hb dX11_feedNumber_27 rfl ?_
  refine lv_topi (fun x1 ex1 => ?_)
  refine lv_i2b hx hb dX11_feedNumber_28 rfl ?_
  refine lv_topi (fun x2 ex2 => ?_)
  refine va_bast (i := 0) (x := x2) hx hb hK hP hD hS 1 0 rfl rfl (by unfold vp_in; decide) dX11_feedNumber_29 (fun H locs hP hD hS => ?_)
  obtain ⟨f3, ef3⟩ : ∃ g : Nat → Int32, g = upd ft (0 : Int32).toNatClampNeg (vp_nar .byte x2) := ⟨_, rfl⟩
  rw [← ef3] at hP hD
  have hP : va_P (dC, dI) cls [(q, .inr (11, fs)), (tp, .inl (cT, 2000, .inl f3))] H := hP
  have hD : va_D A [(q, .inr (11, fs)), (tp, .inl (cT, 2000, .inl f3))] := hD
  refine lv_aload_n hx hb dX11_feedNumber_30 rfl (lv_at hl 1 rfl) ?_
  refine lv_dup hx hb dX11_feedNumber_31 rfl ?_
  refine va_get (D := (dC, dI)) (ci := 11) (v := .int 0) (C := RX11) (T := TX11) (N := 18) hx hb ht uX11 hown hK hP 0 rfl rfl 1 (by decide) (ht _ k_4_92) (fun _ h9 => h9) K1_fs dX11_feedNumber_32 ?_
  refine lv_iconst (v := 1) hx hb dX11_feedNumber_35 (by decide) ?_
  refine lv_iadd hx hb dX11_feedNumber_36 ?_
  refine tk_i (y := 1) (by decide) ?_
  refine va_put (D := (dC, dI)) (ci := 11) (v := .int 1) (ty := .int) (C := RX11) (T := TX11) (N := 18) hx hb ht uX11 tyX11 tkX11 nmX11 hown hK hP hD hS 0 rfl rfl 1 (by decide) (ht _ k_4_92) (fun _ h9 => h9) rfl (by decide +kernel) rfl rfl (by rw [L_fs]; decide) dX11_feedNumber_37 (fun H locs hP hD hS => ?_)
  obtain ⟨F4, eF4⟩ : ∃ g : List Value, g = fs.set 1 (.int 1) := ⟨_, rfl⟩
  rw [← eF4] at hP hD
  have K0_F4 : F4[0]? = some (.ref tp) := by rw [eF4, List.getElem?_set_ne (by decide)]; exact K0_fs
  have K1_F4 : F4[1]? = some (.int 1) := by rw [eF4]; exact List.getElem?_set_self (by rw [L_fs]; decide)
  have L_F4 : F4.length = 18 := by rw [eF4, List.length_set]; exact L_fs
  have hP : va_P (dC, dI) cls [(q, .inr (11, F4)), (tp, .inl (cT, 2000, .inl f3))] H := hP
  have hD : va_D A [(q, .inr (11, F4)), (tp, .inl (cT, 2000, .inl f3))] := hD
  refine lv_iinc (v := 16) (lv' := [(2, .int 16), (0, .ref q), (1, .int p0)]) hx hb dX11_feedNumber_40 hl (k := 0) rfl (by decide) (by decide) rfl (fun ls hl => ?_)
  refine lv_goto (tgt := 3) hx hb dX11_feedNumber_43 (by decide) ?_
  refine lv_iload_n hx hb dX11_feedNumber_3 rfl (lv_at hl 0 rfl) ?_
  refine lv_if_lt (tgt := 46) hx hb dX11_feedNumber_4 (by decide) (fun c0 => absurd c0 (by decide)) (fun _ => ?_)
  refine lv_aload_n hx hb dX11_feedNumber_7 rfl (lv_at hl 1 rfl) ?_
  refine va_get (D := (dC, dI)) (ci := 11) (v := .int 1) (C := RX11) (T := TX11) (N := 18) hx hb ht uX11 hown hK hP 0 rfl rfl 1 (by decide) (ht _ k_4_92) (fun _ h9 => h9) K1_F4 dX11_feedNumber_8 ?_
  refine lv_sipush (v := 2000) hx hb dX11_feedNumber_11 (by decide) ?_
  refine lv_icmp_ge (tgt := 46) hx hb dX11_feedNumber_14 (by decide) (fun c0 => absurd c0 (by decide)) (fun _ => ?_)
  refine lv_aload_n hx hb dX11_feedNumber_17 rfl (lv_at hl 1 rfl) ?_
  refine va_get (D := (dC, dI)) (ci := 11) (v := .ref tp) (C := RX11) (T := TX11) (N := 18) hx hb ht uX11 hown hK hP 0 rfl rfl 0 (by decide) (ht _ k_4_91) (fun _ h9 => h9) K0_F4 dX11_feedNumber_18 ?_
  refine lv_aload_n hx hb dX11_feedNumber_21 rfl (lv_at hl 1 rfl) ?_
  refine va_get (D := (dC, dI)) (ci := 11) (v := .int 1) (C := RX11) (T := TX11) (N := 18) hx hb ht uX11 hown hK hP 0 rfl rfl 1 (by decide) (ht _ k_4_92) (fun _ h9 => h9) K1_F4 dX11_feedNumber_22 ?_
  refine lv_iload_n hx hb dX11_feedNumber_25 rfl (lv_at hl 2 rfl) ?_
  refine lv_iload_n hx hb dX11_feedNumber_26 rfl (lv_at hl 0 rfl) ?_
  refine lv_iushr hx hb dX11_feedNumber_27 rfl ?_
  refine lv_topi (fun x5 ex5 => ?_)
  refine lv_i2b hx hb dX11_feedNumber_28 rfl ?_
  refine lv_topi (fun x6 ex6 => ?_)
  refine va_bast (i := 1) (x := x6) hx hb hK hP hD hS 1 0 rfl rfl (by unfold vp_in; decide) dX11_feedNumber_29 (fun H locs hP hD hS => ?_)
  obtain ⟨f7, ef7⟩ : ∃ g : Nat → Int32, g = upd f3 (1 : Int32).toNatClampNeg (vp_nar .byte x6) := ⟨_, rfl⟩
  rw [← ef7] at hP hD
  have hP : va_P (dC, dI) cls [(q, .inr (11, F4)), (tp, .inl (cT, 2000, .inl f7))] H := hP
  have hD : va_D A [(q, .inr (11, F4)), (tp, .inl (cT, 2000, .inl f7))] := hD
  refine lv_aload_n hx hb dX11_feedNumber_30 rfl (lv_at hl 1 rfl) ?_
  refine lv_dup hx hb dX11_feedNumber_31 rfl ?_
  refine va_get (D := (dC, dI)) (ci := 11) (v := .int 1) (C := RX11) (T := TX11) (N := 18) hx hb ht uX11 hown hK hP 0 rfl rfl 1 (by decide) (ht _ k_4_92) (fun _ h9 => h9) K1_F4 dX11_feedNumber_32 ?_
  refine lv_iconst (v := 1) hx hb dX11_feedNumber_35 (by decide) ?_
  refine lv_iadd hx hb dX11_feedNumber_36 ?_
  refine tk_i (y := 2) (by decide) ?_
  refine va_put (D := (dC, dI)) (ci := 11) (v := .int 2) (ty := .int) (C := RX11) (T := TX11) (N := 18) hx hb ht uX11 tyX11 tkX11 nmX11 hown hK hP hD hS 0 rfl rfl 1 (by decide) (ht _ k_4_92) (fun _ h9 => h9) rfl (by decide +kernel) rfl rfl (by rw [L_F4]; decide) dX11_feedNumber_37 (fun H locs hP hD hS => ?_)
  obtain ⟨F8, eF8⟩ : ∃ g : List Value, g = F4.set 1 (.int 2) := ⟨_, rfl⟩
  rw [← eF8] at hP hD
  have K0_F8 : F8[0]? = some (.ref tp) := by rw [eF8, List.getElem?_set_ne (by decide)]; exact K0_F4
  have K1_F8 : F8[1]? = some (.int 2) := by rw [eF8]; exact List.getElem?_set_self (by rw [L_F4]; decide)
  have L_F8 : F8.length = 18 := by rw [eF8, List.length_set]; exact L_F4
  have hP : va_P (dC, dI) cls [(q, .inr (11, F8)), (tp, .inl (cT, 2000, .inl f7))] H := hP
  have hD : va_D A [(q, .inr (11, F8)), (tp, .inl (cT, 2000, .inl f7))] := hD
  refine lv_iinc (v := 8) (lv' := [(2, .int 8), (0, .ref q), (1, .int p0)]) hx hb dX11_feedNumber_40 hl (k := 0) rfl (by decide) (by decide) rfl (fun ls hl => ?_)
  refine lv_goto (tgt := 3) hx hb dX11_feedNumber_43 (by decide) ?_
  refine lv_iload_n hx hb dX11_feedNumber_3 rfl (lv_at hl 0 rfl) ?_
  refine lv_if_lt (tgt := 46) hx hb dX11_feedNumber_4 (by decide) (fun c0 => absurd c0 (by decide)) (fun _ => ?_)
  refine lv_aload_n hx hb dX11_feedNumber_7 rfl (lv_at hl 1 rfl) ?_
  refine va_get (D := (dC, dI)) (ci := 11) (v := .int 2) (C := RX11) (T := TX11) (N := 18) hx hb ht uX11 hown hK hP 0 rfl rfl 1 (by decide) (ht _ k_4_92) (fun _ h9 => h9) K1_F8 dX11_feedNumber_8 ?_
  refine lv_sipush (v := 2000) hx hb dX11_feedNumber_11 (by decide) ?_
  refine lv_icmp_ge (tgt := 46) hx hb dX11_feedNumber_14 (by decide) (fun c0 => absurd c0 (by decide)) (fun _ => ?_)
  refine lv_aload_n hx hb dX11_feedNumber_17 rfl (lv_at hl 1 rfl) ?_
  refine va_get (D := (dC, dI)) (ci := 11) (v := .ref tp) (C := RX11) (T := TX11) (N := 18) hx hb ht uX11 hown hK hP 0 rfl rfl 0 (by decide) (ht _ k_4_91) (fun _ h9 => h9) K0_F8 dX11_feedNumber_18 ?_
  refine lv_aload_n hx hb dX11_feedNumber_21 rfl (lv_at hl 1 rfl) ?_
  refine va_get (D := (dC, dI)) (ci := 11) (v := .int 2) (C := RX11) (T := TX11) (N := 18) hx hb ht uX11 hown hK hP 0 rfl rfl 1 (by decide) (ht _ k_4_92) (fun _ h9 => h9) K1_F8 dX11_feedNumber_22 ?_
  refine lv_iload_n hx hb dX11_feedNumber_25 rfl (lv_at hl 2 rfl) ?_
  refine lv_iload_n hx hb dX11_feedNumber_26 rfl (lv_at hl 0 rfl) ?_
  refine lv_iushr hx hb dX11_feedNumber_27 rfl ?_
  refine lv_topi (fun x9 ex9 => ?_)
  refine lv_i2b hx hb dX11_feedNumber_28 rfl ?_
  refine lv_topi (fun x10 ex10 => ?_)
  refine va_bast (i := 2) (x := x10) hx hb hK hP hD hS 1 0 rfl rfl (by unfold vp_in; decide) dX11_feedNumber_29 (fun H locs hP hD hS => ?_)
  obtain ⟨f11, ef11⟩ : ∃ g : Nat → Int32, g = upd f7 (2 : Int32).toNatClampNeg (vp_nar .byte x10) := ⟨_, rfl⟩
  rw [← ef11] at hP hD
  have hP : va_P (dC, dI) cls [(q, .inr (11, F8)), (tp, .inl (cT, 2000, .inl f11))] H := hP
  have hD : va_D A [(q, .inr (11, F8)), (tp, .inl (cT, 2000, .inl f11))] := hD
  refine lv_aload_n hx hb dX11_feedNumber_30 rfl (lv_at hl 1 rfl) ?_
  refine lv_dup hx hb dX11_feedNumber_31 rfl ?_
  refine va_get (D := (dC, dI)) (ci := 11) (v := .int 2) (C := RX11) (T := TX11) (N := 18) hx hb ht uX11 hown hK hP 0 rfl rfl 1 (by decide) (ht _ k_4_92) (fun _ h9 => h9) K1_F8 dX11_feedNumber_32 ?_
  refine lv_iconst (v := 1) hx hb dX11_feedNumber_35 (by decide) ?_
  refine lv_iadd hx hb dX11_feedNumber_36 ?_
  refine tk_i (y := 3) (by decide) ?_
  refine va_put (D := (dC, dI)) (ci := 11) (v := .int 3) (ty := .int) (C := RX11) (T := TX11) (N := 18) hx hb ht uX11 tyX11 tkX11 nmX11 hown hK hP hD hS 0 rfl rfl 1 (by decide) (ht _ k_4_92) (fun _ h9 => h9) rfl (by decide +kernel) rfl rfl (by rw [L_F8]; decide) dX11_feedNumber_37 (fun H locs hP hD hS => ?_)
  obtain ⟨F12, eF12⟩ : ∃ g : List Value, g = F8.set 1 (.int 3) := ⟨_, rfl⟩
  rw [← eF12] at hP hD
  have K0_F12 : F12[0]? = some (.ref tp) := by rw [eF12, List.getElem?_set_ne (by decide)]; exact K0_F8
  have K1_F12 : F12[1]? = some (.int 3) := by rw [eF12]; exact List.getElem?_set_self (by rw [L_F8]; decide)
  have L_F12 : F12.length = 18 := by rw [eF12, List.length_set]; exact L_F8
  have hP : va_P (dC, dI) cls [(q, .inr (11, F12)), (tp, .inl (cT, 2000, .inl f11))] H := hP
  have hD : va_D A [(q, .inr (11, F12)), (tp, .inl (cT, 2000, .inl f11))] := hD
  refine lv_iinc (v := 0) (lv' := [(2, .int 0), (0, .ref q), (1, .int p0)]) hx hb dX11_feedNumber_40 hl (k := 0) rfl (by decide) (by decide) rfl (fun ls hl => ?_)
  refine lv_goto (tgt := 3) hx hb dX11_feedNumber_43 (by decide) ?_
  refine lv_iload_n hx hb dX11_feedNumber_3 rfl (lv_at hl 0 rfl) ?_
  refine lv_if_lt (tgt := 46) hx hb dX11_feedNumber_4 (by decide) (fun c0 => absurd c0 (by decide)) (fun _ => ?_)
  refine lv_aload_n hx hb dX11_feedNumber_7 rfl (lv_at hl 1 rfl) ?_
  refine va_get (D := (dC, dI)) (ci := 11) (v := .int 3) (C := RX11) (T := TX11) (N := 18) hx hb ht uX11 hown hK hP 0 rfl rfl 1 (by decide) (ht _ k_4_92) (fun _ h9 => h9) K1_F12 dX11_feedNumber_8 ?_
  refine lv_sipush (v := 2000) hx hb dX11_feedNumber_11 (by decide) ?_
  refine lv_icmp_ge (tgt := 46) hx hb dX11_feedNumber_14 (by decide) (fun c0 => absurd c0 (by decide)) (fun _ => ?_)
  refine lv_aload_n hx hb dX11_feedNumber_17 rfl (lv_at hl 1 rfl) ?_
  refine va_get (D := (dC, dI)) (ci := 11) (v := .ref tp) (C := RX11) (T := TX11) (N := 18) hx hb ht uX11 hown hK hP 0 rfl rfl 0 (by decide) (ht _ k_4_91) (fun _ h9 => h9) K0_F12 dX11_feedNumber_18 ?_
  refine lv_aload_n hx hb dX11_feedNumber_21 rfl (lv_at hl 1 rfl) ?_
  refine va_get (D := (dC, dI)) (ci := 11) (v := .int 3) (C := RX11) (T := TX11) (N := 18) hx hb ht uX11 hown hK hP 0 rfl rfl 1 (by decide) (ht _ k_4_92) (fun _ h9 => h9) K1_F12 dX11_feedNumber_22 ?_
  refine lv_iload_n hx hb dX11_feedNumber_25 rfl (lv_at hl 2 rfl) ?_
  refine lv_iload_n hx hb dX11_feedNumber_26 rfl (lv_at hl 0 rfl) ?_
  refine lv_iushr hx hb dX11_feedNumber_27 rfl ?_
  refine lv_topi (fun x13 ex13 => ?_)
  refine lv_i2b hx hb dX11_feedNumber_28 rfl ?_
  refine lv_topi (fun x14 ex14 => ?_)
  refine va_bast (i := 3) (x := x14) hx hb hK hP hD hS 1 0 rfl rfl (by unfold vp_in; decide) dX11_feedNumber_29 (fun H locs hP hD hS => ?_)
  obtain ⟨f15, ef15⟩ : ∃ g : Nat → Int32, g = upd f11 (3 : Int32).toNatClampNeg (vp_nar .byte x14) := ⟨_, rfl⟩
  rw [← ef15] at hP hD
  have hP : va_P (dC, dI) cls [(q, .inr (11, F12)), (tp, .inl (cT, 2000, .inl f15))] H := hP
  have hD : va_D A [(q, .inr (11, F12)), (tp, .inl (cT, 2000, .inl f15))] := hD
  refine lv_aload_n hx hb dX11_feedNumber_30 rfl (lv_at hl 1 rfl) ?_
  refine lv_dup hx hb dX11_feedNumber_31 rfl ?_
  refine va_get (D := (dC, dI)) (ci := 11) (v := .int 3) (C := RX11) (T := TX11) (N := 18) hx hb ht uX11 hown hK hP 0 rfl rfl 1 (by decide) (ht _ k_4_92) (fun _ h9 => h9) K1_F12 dX11_feedNumber_32 ?_
  refine lv_iconst (v := 1) hx hb dX11_feedNumber_35 (by decide) ?_
  refine lv_iadd hx hb dX11_feedNumber_36 ?_
  refine tk_i (y := 4) (by decide) ?_
  refine va_put (D := (dC, dI)) (ci := 11) (v := .int 4) (ty := .int) (C := RX11) (T := TX11) (N := 18) hx hb ht uX11 tyX11 tkX11 nmX11 hown hK hP hD hS 0 rfl rfl 1 (by decide) (ht _ k_4_92) (fun _ h9 => h9) rfl (by decide +kernel) rfl rfl (by rw [L_F12]; decide) dX11_feedNumber_37 (fun H locs hP hD hS => ?_)
  obtain ⟨F16, eF16⟩ : ∃ g : List Value, g = F12.set 1 (.int 4) := ⟨_, rfl⟩
  rw [← eF16] at hP hD
  have K0_F16 : F16[0]? = some (.ref tp) := by rw [eF16, List.getElem?_set_ne (by decide)]; exact K0_F12
  have K1_F16 : F16[1]? = some (.int 4) := by rw [eF16]; exact List.getElem?_set_self (by rw [L_F12]; decide)
  have L_F16 : F16.length = 18 := by rw [eF16, List.length_set]; exact L_F12
  have hP : va_P (dC, dI) cls [(q, .inr (11, F16)), (tp, .inl (cT, 2000, .inl f15))] H := hP
  have hD : va_D A [(q, .inr (11, F16)), (tp, .inl (cT, 2000, .inl f15))] := hD
  refine lv_iinc (v := (-8)) (lv' := [(2, .int (-8)), (0, .ref q), (1, .int p0)]) hx hb dX11_feedNumber_40 hl (k := 0) rfl (by decide) (by decide) rfl (fun ls hl => ?_)
  refine lv_goto (tgt := 3) hx hb dX11_feedNumber_43 (by decide) ?_
  refine lv_iload_n hx hb dX11_feedNumber_3 rfl (lv_at hl 0 rfl) ?_
  refine lv_if_lt (tgt := 46) hx hb dX11_feedNumber_4 (by decide) (fun _ => ?_) (fun c0 => absurd c0 (by decide))
  exact W.vret hx hb hr (fun t ht9 hW => ⟨⟨(F16, f15), rfl, ⟨trivial, L_F16, K0_F16, K1_F16⟩, by rw [ht9]; exact hP.sub [0, 1] rfl, va_K.moved hW.alike (hK.sub [0] rfl), hD.sub [0, 1] (by decide) rfl⟩, hS.F ht9⟩) hS.2.2 dX11_feedNumber_46
set_option maxHeartbeats 4000000 in
set_option maxRecDepth 100000 in
theorem x_feedNumber_4 (l : Launch) (dC : Nat → ClassId) (dI : Nat → Nat → Nat) (sz : Nat) (q : Nat) (fs : List Value) (tp : Nat) (cT : ClassId) (ft : Nat → Int32) (p0 : Int32) (L_fs : fs.length = 18) (K0_fs : fs[0]? = some (.ref tp)) (K1_fs : fs[1]? = some (.int 4)) : Met l yX11_feedNumber (Cond.code yX11_feedNumber cX11_feedNumber 3 none :: tb) ({ frames := 0, cells := 0, slots := 0, locals := 0 }) (pcw [.ref q, .int p0] (dC, dI) [(q, .inr (11, fs)), (tp, .inl (cT, 2000, .inl ft))] [(cT, .byte)] sz) (va_Qv (fun (u : (List Value) × (Nat → Int32)) => match u with | (fs1, ft1) => (True) ∧ (fs1.length = 18) ∧ (fs1[0]? = some (.ref tp)) ∧ (fs1[1]? = some (.int 8))) (bw (dC, dI) (va_A [(q, .inr (11, fs)), (tp, .inl (cT, 2000, .inl ft))] sz) (fun (u : (List Value) × (Nat → Int32)) => match u with | (fs1, ft1) => [(q, .inr (11, fs1)), (tp, .inl (cT, 2000, .inl ft1))]) (fun (u : (List Value) × (Nat → Int32)) => match u with | (fs1, ft1) => [(cT, .byte)])) (va_A [(q, .inr (11, fs)), (tp, .inl (cT, 2000, .inl ft))] sz)) 0 0 (va_A [(q, .inr (11, fs)), (tp, .inl (cT, 2000, .inl ft))] sz) := by
  refine Met.ofW (cc := cX11_feedNumber) (maxL := 3) (ret := none) (by decide) rfl ?_
  intro p e s m args below meth c s₁ B hml hv
  obtain ⟨rfl, hsz, hP, hK, hD0⟩ := hv
  have hx := B.exec
  have hb := B.bytes
  have hr := B.returns
  have hts := atoms_spec (ws := Cond.code yX11_feedNumber cX11_feedNumber 3 none :: tb) B.pre
  have ht : ∀ w ∈ tb, w.before _ s = true := fun w h => hts w (List.mem_cons_of_mem _ h)
  have hown : s.vm.findClass RX11 = some m.cls := findClass_of_methodNamed B.named
  have hlocks := B.notSynchronized
  subst hsz
  have hD := hD0.self (sz := s.heap.size)
  generalize hAe : va_A [(q, .inr (11, fs)), (tp, .inl (cT, 2000, .inl ft))] s.heap.size = A at hD ⊢
  have hA : ∀ q : Nat, s.heap.size ≤ q → A q := fun q h => by rw [← hAe]; exact Or.inr h
  have hS : va_S A s.heap s.heap [] := va_S.rf
  have hl := lv_entry ([.ref q, .int p0]) (n := 3) (Nat.le_of_ble_eq_true rfl)
  rw [lg_entry_eq]
  generalize (lg_sl ([.ref q, .int p0]) ++ List.replicate (3 - (lg_sl ([.ref q, .int p0])).length) Slot.unset).toArray = ls at hl ⊢
  have hl : lv_has ls 3 [(0, .ref q), (1, .int p0)] := hl
  have hP : va_P (dC, dI) cls [(q, .inr (11, fs)), (tp, .inl (cT, 2000, .inl ft))] s.heap := hP
  refine lv_bipush (v := 24) hx hb dX11_feedNumber_0 (by decide) ?_
  refine lv_istore_n (lv' := [(2, .int 24), (0, .ref q), (1, .int p0)]) hx hb dX11_feedNumber_2 rfl hl (by decide) rfl (fun ls hl => ?_)
  refine lv_iload_n hx hb dX11_feedNumber_3 rfl (lv_at hl 0 rfl) ?_
  refine lv_if_lt (tgt := 46) hx hb dX11_feedNumber_4 (by decide) (fun c0 => absurd c0 (by decide)) (fun _ => ?_)
  refine lv_aload_n hx hb dX11_feedNumber_7 rfl (lv_at hl 1 rfl) ?_
  refine va_get (D := (dC, dI)) (ci := 11) (v := .int 4) (C := RX11) (T := TX11) (N := 18) hx hb ht uX11 hown hK hP 0 rfl rfl 1 (by decide) (ht _ k_4_92) (fun _ h9 => h9) K1_fs dX11_feedNumber_8 ?_
  refine lv_sipush (v := 2000) hx hb dX11_feedNumber_11 (by decide) ?_
  refine lv_icmp_ge (tgt := 46) hx hb dX11_feedNumber_14 (by decide) (fun c0 => absurd c0 (by decide)) (fun _ => ?_)
  refine lv_aload_n hx hb dX11_feedNumber_17 rfl (lv_at hl 1 rfl) ?_
  refine va_get (D := (dC, dI)) (ci := 11) (v := .ref tp) (C := RX11) (T := TX11) (N := 18) hx hb ht uX11 hown hK hP 0 rfl rfl 0 (by decide) (ht _ k_4_91) (fun _ h9 => h9) K0_fs dX11_feedNumber_18 ?_
  refine lv_aload_n hx hb dX11_feedNumber_21 rfl (lv_at hl 1 rfl) ?_
  refine va_get (D := (dC, dI)) (ci := 11) (v := .int 4) (C := RX11) (T := TX11) (N := 18) hx hb ht uX11 hown hK hP 0 rfl rfl 1 (by decide) (ht _ k_4_92) (fun _ h9 => h9) K1_fs dX11_feedNumber_22 ?_
  refine lv_iload_n hx hb dX11_feedNumber_25 rfl (lv_at hl 2 rfl) ?_
  refine lv_iload_n hx hb dX11_feedNumber_26 rfl (lv_at hl 0 rfl) ?_
  refine lv_iushr hx hb dX11_feedNumber_27 rfl ?_
  refine lv_topi (fun x1 ex1 => ?_)
  refine lv_i2b hx hb dX11_feedNumber_28 rfl ?_
  refine lv_topi (fun x2 ex2 => ?_)
  refine va_bast (i := 4) (x := x2) hx hb hK hP hD hS 1 0 rfl rfl (by unfold vp_in; decide) dX11_feedNumber_29 (fun H locs hP hD hS => ?_)
  obtain ⟨f3, ef3⟩ : ∃ g : Nat → Int32, g = upd ft (4 : Int32).toNatClampNeg (vp_nar .byte x2) := ⟨_, rfl⟩
  rw [← ef3] at hP hD
  have hP : va_P (dC, dI) cls [(q, .inr (11, fs)), (tp, .inl (cT, 2000, .inl f3))] H := hP
  have hD : va_D A [(q, .inr (11, fs)), (tp, .inl (cT, 2000, .inl f3))] := hD
  refine lv_aload_n hx hb dX11_feedNumber_30 rfl (lv_at hl 1 rfl) ?_
  refine lv_dup hx hb dX11_feedNumber_31 rfl ?_
  refine va_get (D := (dC, dI)) (ci := 11) (v := .int 4) (C := RX11) (T := TX11) (N := 18) hx hb ht uX11 hown hK hP 0 rfl rfl 1 (by decide) (ht _ k_4_92) (fun _ h9 => h9) K1_fs dX11_feedNumber_32 ?_
  refine lv_iconst (v := 1) hx hb dX11_feedNumber_35 (by decide) ?_
  refine lv_iadd hx hb dX11_feedNumber_36 ?_
  refine tk_i (y := 5) (by decide) ?_
  refine va_put (D := (dC, dI)) (ci := 11) (v := .int 5) (ty := .int) (C := RX11) (T := TX11) (N := 18) hx hb ht uX11 tyX11 tkX11 nmX11 hown hK hP hD hS 0 rfl rfl 1 (by decide) (ht _ k_4_92) (fun _ h9 => h9) rfl (by decide +kernel) rfl rfl (by rw [L_fs]; decide) dX11_feedNumber_37 (fun H locs hP hD hS => ?_)
  obtain ⟨F4, eF4⟩ : ∃ g : List Value, g = fs.set 1 (.int 5) := ⟨_, rfl⟩
  rw [← eF4] at hP hD
  have K0_F4 : F4[0]? = some (.ref tp) := by rw [eF4, List.getElem?_set_ne (by decide)]; exact K0_fs
  have K1_F4 : F4[1]? = some (.int 5) := by rw [eF4]; exact List.getElem?_set_self (by rw [L_fs]; decide)
  have L_F4 : F4.length = 18 := by rw [eF4, List.length_set]; exact L_fs
  have hP : va_P (dC, dI) cls [(q, .inr (11, F4)), (tp, .inl (cT, 2000, .inl f3))] H := hP
  have hD : va_D A [(q, .inr (11, F4)), (tp, .inl (cT, 2000, .inl f3))] := hD
  refine lv_iinc (v := 16) (lv' := [(2, .int 16), (0, .ref q), (1, .int p0)]) hx hb dX11_feedNumber_40 hl (k := 0) rfl (by decide) (by decide) rfl (fun ls hl => ?_)
  refine lv_goto (tgt := 3) hx hb dX11_feedNumber_43 (by decide) ?_
  refine lv_iload_n hx hb dX11_feedNumber_3 rfl (lv_at hl 0 rfl) ?_
  refine lv_if_lt (tgt := 46) hx hb dX11_feedNumber_4 (by decide) (fun c0 => absurd c0 (by decide)) (fun _ => ?_)
  refine lv_aload_n hx hb dX11_feedNumber_7 rfl (lv_at hl 1 rfl) ?_
  refine va_get (D := (dC, dI)) (ci := 11) (v := .int 5) (C := RX11) (T := TX11) (N := 18) hx hb ht uX11 hown hK hP 0 rfl rfl 1 (by decide) (ht _ k_4_92) (fun _ h9 => h9) K1_F4 dX11_feedNumber_8 ?_
  refine lv_sipush (v := 2000) hx hb dX11_feedNumber_11 (by decide) ?_
  refine lv_icmp_ge (tgt := 46) hx hb dX11_feedNumber_14 (by decide) (fun c0 => absurd c0 (by decide)) (fun _ => ?_)
  refine lv_aload_n hx hb dX11_feedNumber_17 rfl (lv_at hl 1 rfl) ?_
  refine va_get (D := (dC, dI)) (ci := 11) (v := .ref tp) (C := RX11) (T := TX11) (N := 18) hx hb ht uX11 hown hK hP 0 rfl rfl 0 (by decide) (ht _ k_4_91) (fun _ h9 => h9) K0_F4 dX11_feedNumber_18 ?_
  refine lv_aload_n hx hb dX11_feedNumber_21 rfl (lv_at hl 1 rfl) ?_
  refine va_get (D := (dC, dI)) (ci := 11) (v := .int 5) (C := RX11) (T := TX11) (N := 18) hx hb ht uX11 hown hK hP 0 rfl rfl 1 (by decide) (ht _ k_4_92) (fun _ h9 => h9) K1_F4 dX11_feedNumber_22 ?_
  refine lv_iload_n hx hb dX11_feedNumber_25 rfl (lv_at hl 2 rfl) ?_
  refine lv_iload_n hx hb dX11_feedNumber_26 rfl (lv_at hl 0 rfl) ?_
  refine lv_iushr hx hb dX11_feedNumber_27 rfl ?_
  refine lv_topi (fun x5 ex5 => ?_)
  refine lv_i2b hx hb dX11_feedNumber_28 rfl ?_
  refine lv_topi (fun x6 ex6 => ?_)
  refine va_bast (i := 5) (x := x6) hx hb hK hP hD hS 1 0 rfl rfl (by unfold vp_in; decide) dX11_feedNumber_29 (fun H locs hP hD hS => ?_)
  obtain ⟨f7, ef7⟩ : ∃ g : Nat → Int32, g = upd f3 (5 : Int32).toNatClampNeg (vp_nar .byte x6) := ⟨_, rfl⟩
  rw [← ef7] at hP hD
  have hP : va_P (dC, dI) cls [(q, .inr (11, F4)), (tp, .inl (cT, 2000, .inl f7))] H := hP
  have hD : va_D A [(q, .inr (11, F4)), (tp, .inl (cT, 2000, .inl f7))] := hD
  refine lv_aload_n hx hb dX11_feedNumber_30 rfl (lv_at hl 1 rfl) ?_
  refine lv_dup hx hb dX11_feedNumber_31 rfl ?_
  refine va_get (D := (dC, dI)) (ci := 11) (v := .int 5) (C := RX11) (T := TX11) (N := 18) hx hb ht uX11 hown hK hP 0 rfl rfl 1 (by decide) (ht _ k_4_92) (fun _ h9 => h9) K1_F4 dX11_feedNumber_32 ?_
  refine lv_iconst (v := 1) hx hb dX11_feedNumber_35 (by decide) ?_
  refine lv_iadd hx hb dX11_feedNumber_36 ?_
  refine tk_i (y := 6) (by decide) ?_
  refine va_put (D := (dC, dI)) (ci := 11) (v := .int 6) (ty := .int) (C := RX11) (T := TX11) (N := 18) hx hb ht uX11 tyX11 tkX11 nmX11 hown hK hP hD hS 0 rfl rfl 1 (by decide) (ht _ k_4_92) (fun _ h9 => h9) rfl (by decide +kernel) rfl rfl (by rw [L_F4]; decide) dX11_feedNumber_37 (fun H locs hP hD hS => ?_)
  obtain ⟨F8, eF8⟩ : ∃ g : List Value, g = F4.set 1 (.int 6) := ⟨_, rfl⟩
  rw [← eF8] at hP hD
  have K0_F8 : F8[0]? = some (.ref tp) := by rw [eF8, List.getElem?_set_ne (by decide)]; exact K0_F4
  have K1_F8 : F8[1]? = some (.int 6) := by rw [eF8]; exact List.getElem?_set_self (by rw [L_F4]; decide)
  have L_F8 : F8.length = 18 := by rw [eF8, List.length_set]; exact L_F4
  have hP : va_P (dC, dI) cls [(q, .inr (11, F8)), (tp, .inl (cT, 2000, .inl f7))] H := hP
  have hD : va_D A [(q, .inr (11, F8)), (tp, .inl (cT, 2000, .inl f7))] := hD
  refine lv_iinc (v := 8) (lv' := [(2, .int 8), (0, .ref q), (1, .int p0)]) hx hb dX11_feedNumber_40 hl (k := 0) rfl (by decide) (by decide) rfl (fun ls hl => ?_)
  refine lv_goto (tgt := 3) hx hb dX11_feedNumber_43 (by decide) ?_
  refine lv_iload_n hx hb dX11_feedNumber_3 rfl (lv_at hl 0 rfl) ?_
  refine lv_if_lt (tgt := 46) hx hb dX11_feedNumber_4 (by decide) (fun c0 => absurd c0 (by decide)) (fun _ => ?_)
  refine lv_aload_n hx hb dX11_feedNumber_7 rfl (lv_at hl 1 rfl) ?_
  refine va_get (D := (dC, dI)) (ci := 11) (v := .int 6) (C := RX11) (T := TX11) (N := 18) hx hb ht uX11 hown hK hP 0 rfl rfl 1 (by decide) (ht _ k_4_92) (fun _ h9 => h9) K1_F8 dX11_feedNumber_8 ?_
  refine lv_sipush (v := 2000) hx hb dX11_feedNumber_11 (by decide) ?_
  refine lv_icmp_ge (tgt := 46) hx hb dX11_feedNumber_14 (by decide) (fun c0 => absurd c0 (by decide)) (fun _ => ?_)
  refine lv_aload_n hx hb dX11_feedNumber_17 rfl (lv_at hl 1 rfl) ?_
  refine va_get (D := (dC, dI)) (ci := 11) (v := .ref tp) (C := RX11) (T := TX11) (N := 18) hx hb ht uX11 hown hK hP 0 rfl rfl 0 (by decide) (ht _ k_4_91) (fun _ h9 => h9) K0_F8 dX11_feedNumber_18 ?_
  refine lv_aload_n hx hb dX11_feedNumber_21 rfl (lv_at hl 1 rfl) ?_
  refine va_get (D := (dC, dI)) (ci := 11) (v := .int 6) (C := RX11) (T := TX11) (N := 18) hx hb ht uX11 hown hK hP 0 rfl rfl 1 (by decide) (ht _ k_4_92) (fun _ h9 => h9) K1_F8 dX11_feedNumber_22 ?_
  refine lv_iload_n hx hb dX11_feedNumber_25 rfl (lv_at hl 2 rfl) ?_
  refine lv_iload_n hx hb dX11_feedNumber_26 rfl (lv_at hl 0 rfl) ?_
  refine lv_iushr hx hb dX11_feedNumber_27 rfl ?_
  refine lv_topi (fun x9 ex9 => ?_)
  refine lv_i2b hx hb dX11_feedNumber_28 rfl ?_
  refine lv_topi (fun x10 ex10 => ?_)
  refine va_bast (i := 6) (x := x10) hx hb hK hP hD hS 1 0 rfl rfl (by unfold vp_in; decide) dX11_feedNumber_29 (fun H locs hP hD hS => ?_)
  obtain ⟨f11, ef11⟩ : ∃ g : Nat → Int32, g = upd f7 (6 : Int32).toNatClampNeg (vp_nar .byte x10) := ⟨_, rfl⟩
  rw [← ef11] at hP hD
  have hP : va_P (dC, dI) cls [(q, .inr (11, F8)), (tp, .inl (cT, 2000, .inl f11))] H := hP
  have hD : va_D A [(q, .inr (11, F8)), (tp, .inl (cT, 2000, .inl f11))] := hD
  refine lv_aload_n hx hb dX11_feedNumber_30 rfl (lv_at hl 1 rfl) ?_
  refine lv_dup hx hb dX11_feedNumber_31 rfl ?_
  refine va_get (D := (dC, dI)) (ci := 11) (v := .int 6) (C := RX11) (T := TX11) (N := 18) hx hb ht uX11 hown hK hP 0 rfl rfl 1 (by decide) (ht _ k_4_92) (fun _ h9 => h9) K1_F8 dX11_feedNumber_32 ?_
  refine lv_iconst (v := 1) hx hb dX11_feedNumber_35 (by decide) ?_
  refine lv_iadd hx hb dX11_feedNumber_36 ?_
  refine tk_i (y := 7) (by decide) ?_
  refine va_put (D := (dC, dI)) (ci := 11) (v := .int 7) (ty := .int) (C := RX11) (T := TX11) (N := 18) hx hb ht uX11 tyX11 tkX11 nmX11 hown hK hP hD hS 0 rfl rfl 1 (by decide) (ht _ k_4_92) (fun _ h9 => h9) rfl (by decide +kernel) rfl rfl (by rw [L_F8]; decide) dX11_feedNumber_37 (fun H locs hP hD hS => ?_)
  obtain ⟨F12, eF12⟩ : ∃ g : List Value, g = F8.set 1 (.int 7) := ⟨_, rfl⟩
  rw [← eF12] at hP hD
  have K0_F12 : F12[0]? = some (.ref tp) := by rw [eF12, List.getElem?_set_ne (by decide)]; exact K0_F8
  have K1_F12 : F12[1]? = some (.int 7) := by rw [eF12]; exact List.getElem?_set_self (by rw [L_F8]; decide)
  have L_F12 : F12.length = 18 := by rw [eF12, List.length_set]; exact L_F8
  have hP : va_P (dC, dI) cls [(q, .inr (11, F12)), (tp, .inl (cT, 2000, .inl f11))] H := hP
  have hD : va_D A [(q, .inr (11, F12)), (tp, .inl (cT, 2000, .inl f11))] := hD
  refine lv_iinc (v := 0) (lv' := [(2, .int 0), (0, .ref q), (1, .int p0)]) hx hb dX11_feedNumber_40 hl (k := 0) rfl (by decide) (by decide) rfl (fun ls hl => ?_)
  refine lv_goto (tgt := 3) hx hb dX11_feedNumber_43 (by decide) ?_
  refine lv_iload_n hx hb dX11_feedNumber_3 rfl (lv_at hl 0 rfl) ?_
  refine lv_if_lt (tgt := 46) hx hb dX11_feedNumber_4 (by decide) (fun c0 => absurd c0 (by decide)) (fun _ => ?_)
  refine lv_aload_n hx hb dX11_feedNumber_7 rfl (lv_at hl 1 rfl) ?_
  refine va_get (D := (dC, dI)) (ci := 11) (v := .int 7) (C := RX11) (T := TX11) (N := 18) hx hb ht uX11 hown hK hP 0 rfl rfl 1 (by decide) (ht _ k_4_92) (fun _ h9 => h9) K1_F12 dX11_feedNumber_8 ?_
  refine lv_sipush (v := 2000) hx hb dX11_feedNumber_11 (by decide) ?_
  refine lv_icmp_ge (tgt := 46) hx hb dX11_feedNumber_14 (by decide) (fun c0 => absurd c0 (by decide)) (fun _ => ?_)
  refine lv_aload_n hx hb dX11_feedNumber_17 rfl (lv_at hl 1 rfl) ?_
  refine va_get (D := (dC, dI)) (ci := 11) (v := .ref tp) (C := RX11) (T := TX11) (N := 18) hx hb ht uX11 hown hK hP 0 rfl rfl 0 (by decide) (ht _ k_4_91) (fun _ h9 => h9) K0_F12 dX11_feedNumber_18 ?_
  refine lv_aload_n hx hb dX11_feedNumber_21 rfl (lv_at hl 1 rfl) ?_
  refine va_get (D := (dC, dI)) (ci := 11) (v := .int 7) (C := RX11) (T := TX11) (N := 18) hx hb ht uX11 hown hK hP 0 rfl rfl 1 (by decide) (ht _ k_4_92) (fun _ h9 => h9) K1_F12 dX11_feedNumber_22 ?_
  refine lv_iload_n hx hb dX11_feedNumber_25 rfl (lv_at hl 2 rfl) ?_
  refine lv_iload_n hx hb dX11_feedNumber_26 rfl (lv_at hl 0 rfl) ?_
  refine lv_iushr hx hb dX11_feedNumber_27 rfl ?_
  refine lv_topi (fun x13 ex13 => ?_)
  refine lv_i2b hx hb dX11_feedNumber_28 rfl ?_
  refine lv_topi (fun x14 ex14 => ?_)
  refine va_bast (i := 7) (x := x14) hx hb hK hP hD hS 1 0 rfl rfl (by unfold vp_in; decide) dX11_feedNumber_29 (fun H locs hP hD hS => ?_)
  obtain ⟨f15, ef15⟩ : ∃ g : Nat → Int32, g = upd f11 (7 : Int32).toNatClampNeg (vp_nar .byte x14) := ⟨_, rfl⟩
  rw [← ef15] at hP hD
  have hP : va_P (dC, dI) cls [(q, .inr (11, F12)), (tp, .inl (cT, 2000, .inl f15))] H := hP
  have hD : va_D A [(q, .inr (11, F12)), (tp, .inl (cT, 2000, .inl f15))] := hD
  refine lv_aload_n hx hb dX11_feedNumber_30 rfl (lv_at hl 1 rfl) ?_
  refine lv_dup hx hb dX11_feedNumber_31 rfl ?_
  refine va_get (D := (dC, dI)) (ci := 11) (v := .int 7) (C := RX11) (T := TX11) (N := 18) hx hb ht uX11 hown hK hP 0 rfl rfl 1 (by decide) (ht _ k_4_92) (fun _ h9 => h9) K1_F12 dX11_feedNumber_32 ?_
  refine lv_iconst (v := 1) hx hb dX11_feedNumber_35 (by decide) ?_
  refine lv_iadd hx hb dX11_feedNumber_36 ?_
  refine tk_i (y := 8) (by decide) ?_
  refine va_put (D := (dC, dI)) (ci := 11) (v := .int 8) (ty := .int) (C := RX11) (T := TX11) (N := 18) hx hb ht uX11 tyX11 tkX11 nmX11 hown hK hP hD hS 0 rfl rfl 1 (by decide) (ht _ k_4_92) (fun _ h9 => h9) rfl (by decide +kernel) rfl rfl (by rw [L_F12]; decide) dX11_feedNumber_37 (fun H locs hP hD hS => ?_)
  obtain ⟨F16, eF16⟩ : ∃ g : List Value, g = F12.set 1 (.int 8) := ⟨_, rfl⟩
  rw [← eF16] at hP hD
  have K0_F16 : F16[0]? = some (.ref tp) := by rw [eF16, List.getElem?_set_ne (by decide)]; exact K0_F12
  have K1_F16 : F16[1]? = some (.int 8) := by rw [eF16]; exact List.getElem?_set_self (by rw [L_F12]; decide)
  have L_F16 : F16.length = 18 := by rw [eF16, List.length_set]; exact L_F12
  have hP : va_P (dC, dI) cls [(q, .inr (11, F16)), (tp, .inl (cT, 2000, .inl f15))] H := hP
  have hD : va_D A [(q, .inr (11, F16)), (tp, .inl (cT, 2000, .inl f15))] := hD
  refine lv_iinc (v := (-8)) (lv' := [(2, .int (-8)), (0, .ref q), (1, .int p0)]) hx hb dX11_feedNumber_40 hl (k := 0) rfl (by decide) (by decide) rfl (fun ls hl => ?_)
  refine lv_goto (tgt := 3) hx hb dX11_feedNumber_43 (by decide) ?_
  refine lv_iload_n hx hb dX11_feedNumber_3 rfl (lv_at hl 0 rfl) ?_
  refine lv_if_lt (tgt := 46) hx hb dX11_feedNumber_4 (by decide) (fun _ => ?_) (fun c0 => absurd c0 (by decide))
  exact W.vret hx hb hr (fun t ht9 hW => ⟨⟨(F16, f15), rfl, ⟨trivial, L_F16, K0_F16, K1_F16⟩, by rw [ht9]; exact hP.sub [0, 1] rfl, va_K.moved hW.alike (hK.sub [0] rfl), hD.sub [0, 1] (by decide) rfl⟩, hS.F ht9⟩) hS.2.2 dX11_feedNumber_46
set_option maxHeartbeats 4000000 in
set_option maxRecDepth 100000 in
theorem x_feedNumber_8 (l : Launch) (dC : Nat → ClassId) (dI : Nat → Nat → Nat) (sz : Nat) (q : Nat) (fs : List Value) (tp : Nat) (cT : ClassId) (ft : Nat → Int32) (p0 : Int32) (L_fs : fs.length = 18) (K0_fs : fs[0]? = some (.ref tp)) (K1_fs : fs[1]? = some (.int 8)) : Met l yX11_feedNumber (Cond.code yX11_feedNumber cX11_feedNumber 3 none :: tb) ({ frames := 0, cells := 0, slots := 0, locals := 0 }) (pcw [.ref q, .int p0] (dC, dI) [(q, .inr (11, fs)), (tp, .inl (cT, 2000, .inl ft))] [(cT, .byte)] sz) (va_Qv (fun (u : (List Value) × (Nat → Int32)) => match u with | (fs1, ft1) => (True) ∧ (fs1.length = 18) ∧ (fs1[0]? = some (.ref tp)) ∧ (fs1[1]? = some (.int 12))) (bw (dC, dI) (va_A [(q, .inr (11, fs)), (tp, .inl (cT, 2000, .inl ft))] sz) (fun (u : (List Value) × (Nat → Int32)) => match u with | (fs1, ft1) => [(q, .inr (11, fs1)), (tp, .inl (cT, 2000, .inl ft1))]) (fun (u : (List Value) × (Nat → Int32)) => match u with | (fs1, ft1) => [(cT, .byte)])) (va_A [(q, .inr (11, fs)), (tp, .inl (cT, 2000, .inl ft))] sz)) 0 0 (va_A [(q, .inr (11, fs)), (tp, .inl (cT, 2000, .inl ft))] sz) := by
  refine Met.ofW (cc := cX11_feedNumber) (maxL := 3) (ret := none) (by decide) rfl ?_
  intro p e s m args below meth c s₁ B hml hv
  obtain ⟨rfl, hsz, hP, hK, hD0⟩ := hv
  have hx := B.exec
  have hb := B.bytes
  have hr := B.returns
  have hts := atoms_spec (ws := Cond.code yX11_feedNumber cX11_feedNumber 3 none :: tb) B.pre
  have ht : ∀ w ∈ tb, w.before _ s = true := fun w h => hts w (List.mem_cons_of_mem _ h)
  have hown : s.vm.findClass RX11 = some m.cls := findClass_of_methodNamed B.named
  have hlocks := B.notSynchronized
  subst hsz
  have hD := hD0.self (sz := s.heap.size)
  generalize hAe : va_A [(q, .inr (11, fs)), (tp, .inl (cT, 2000, .inl ft))] s.heap.size = A at hD ⊢
  have hA : ∀ q : Nat, s.heap.size ≤ q → A q := fun q h => by rw [← hAe]; exact Or.inr h
  have hS : va_S A s.heap s.heap [] := va_S.rf
  have hl := lv_entry ([.ref q, .int p0]) (n := 3) (Nat.le_of_ble_eq_true rfl)
  rw [lg_entry_eq]
  generalize (lg_sl ([.ref q, .int p0]) ++ List.replicate (3 - (lg_sl ([.ref q, .int p0])).length) Slot.unset).toArray = ls at hl ⊢
  have hl : lv_has ls 3 [(0, .ref q), (1, .int p0)] := hl
  have hP : va_P (dC, dI) cls [(q, .inr (11, fs)), (tp, .inl (cT, 2000, .inl ft))] s.heap := hP
  refine lv_bipush (v := 24) hx hb dX11_feedNumber_0 (by decide) ?_
  refine lv_istore_n (lv' := [(2, .int 24), (0, .ref q), (1, .int p0)]) hx hb dX11_feedNumber_2 rfl hl (by decide) rfl (fun ls hl => ?_)
  refine lv_iload_n hx hb dX11_feedNumber_3 rfl (lv_at hl 0 rfl) ?_
  refine lv_if_lt (tgt := 46) hx hb dX11_feedNumber_4 (by decide) (fun c0 => absurd c0 (by decide)) (fun _ => ?_)
  refine lv_aload_n hx hb dX11_feedNumber_7 rfl (lv_at hl 1 rfl) ?_
  refine va_get (D := (dC, dI)) (ci := 11) (v := .int 8) (C := RX11) (T := TX11) (N := 18) hx hb ht uX11 hown hK hP 0 rfl rfl 1 (by decide) (ht _ k_4_92) (fun _ h9 => h9) K1_fs dX11_feedNumber_8 ?_
  refine lv_sipush (v := 2000) hx hb dX11_feedNumber_11 (by decide) ?_
  refine lv_icmp_ge (tgt := 46) hx hb dX11_feedNumber_14 (by decide) (fun c0 => absurd c0 (by decide)) (fun _ => ?_)
  refine lv_aload_n hx hb dX11_feedNumber_17 rfl (lv_at hl 1 rfl) ?_
  refine va_get (D := (dC, dI)) (ci := 11) (v := .ref tp) (C := RX11) (T := TX11) (N := 18) hx hb ht uX11 hown hK hP 0 rfl rfl 0 (by decide) (ht _ k_4_91) (fun _ h9 => h9) K0_fs dX11_feedNumber_18 ?_
  refine lv_aload_n hx hb dX11_feedNumber_21 rfl (lv_at hl 1 rfl) ?_
  refine va_get (D := (dC, dI)) (ci := 11) (v := .int 8) (C := RX11) (T := TX11) (N := 18) hx hb ht uX11 hown hK hP 0 rfl rfl 1 (by decide) (ht _ k_4_92) (fun _ h9 => h9) K1_fs dX11_feedNumber_22 ?_
  refine lv_iload_n hx hb dX11_feedNumber_25 rfl (lv_at hl 2 rfl) ?_
  refine lv_iload_n hx hb dX11_feedNumber_26 rfl (lv_at hl 0 rfl) ?_
  refine lv_iushr hx hb dX11_feedNumber_27 rfl ?_
  refine lv_topi (fun x1 ex1 => ?_)
  refine lv_i2b hx hb dX11_feedNumber_28 rfl ?_
  refine lv_topi (fun x2 ex2 => ?_)
  refine va_bast (i := 8) (x := x2) hx hb hK hP hD hS 1 0 rfl rfl (by unfold vp_in; decide) dX11_feedNumber_29 (fun H locs hP hD hS => ?_)
  obtain ⟨f3, ef3⟩ : ∃ g : Nat → Int32, g = upd ft (8 : Int32).toNatClampNeg (vp_nar .byte x2) := ⟨_, rfl⟩
  rw [← ef3] at hP hD
  have hP : va_P (dC, dI) cls [(q, .inr (11, fs)), (tp, .inl (cT, 2000, .inl f3))] H := hP
  have hD : va_D A [(q, .inr (11, fs)), (tp, .inl (cT, 2000, .inl f3))] := hD
  refine lv_aload_n hx hb dX11_feedNumber_30 rfl (lv_at hl 1 rfl) ?_
  refine lv_dup hx hb dX11_feedNumber_31 rfl ?_
  refine va_get (D := (dC, dI)) (ci := 11) (v := .int 8) (C := RX11) (T := TX11) (N := 18) hx hb ht uX11 hown hK hP 0 rfl rfl 1 (by decide) (ht _ k_4_92) (fun _ h9 => h9) K1_fs dX11_feedNumber_32 ?_
  refine lv_iconst (v := 1) hx hb dX11_feedNumber_35 (by decide) ?_
  refine lv_iadd hx hb dX11_feedNumber_36 ?_
  refine tk_i (y := 9) (by decide) ?_
  refine va_put (D := (dC, dI)) (ci := 11) (v := .int 9) (ty := .int) (C := RX11) (T := TX11) (N := 18) hx hb ht uX11 tyX11 tkX11 nmX11 hown hK hP hD hS 0 rfl rfl 1 (by decide) (ht _ k_4_92) (fun _ h9 => h9) rfl (by decide +kernel) rfl rfl (by rw [L_fs]; decide) dX11_feedNumber_37 (fun H locs hP hD hS => ?_)
  obtain ⟨F4, eF4⟩ : ∃ g : List Value, g = fs.set 1 (.int 9) := ⟨_, rfl⟩
  rw [← eF4] at hP hD
  have K0_F4 : F4[0]? = some (.ref tp) := by rw [eF4, List.getElem?_set_ne (by decide)]; exact K0_fs
  have K1_F4 : F4[1]? = some (.int 9) := by rw [eF4]; exact List.getElem?_set_self (by rw [L_fs]; decide)
  have L_F4 : F4.length = 18 := by rw [eF4, List.length_set]; exact L_fs
  have hP : va_P (dC, dI) cls [(q, .inr (11, F4)), (tp, .inl (cT, 2000, .inl f3))] H := hP
  have hD : va_D A [(q, .inr (11, F4)), (tp, .inl (cT, 2000, .inl f3))] := hD
  refine lv_iinc (v := 16) (lv' := [(2, .int 16), (0, .ref q), (1, .int p0)]) hx hb dX11_feedNumber_40 hl (k := 0) rfl (by decide) (by decide) rfl (fun ls hl => ?_)
  refine lv_goto (tgt := 3) hx hb dX11_feedNumber_43 (by decide) ?_
  refine lv_iload_n hx hb dX11_feedNumber_3 rfl (lv_at hl 0 rfl) ?_
  refine lv_if_lt (tgt := 46) hx hb dX11_feedNumber_4 (by decide) (fun c0 => absurd c0 (by decide)) (fun _ => ?_)
  refine lv_aload_n hx hb dX11_feedNumber_7 rfl (lv_at hl 1 rfl) ?_
  refine va_get (D := (dC, dI)) (ci := 11) (v := .int 9) (C := RX11) (T := TX11) (N := 18) hx hb ht uX11 hown hK hP 0 rfl rfl 1 (by decide) (ht _ k_4_92) (fun _ h9 => h9) K1_F4 dX11_feedNumber_8 ?_
  refine lv_sipush (v := 2000) hx hb dX11_feedNumber_11 (by decide) ?_
  refine lv_icmp_ge (tgt := 46) hx hb dX11_feedNumber_14 (by decide) (fun c0 => absurd c0 (by decide)) (fun _ => ?_)
  refine lv_aload_n hx hb dX11_feedNumber_17 rfl (lv_at hl 1 rfl) ?_
  refine va_get (D := (dC, dI)) (ci := 11) (v := .ref tp) (C := RX11) (T := TX11) (N := 18) hx hb ht uX11 hown hK hP 0 rfl rfl 0 (by decide) (ht _ k_4_91) (fun _ h9 => h9) K0_F4 dX11_feedNumber_18 ?_
  refine lv_aload_n hx hb dX11_feedNumber_21 rfl (lv_at hl 1 rfl) ?_
  refine va_get (D := (dC, dI)) (ci := 11) (v := .int 9) (C := RX11) (T := TX11) (N := 18) hx hb ht uX11 hown hK hP 0 rfl rfl 1 (by decide) (ht _ k_4_92) (fun _ h9 => h9) K1_F4 dX11_feedNumber_22 ?_
  refine lv_iload_n hx hb dX11_feedNumber_25 rfl (lv_at hl 2 rfl) ?_
  refine lv_iload_n hx hb dX11_feedNumber_26 rfl (lv_at hl 0 rfl) ?_
  refine lv_iushr hx hb dX11_feedNumber_27 rfl ?_
  refine lv_topi (fun x5 ex5 => ?_)
  refine lv_i2b hx hb dX11_feedNumber_28 rfl ?_
  refine lv_topi (fun x6 ex6 => ?_)
  refine va_bast (i := 9) (x := x6) hx hb hK hP hD hS 1 0 rfl rfl (by unfold vp_in; decide) dX11_feedNumber_29 (fun H locs hP hD hS => ?_)
  obtain ⟨f7, ef7⟩ : ∃ g : Nat → Int32, g = upd f3 (9 : Int32).toNatClampNeg (vp_nar .byte x6) := ⟨_, rfl⟩
  rw [← ef7] at hP hD
  have hP : va_P (dC, dI) cls [(q, .inr (11, F4)), (tp, .inl (cT, 2000, .inl f7))] H := hP
  have hD : va_D A [(q, .inr (11, F4)), (tp, .inl (cT, 2000, .inl f7))] := hD
  refine lv_aload_n hx hb dX11_feedNumber_30 rfl (lv_at hl 1 rfl) ?_
  refine lv_dup hx hb dX11_feedNumber_31 rfl ?_
  refine va_get (D := (dC, dI)) (ci := 11) (v := .int 9) (C := RX11) (T := TX11) (N := 18) hx hb ht uX11 hown hK hP 0 rfl rfl 1 (by decide) (ht _ k_4_92) (fun _ h9 => h9) K1_F4 dX11_feedNumber_32 ?_
  refine lv_iconst (v := 1) hx hb dX11_feedNumber_35 (by decide) ?_
  refine lv_iadd hx hb dX11_feedNumber_36 ?_
  refine tk_i (y := 10) (by decide) ?_
  refine va_put (D := (dC, dI)) (ci := 11) (v := .int 10) (ty := .int) (C := RX11) (T := TX11) (N := 18) hx hb ht uX11 tyX11 tkX11 nmX11 hown hK hP hD hS 0 rfl rfl 1 (by decide) (ht _ k_4_92) (fun _ h9 => h9) rfl (by decide +kernel) rfl rfl (by rw [L_F4]; decide) dX11_feedNumber_37 (fun H locs hP hD hS => ?_)
  obtain ⟨F8, eF8⟩ : ∃ g : List Value, g = F4.set 1 (.int 10) := ⟨_, rfl⟩
  rw [← eF8] at hP hD
  have K0_F8 : F8[0]? = some (.ref tp) := by rw [eF8, List.getElem?_set_ne (by decide)]; exact K0_F4
  have K1_F8 : F8[1]? = some (.int 10) := by rw [eF8]; exact List.getElem?_set_self (by rw [L_F4]; decide)
  have L_F8 : F8.length = 18 := by rw [eF8, List.length_set]; exact L_F4
  have hP : va_P (dC, dI) cls [(q, .inr (11, F8)), (tp, .inl (cT, 2000, .inl f7))] H := hP
  have hD : va_D A [(q, .inr (11, F8)), (tp, .inl (cT, 2000, .inl f7))] := hD
  refine lv_iinc (v := 8) (lv' := [(2, .int 8), (0, .ref q), (1, .int p0)]) hx hb dX11_feedNumber_40 hl (k := 0) rfl (by decide) (by decide) rfl (fun ls hl => ?_)
  refine lv_goto (tgt := 3) hx hb dX11_feedNumber_43 (by decide) ?_
  refine lv_iload_n hx hb dX11_feedNumber_3 rfl (lv_at hl 0 rfl) ?_
  refine lv_if_lt (tgt := 46) hx hb dX11_feedNumber_4 (by decide) (fun c0 => absurd c0 (by decide)) (fun _ => ?_)
  refine lv_aload_n hx hb dX11_feedNumber_7 rfl (lv_at hl 1 rfl) ?_
  refine va_get (D := (dC, dI)) (ci := 11) (v := .int 10) (C := RX11) (T := TX11) (N := 18) hx hb ht uX11 hown hK hP 0 rfl rfl 1 (by decide) (ht _ k_4_92) (fun _ h9 => h9) K1_F8 dX11_feedNumber_8 ?_
  refine lv_sipush (v := 2000) hx hb dX11_feedNumber_11 (by decide) ?_
  refine lv_icmp_ge (tgt := 46) hx hb dX11_feedNumber_14 (by decide) (fun c0 => absurd c0 (by decide)) (fun _ => ?_)
  refine lv_aload_n hx hb dX11_feedNumber_17 rfl (lv_at hl 1 rfl) ?_
  refine va_get (D := (dC, dI)) (ci := 11) (v := .ref tp) (C := RX11) (T := TX11) (N := 18) hx hb ht uX11 hown hK hP 0 rfl rfl 0 (by decide) (ht _ k_4_91) (fun _ h9 => h9) K0_F8 dX11_feedNumber_18 ?_
  refine lv_aload_n hx hb dX11_feedNumber_21 rfl (lv_at hl 1 rfl) ?_
  refine va_get (D := (dC, dI)) (ci := 11) (v := .int 10) (C := RX11) (T := TX11) (N := 18) hx hb ht uX11 hown hK hP 0 rfl rfl 1 (by decide) (ht _ k_4_92) (fun _ h9 => h9) K1_F8 dX11_feedNumber_22 ?_
  refine lv_iload_n hx hb dX11_feedNumber_25 rfl (lv_at hl 2 rfl) ?_
  refine lv_iload_n hx hb dX11_feedNumber_26 rfl (lv_at hl 0 rfl) ?_
  refine lv_iushr hx hb dX11_feedNumber_27 rfl ?_
  refine lv_topi (fun x9 ex9 => ?_)
  refine lv_i2b hx hb dX11_feedNumber_28 rfl ?_
  refine lv_topi (fun x10 ex10 => ?_)
  refine va_bast (i := 10) (x := x10) hx hb hK hP hD hS 1 0 rfl rfl (by unfold vp_in; decide) dX11_feedNumber_29 (fun H locs hP hD hS => ?_)
  obtain ⟨f11, ef11⟩ : ∃ g : Nat → Int32, g = upd f7 (10 : Int32).toNatClampNeg (vp_nar .byte x10) := ⟨_, rfl⟩
  rw [← ef11] at hP hD
  have hP : va_P (dC, dI) cls [(q, .inr (11, F8)), (tp, .inl (cT, 2000, .inl f11))] H := hP
  have hD : va_D A [(q, .inr (11, F8)), (tp, .inl (cT, 2000, .inl f11))] := hD
  refine lv_aload_n hx hb dX11_feedNumber_30 rfl (lv_at hl 1 rfl) ?_
  refine lv_dup hx hb dX11_feedNumber_31 rfl ?_
  refine va_get (D := (dC, dI)) (ci := 11) (v := .int 10) (C := RX11) (T := TX11) (N := 18) hx hb ht uX11 hown hK hP 0 rfl rfl 1 (by decide) (ht _ k_4_92) (fun _ h9 => h9) K1_F8 dX11_feedNumber_32 ?_
  refine lv_iconst (v := 1) hx hb dX11_feedNumber_35 (by decide) ?_
  refine lv_iadd hx hb dX11_feedNumber_36 ?_
  refine tk_i (y := 11) (by decide) ?_
  refine va_put (D := (dC, dI)) (ci := 11) (v := .int 11) (ty := .int) (C := RX11) (T := TX11) (N := 18) hx hb ht uX11 tyX11 tkX11 nmX11 hown hK hP hD hS 0 rfl rfl 1 (by decide) (ht _ k_4_92) (fun _ h9 => h9) rfl (by decide +kernel) rfl rfl (by rw [L_F8]; decide) dX11_feedNumber_37 (fun H locs hP hD hS => ?_)
  obtain ⟨F12, eF12⟩ : ∃ g : List Value, g = F8.set 1 (.int 11) := ⟨_, rfl⟩
  rw [← eF12] at hP hD
  have K0_F12 : F12[0]? = some (.ref tp) := by rw [eF12, List.getElem?_set_ne (by decide)]; exact K0_F8
  have K1_F12 : F12[1]? = some (.int 11) := by rw [eF12]; exact List.getElem?_set_self (by rw [L_F8]; decide)
  have L_F12 : F12.length = 18 := by rw [eF12, List.length_set]; exact L_F8
  have hP : va_P (dC, dI) cls [(q, .inr (11, F12)), (tp, .inl (cT, 2000, .inl f11))] H := hP
  have hD : va_D A [(q, .inr (11, F12)), (tp, .inl (cT, 2000, .inl f11))] := hD
  refine lv_iinc (v := 0) (lv' := [(2, .int 0), (0, .ref q), (1, .int p0)]) hx hb dX11_feedNumber_40 hl (k := 0) rfl (by decide) (by decide) rfl (fun ls hl => ?_)
  refine lv_goto (tgt := 3) hx hb dX11_feedNumber_43 (by decide) ?_
  refine lv_iload_n hx hb dX11_feedNumber_3 rfl (lv_at hl 0 rfl) ?_
  refine lv_if_lt (tgt := 46) hx hb dX11_feedNumber_4 (by decide) (fun c0 => absurd c0 (by decide)) (fun _ => ?_)
  refine lv_aload_n hx hb dX11_feedNumber_7 rfl (lv_at hl 1 rfl) ?_
  refine va_get (D := (dC, dI)) (ci := 11) (v := .int 11) (C := RX11) (T := TX11) (N := 18) hx hb ht uX11 hown hK hP 0 rfl rfl 1 (by decide) (ht _ k_4_92) (fun _ h9 => h9) K1_F12 dX11_feedNumber_8 ?_
  refine lv_sipush (v := 2000) hx hb dX11_feedNumber_11 (by decide) ?_
  refine lv_icmp_ge (tgt := 46) hx hb dX11_feedNumber_14 (by decide) (fun c0 => absurd c0 (by decide)) (fun _ => ?_)
  refine lv_aload_n hx hb dX11_feedNumber_17 rfl (lv_at hl 1 rfl) ?_
  refine va_get (D := (dC, dI)) (ci := 11) (v := .ref tp) (C := RX11) (T := TX11) (N := 18) hx hb ht uX11 hown hK hP 0 rfl rfl 0 (by decide) (ht _ k_4_91) (fun _ h9 => h9) K0_F12 dX11_feedNumber_18 ?_
  refine lv_aload_n hx hb dX11_feedNumber_21 rfl (lv_at hl 1 rfl) ?_
  refine va_get (D := (dC, dI)) (ci := 11) (v := .int 11) (C := RX11) (T := TX11) (N := 18) hx hb ht uX11 hown hK hP 0 rfl rfl 1 (by decide) (ht _ k_4_92) (fun _ h9 => h9) K1_F12 dX11_feedNumber_22 ?_
  refine lv_iload_n hx hb dX11_feedNumber_25 rfl (lv_at hl 2 rfl) ?_
  refine lv_iload_n hx hb dX11_feedNumber_26 rfl (lv_at hl 0 rfl) ?_
  refine lv_iushr hx hb dX11_feedNumber_27 rfl ?_
  refine lv_topi (fun x13 ex13 => ?_)
  refine lv_i2b hx hb dX11_feedNumber_28 rfl ?_
  refine lv_topi (fun x14 ex14 => ?_)
  refine va_bast (i := 11) (x := x14) hx hb hK hP hD hS 1 0 rfl rfl (by unfold vp_in; decide) dX11_feedNumber_29 (fun H locs hP hD hS => ?_)
  obtain ⟨f15, ef15⟩ : ∃ g : Nat → Int32, g = upd f11 (11 : Int32).toNatClampNeg (vp_nar .byte x14) := ⟨_, rfl⟩
  rw [← ef15] at hP hD
  have hP : va_P (dC, dI) cls [(q, .inr (11, F12)), (tp, .inl (cT, 2000, .inl f15))] H := hP
  have hD : va_D A [(q, .inr (11, F12)), (tp, .inl (cT, 2000, .inl f15))] := hD
  refine lv_aload_n hx hb dX11_feedNumber_30 rfl (lv_at hl 1 rfl) ?_
  refine lv_dup hx hb dX11_feedNumber_31 rfl ?_
  refine va_get (D := (dC, dI)) (ci := 11) (v := .int 11) (C := RX11) (T := TX11) (N := 18) hx hb ht uX11 hown hK hP 0 rfl rfl 1 (by decide) (ht _ k_4_92) (fun _ h9 => h9) K1_F12 dX11_feedNumber_32 ?_
  refine lv_iconst (v := 1) hx hb dX11_feedNumber_35 (by decide) ?_
  refine lv_iadd hx hb dX11_feedNumber_36 ?_
  refine tk_i (y := 12) (by decide) ?_
  refine va_put (D := (dC, dI)) (ci := 11) (v := .int 12) (ty := .int) (C := RX11) (T := TX11) (N := 18) hx hb ht uX11 tyX11 tkX11 nmX11 hown hK hP hD hS 0 rfl rfl 1 (by decide) (ht _ k_4_92) (fun _ h9 => h9) rfl (by decide +kernel) rfl rfl (by rw [L_F12]; decide) dX11_feedNumber_37 (fun H locs hP hD hS => ?_)
  obtain ⟨F16, eF16⟩ : ∃ g : List Value, g = F12.set 1 (.int 12) := ⟨_, rfl⟩
  rw [← eF16] at hP hD
  have K0_F16 : F16[0]? = some (.ref tp) := by rw [eF16, List.getElem?_set_ne (by decide)]; exact K0_F12
  have K1_F16 : F16[1]? = some (.int 12) := by rw [eF16]; exact List.getElem?_set_self (by rw [L_F12]; decide)
  have L_F16 : F16.length = 18 := by rw [eF16, List.length_set]; exact L_F12
  have hP : va_P (dC, dI) cls [(q, .inr (11, F16)), (tp, .inl (cT, 2000, .inl f15))] H := hP
  have hD : va_D A [(q, .inr (11, F16)), (tp, .inl (cT, 2000, .inl f15))] := hD
  refine lv_iinc (v := (-8)) (lv' := [(2, .int (-8)), (0, .ref q), (1, .int p0)]) hx hb dX11_feedNumber_40 hl (k := 0) rfl (by decide) (by decide) rfl (fun ls hl => ?_)
  refine lv_goto (tgt := 3) hx hb dX11_feedNumber_43 (by decide) ?_
  refine lv_iload_n hx hb dX11_feedNumber_3 rfl (lv_at hl 0 rfl) ?_
  refine lv_if_lt (tgt := 46) hx hb dX11_feedNumber_4 (by decide) (fun _ => ?_) (fun c0 => absurd c0 (by decide))
  exact W.vret hx hb hr (fun t ht9 hW => ⟨⟨(F16, f15), rfl, ⟨trivial, L_F16, K0_F16, K1_F16⟩, by rw [ht9]; exact hP.sub [0, 1] rfl, va_K.moved hW.alike (hK.sub [0] rfl), hD.sub [0, 1] (by decide) rfl⟩, hS.F ht9⟩) hS.2.2 dX11_feedNumber_46
set_option maxHeartbeats 4000000 in
set_option maxRecDepth 100000 in
theorem x_feedNumber_12 (l : Launch) (dC : Nat → ClassId) (dI : Nat → Nat → Nat) (sz : Nat) (q : Nat) (fs : List Value) (tp : Nat) (cT : ClassId) (ft : Nat → Int32) (p0 : Int32) (L_fs : fs.length = 18) (K0_fs : fs[0]? = some (.ref tp)) (K1_fs : fs[1]? = some (.int 12)) : Met l yX11_feedNumber (Cond.code yX11_feedNumber cX11_feedNumber 3 none :: tb) ({ frames := 0, cells := 0, slots := 0, locals := 0 }) (pcw [.ref q, .int p0] (dC, dI) [(q, .inr (11, fs)), (tp, .inl (cT, 2000, .inl ft))] [(cT, .byte)] sz) (va_Qv (fun (u : (List Value) × (Nat → Int32)) => match u with | (fs1, ft1) => (True) ∧ (fs1.length = 18) ∧ (fs1[0]? = some (.ref tp)) ∧ (fs1[1]? = some (.int 16))) (bw (dC, dI) (va_A [(q, .inr (11, fs)), (tp, .inl (cT, 2000, .inl ft))] sz) (fun (u : (List Value) × (Nat → Int32)) => match u with | (fs1, ft1) => [(q, .inr (11, fs1)), (tp, .inl (cT, 2000, .inl ft1))]) (fun (u : (List Value) × (Nat → Int32)) => match u with | (fs1, ft1) => [(cT, .byte)])) (va_A [(q, .inr (11, fs)), (tp, .inl (cT, 2000, .inl ft))] sz)) 0 0 (va_A [(q, .inr (11, fs)), (tp, .inl (cT, 2000, .inl ft))] sz) := by
  refine Met.ofW (cc := cX11_feedNumber) (maxL := 3) (ret := none) (by decide) rfl ?_
  intro p e s m args below meth c s₁ B hml hv
  obtain ⟨rfl, hsz, hP, hK, hD0⟩ := hv
  have hx := B.exec
  have hb := B.bytes
  have hr := B.returns
  have hts := atoms_spec (ws := Cond.code yX11_feedNumber cX11_feedNumber 3 none :: tb) B.pre
  have ht : ∀ w ∈ tb, w.before _ s = true := fun w h => hts w (List.mem_cons_of_mem _ h)
  have hown : s.vm.findClass RX11 = some m.cls := findClass_of_methodNamed B.named
  have hlocks := B.notSynchronized
  subst hsz
  have hD := hD0.self (sz := s.heap.size)
  generalize hAe : va_A [(q, .inr (11, fs)), (tp, .inl (cT, 2000, .inl ft))] s.heap.size = A at hD ⊢
  have hA : ∀ q : Nat, s.heap.size ≤ q → A q := fun q h => by rw [← hAe]; exact Or.inr h
  have hS : va_S A s.heap s.heap [] := va_S.rf
  have hl := lv_entry ([.ref q, .int p0]) (n := 3) (Nat.le_of_ble_eq_true rfl)
  rw [lg_entry_eq]
  generalize (lg_sl ([.ref q, .int p0]) ++ List.replicate (3 - (lg_sl ([.ref q, .int p0])).length) Slot.unset).toArray = ls at hl ⊢
  have hl : lv_has ls 3 [(0, .ref q), (1, .int p0)] := hl
  have hP : va_P (dC, dI) cls [(q, .inr (11, fs)), (tp, .inl (cT, 2000, .inl ft))] s.heap := hP
  refine lv_bipush (v := 24) hx hb dX11_feedNumber_0 (by decide) ?_
  refine lv_istore_n (lv' := [(2, .int 24), (0, .ref q), (1, .int p0)]) hx hb dX11_feedNumber_2 rfl hl (by decide) rfl (fun ls hl => ?_)
  refine lv_iload_n hx hb dX11_feedNumber_3 rfl (lv_at hl 0 rfl) ?_
  refine lv_if_lt (tgt := 46) hx hb dX11_feedNumber_4 (by decide) (fun c0 => absurd c0 (by decide)) (fun _ => ?_)
  refine lv_aload_n hx hb dX11_feedNumber_7 rfl (lv_at hl 1 rfl) ?_
  refine va_get (D := (dC, dI)) (ci := 11) (v := .int 12) (C := RX11) (T := TX11) (N := 18) hx hb ht uX11 hown hK hP 0 rfl rfl 1 (by decide) (ht _ k_4_92) (fun _ h9 => h9) K1_fs dX11_feedNumber_8 ?_
  refine lv_sipush (v := 2000) hx hb dX11_feedNumber_11 (by decide) ?_
  refine lv_icmp_ge (tgt := 46) hx hb dX11_feedNumber_14 (by decide) (fun c0 => absurd c0 (by decide)) (fun _ => ?_)
  refine lv_aload_n hx hb dX11_feedNumber_17 rfl (lv_at hl 1 rfl) ?_
  refine va_get (D := (dC, dI)) (ci := 11) (v := .ref tp) (C := RX11) (T := TX11) (N := 18) hx hb ht uX11 hown hK hP 0 rfl rfl 0 (by decide) (ht _ k_4_91) (fun _ h9 => h9) K0_fs dX11_feedNumber_18 ?_
  refine lv_aload_n hx hb dX11_feedNumber_21 rfl (lv_at hl 1 rfl) ?_
  refine va_get (D := (dC, dI)) (ci := 11) (v := .int 12) (C := RX11) (T := TX11) (N := 18) hx hb ht uX11 hown hK hP 0 rfl rfl 1 (by decide) (ht _ k_4_92) (fun _ h9 => h9) K1_fs dX11_feedNumber_22 ?_
  refine lv_iload_n hx hb dX11_feedNumber_25 rfl (lv_at hl 2 rfl) ?_
  refine lv_iload_n hx hb dX11_feedNumber_26 rfl (lv_at hl 0 rfl) ?_
  refine lv_iushr hx hb dX11_feedNumber_27 rfl ?_
  refine lv_topi (fun x1 ex1 => ?_)
  refine lv_i2b hx hb dX11_feedNumber_28 rfl ?_
  refine lv_topi (fun x2 ex2 => ?_)
  refine va_bast (i := 12) (x := x2) hx hb hK hP hD hS 1 0 rfl rfl (by unfold vp_in; decide) dX11_feedNumber_29 (fun H locs hP hD hS => ?_)
  obtain ⟨f3, ef3⟩ : ∃ g : Nat → Int32, g = upd ft (12 : Int32).toNatClampNeg (vp_nar .byte x2) := ⟨_, rfl⟩
  rw [← ef3] at hP hD
  have hP : va_P (dC, dI) cls [(q, .inr (11, fs)), (tp, .inl (cT, 2000, .inl f3))] H := hP
  have hD : va_D A [(q, .inr (11, fs)), (tp, .inl (cT, 2000, .inl f3))] := hD
  refine lv_aload_n hx hb dX11_feedNumber_30 rfl (lv_at hl 1 rfl) ?_
  refine lv_dup hx hb dX11_feedNumber_31 rfl ?_
  refine va_get (D := (dC, dI)) (ci := 11) (v := .int 12) (C := RX11) (T := TX11) (N := 18) hx hb ht uX11 hown hK hP 0 rfl rfl 1 (by decide) (ht _ k_4_92) (fun _ h9 => h9) K1_fs dX11_feedNumber_32 ?_
  refine lv_iconst (v := 1) hx hb dX11_feedNumber_35 (by decide) ?_
  refine lv_iadd hx hb dX11_feedNumber_36 ?_
  refine tk_i (y := 13) (by decide) ?_
  refine va_put (D := (dC, dI)) (ci := 11) (v := .int 13) (ty := .int) (C := RX11) (T := TX11) (N := 18) hx hb ht uX11 tyX11 tkX11 nmX11 hown hK hP hD hS 0 rfl rfl 1 (by decide) (ht _ k_4_92) (fun _ h9 => h9) rfl (by decide +kernel) rfl rfl (by rw [L_fs]; decide) dX11_feedNumber_37 (fun H locs hP hD hS => ?_)
  obtain ⟨F4, eF4⟩ : ∃ g : List Value, g = fs.set 1 (.int 13) := ⟨_, rfl⟩
  rw [← eF4] at hP hD
  have K0_F4 : F4[0]? = some (.ref tp) := by rw [eF4, List.getElem?_set_ne (by decide)]; exact K0_fs
  have K1_F4 : F4[1]? = some (.int 13) := by rw [eF4]; exact List.getElem?_set_self (by rw [L_fs]; decide)
  have L_F4 : F4.length = 18 := by rw [eF4, List.length_set]; exact L_fs
  have hP : va_P (dC, dI) cls [(q, .inr (11, F4)), (tp, .inl (cT, 2000, .inl f3))] H := hP
  have hD : va_D A [(q, .inr (11, F4)), (tp, .inl (cT, 2000, .inl f3))] := hD
  refine lv_iinc (v := 16) (lv' := [(2, .int 16), (0, .ref q), (1, .int p0)]) hx hb dX11_feedNumber_40 hl (k := 0) rfl (by decide) (by decide) rfl (fun ls hl => ?_)
  refine lv_goto (tgt := 3) hx hb dX11_feedNumber_43 (by decide) ?_
  refine lv_iload_n hx hb dX11_feedNumber_3 rfl (lv_at hl 0 rfl) ?_
  refine lv_if_lt (tgt := 46) hx hb dX11_feedNumber_4 (by decide) (fun c0 => absurd c0 (by decide)) (fun _ => ?_)
  refine lv_aload_n hx hb dX11_feedNumber_7 rfl (lv_at hl 1 rfl) ?_
  refine va_get (D := (dC, dI)) (ci := 11) (v := .int 13) (C := RX11) (T := TX11) (N := 18) hx hb ht uX11 hown hK hP 0 rfl rfl 1 (by decide) (ht _ k_4_92) (fun _ h9 => h9) K1_F4 dX11_feedNumber_8 ?_
  refine lv_sipush (v := 2000) hx hb dX11_feedNumber_11 (by decide) ?_
  refine lv_icmp_ge (tgt := 46) hx hb dX11_feedNumber_14 (by decide) (fun c0 => absurd c0 (by decide)) (fun _ => ?_)
  refine lv_aload_n hx hb dX11_feedNumber_17 rfl (lv_at hl 1 rfl) ?_
  refine va_get (D := (dC, dI)) (ci := 11) (v := .ref tp) (C := RX11) (T := TX11) (N := 18) hx hb ht uX11 hown hK hP 0 rfl rfl 0 (by decide) (ht _ k_4_91) (fun _ h9 => h9) K0_F4 dX11_feedNumber_18 ?_
  refine lv_aload_n hx hb dX11_feedNumber_21 rfl (lv_at hl 1 rfl) ?_
  refine va_get (D := (dC, dI)) (ci := 11) (v := .int 13) (C := RX11) (T := TX11) (N := 18) hx hb ht uX11 hown hK hP 0 rfl rfl 1 (by decide) (ht _ k_4_92) (fun _ h9 => h9) K1_F4 dX11_feedNumber_22 ?_
  refine lv_iload_n hx hb dX11_feedNumber_25 rfl (lv_at hl 2 rfl) ?_
  refine lv_iload_n hx hb dX11_feedNumber_26 rfl (lv_at hl 0 rfl) ?_
  refine lv_iushr hx hb dX11_feedNumber_27 rfl ?_
  refine lv_topi (fun x5 ex5 => ?_)
  refine lv_i2b hx hb dX11_feedNumber_28 rfl ?_
  refine lv_topi (fun x6 ex6 => ?_)
  refine va_bast (i := 13) (x := x6) hx hb hK hP hD hS 1 0 rfl rfl (by unfold vp_in; decide) dX11_feedNumber_29 (fun H locs hP hD hS => ?_)
  obtain ⟨f7, ef7⟩ : ∃ g : Nat → Int32, g = upd f3 (13 : Int32).toNatClampNeg (vp_nar .byte x6) := ⟨_, rfl⟩
  rw [← ef7] at hP hD
  have hP : va_P (dC, dI) cls [(q, .inr (11, F4)), (tp, .inl (cT, 2000, .inl f7))] H := hP
  have hD : va_D A [(q, .inr (11, F4)), (tp, .inl (cT, 2000, .inl f7))] := hD
  refine lv_aload_n hx hb dX11_feedNumber_30 rfl (lv_at hl 1 rfl) ?_
  refine lv_dup hx hb dX11_feedNumber_31 rfl ?_
  refine va_get (D := (dC, dI)) (ci := 11) (v := .int 13) (C := RX11) (T := TX11) (N := 18) hx hb ht uX11 hown hK hP 0 rfl rfl 1 (by decide) (ht _ k_4_92) (fun _ h9 => h9) K1_F4 dX11_feedNumber_32 ?_
  refine lv_iconst (v := 1) hx hb dX11_feedNumber_35 (by decide) ?_
  refine lv_iadd hx hb dX11_feedNumber_36 ?_
  refine tk_i (y := 14) (by decide) ?_
  refine va_put (D := (dC, dI)) (ci := 11) (v := .int 14) (ty := .int) (C := RX11) (T := TX11) (N := 18) hx hb ht uX11 tyX11 tkX11 nmX11 hown hK hP hD hS 0 rfl rfl 1 (by decide) (ht _ k_4_92) (fun _ h9 => h9) rfl (by decide +kernel) rfl rfl (by rw [L_F4]; decide) dX11_feedNumber_37 (fun H locs hP hD hS => ?_)
  obtain ⟨F8, eF8⟩ : ∃ g : List Value, g = F4.set 1 (.int 14) := ⟨_, rfl⟩
  rw [← eF8] at hP hD
  have K0_F8 : F8[0]? = some (.ref tp) := by rw [eF8, List.getElem?_set_ne (by decide)]; exact K0_F4
  have K1_F8 : F8[1]? = some (.int 14) := by rw [eF8]; exact List.getElem?_set_self (by rw [L_F4]; decide)
  have L_F8 : F8.length = 18 := by rw [eF8, List.length_set]; exact L_F4
  have hP : va_P (dC, dI) cls [(q, .inr (11, F8)), (tp, .inl (cT, 2000, .inl f7))] H := hP
  have hD : va_D A [(q, .inr (11, F8)), (tp, .inl (cT, 2000, .inl f7))] := hD
  refine lv_iinc (v := 8) (lv' := [(2, .int 8), (0, .ref q), (1, .int p0)]) hx hb dX11_feedNumber_40 hl (k := 0) rfl (by decide) (by decide) rfl (fun ls hl => ?_)
  refine lv_goto (tgt := 3) hx hb dX11_feedNumber_43 (by decide) ?_
  refine lv_iload_n hx hb dX11_feedNumber_3 rfl (lv_at hl 0 rfl) ?_
  refine lv_if_lt (tgt := 46) hx hb dX11_feedNumber_4 (by decide) (fun c0 => absurd c0 (by decide)) (fun _ => ?_)
  refine lv_aload_n hx hb dX11_feedNumber_7 rfl (lv_at hl 1 rfl) ?_
  refine va_get (D := (dC, dI)) (ci := 11) (v := .int 14) (C := RX11) (T := TX11) (N := 18) hx hb ht uX11 hown hK hP 0 rfl rfl 1 (by decide) (ht _ k_4_92) (fun _ h9 => h9) K1_F8 dX11_feedNumber_8 ?_
  refine lv_sipush (v := 2000) hx hb dX11_feedNumber_11 (by decide) ?_
  refine lv_icmp_ge (tgt := 46) hx hb dX11_feedNumber_14 (by decide) (fun c0 => absurd c0 (by decide)) (fun _ => ?_)
  refine lv_aload_n hx hb dX11_feedNumber_17 rfl (lv_at hl 1 rfl) ?_
  refine va_get (D := (dC, dI)) (ci := 11) (v := .ref tp) (C := RX11) (T := TX11) (N := 18) hx hb ht uX11 hown hK hP 0 rfl rfl 0 (by decide) (ht _ k_4_91) (fun _ h9 => h9) K0_F8 dX11_feedNumber_18 ?_
  refine lv_aload_n hx hb dX11_feedNumber_21 rfl (lv_at hl 1 rfl) ?_
  refine va_get (D := (dC, dI)) (ci := 11) (v := .int 14) (C := RX11) (T := TX11) (N := 18) hx hb ht uX11 hown hK hP 0 rfl rfl 1 (by decide) (ht _ k_4_92) (fun _ h9 => h9) K1_F8 dX11_feedNumber_22 ?_
  refine lv_iload_n hx hb dX11_feedNumber_25 rfl (lv_at hl 2 rfl) ?_
  refine lv_iload_n hx hb dX11_feedNumber_26 rfl (lv_at hl 0 rfl) ?_
  refine lv_iushr hx hb dX11_feedNumber_27 rfl ?_
  refine lv_topi (fun x9 ex9 => ?_)
  refine lv_i2b hx hb dX11_feedNumber_28 rfl ?_
  refine lv_topi (fun x10 ex10 => ?_)
  refine va_bast (i := 14) (x := x10) hx hb hK hP hD hS 1 0 rfl rfl (by unfold vp_in; decide) dX11_feedNumber_29 (fun H locs hP hD hS => ?_)
  obtain ⟨f11, ef11⟩ : ∃ g : Nat → Int32, g = upd f7 (14 : Int32).toNatClampNeg (vp_nar .byte x10) := ⟨_, rfl⟩
  rw [← ef11] at hP hD
  have hP : va_P (dC, dI) cls [(q, .inr (11, F8)), (tp, .inl (cT, 2000, .inl f11))] H := hP
  have hD : va_D A [(q, .inr (11, F8)), (tp, .inl (cT, 2000, .inl f11))] := hD
  refine lv_aload_n hx hb dX11_feedNumber_30 rfl (lv_at hl 1 rfl) ?_
  refine lv_dup hx hb dX11_feedNumber_31 rfl ?_
  refine va_get (D := (dC, dI)) (ci := 11) (v := .int 14) (C := RX11) (T := TX11) (N := 18) hx hb ht uX11 hown hK hP 0 rfl rfl 1 (by decide) (ht _ k_4_92) (fun _ h9 => h9) K1_F8 dX11_feedNumber_32 ?_
  refine lv_iconst (v := 1) hx hb dX11_feedNumber_35 (by decide) ?_
  refine lv_iadd hx hb dX11_feedNumber_36 ?_
  refine tk_i (y := 15) (by decide) ?_
  refine va_put (D := (dC, dI)) (ci := 11) (v := .int 15) (ty := .int) (C := RX11) (T := TX11) (N := 18) hx hb ht uX11 tyX11 tkX11 nmX11 hown hK hP hD hS 0 rfl rfl 1 (by decide) (ht _ k_4_92) (fun _ h9 => h9) rfl (by decide +kernel) rfl rfl (by rw [L_F8]; decide) dX11_feedNumber_37 (fun H locs hP hD hS => ?_)
  obtain ⟨F12, eF12⟩ : ∃ g : List Value, g = F8.set 1 (.int 15) := ⟨_, rfl⟩
  rw [← eF12] at hP hD
  have K0_F12 : F12[0]? = some (.ref tp) := by rw [eF12, List.getElem?_set_ne (by decide)]; exact K0_F8
  have K1_F12 : F12[1]? = some (.int 15) := by rw [eF12]; exact List.getElem?_set_self (by rw [L_F8]; decide)
  have L_F12 : F12.length = 18 := by rw [eF12, List.length_set]; exact L_F8
  have hP : va_P (dC, dI) cls [(q, .inr (11, F12)), (tp, .inl (cT, 2000, .inl f11))] H := hP
  have hD : va_D A [(q, .inr (11, F12)), (tp, .inl (cT, 2000, .inl f11))] := hD
  refine lv_iinc (v := 0) (lv' := [(2, .int 0), (0, .ref q), (1, .int p0)]) hx hb dX11_feedNumber_40 hl (k := 0) rfl (by decide) (by decide) rfl (fun ls hl => ?_)
  refine lv_goto (tgt := 3) hx hb dX11_feedNumber_43 (by decide) ?_
  refine lv_iload_n hx hb dX11_feedNumber_3 rfl (lv_at hl 0 rfl) ?_
  refine lv_if_lt (tgt := 46) hx hb dX11_feedNumber_4 (by decide) (fun c0 => absurd c0 (by decide)) (fun _ => ?_)
  refine lv_aload_n hx hb dX11_feedNumber_7 rfl (lv_at hl 1 rfl) ?_
  refine va_get (D := (dC, dI)) (ci := 11) (v := .int 15) (C := RX11) (T := TX11) (N := 18) hx hb ht uX11 hown hK hP 0 rfl rfl 1 (by decide) (ht _ k_4_92) (fun _ h9 => h9) K1_F12 dX11_feedNumber_8 ?_
  refine lv_sipush (v := 2000) hx hb dX11_feedNumber_11 (by decide) ?_
  refine lv_icmp_ge (tgt := 46) hx hb dX11_feedNumber_14 (by decide) (fun c0 => absurd c0 (by decide)) (fun _ => ?_)
  refine lv_aload_n hx hb dX11_feedNumber_17 rfl (lv_at hl 1 rfl) ?_
  refine va_get (D := (dC, dI)) (ci := 11) (v := .ref tp) (C := RX11) (T := TX11) (N := 18) hx hb ht uX11 hown hK hP 0 rfl rfl 0 (by decide) (ht _ k_4_91) (fun _ h9 => h9) K0_F12 dX11_feedNumber_18 ?_
  refine lv_aload_n hx hb dX11_feedNumber_21 rfl (lv_at hl 1 rfl) ?_
  refine va_get (D := (dC, dI)) (ci := 11) (v := .int 15) (C := RX11) (T := TX11) (N := 18) hx hb ht uX11 hown hK hP 0 rfl rfl 1 (by decide) (ht _ k_4_92) (fun _ h9 => h9) K1_F12 dX11_feedNumber_22 ?_
  refine lv_iload_n hx hb dX11_feedNumber_25 rfl (lv_at hl 2 rfl) ?_
  refine lv_iload_n hx hb dX11_feedNumber_26 rfl (lv_at hl 0 rfl) ?_
  refine lv_iushr hx hb dX11_feedNumber_27 rfl ?_
  refine lv_topi (fun x13 ex13 => ?_)
  refine lv_i2b hx hb dX11_feedNumber_28 rfl ?_
  refine lv_topi (fun x14 ex14 => ?_)
  refine va_bast (i := 15) (x := x14) hx hb hK hP hD hS 1 0 rfl rfl (by unfold vp_in; decide) dX11_feedNumber_29 (fun H locs hP hD hS => ?_)
  obtain ⟨f15, ef15⟩ : ∃ g : Nat → Int32, g = upd f11 (15 : Int32).toNatClampNeg (vp_nar .byte x14) := ⟨_, rfl⟩
  rw [← ef15] at hP hD
  have hP : va_P (dC, dI) cls [(q, .inr (11, F12)), (tp, .inl (cT, 2000, .inl f15))] H := hP
  have hD : va_D A [(q, .inr (11, F12)), (tp, .inl (cT, 2000, .inl f15))] := hD
  refine lv_aload_n hx hb dX11_feedNumber_30 rfl (lv_at hl 1 rfl) ?_
  refine lv_dup hx hb dX11_feedNumber_31 rfl ?_
  refine va_get (D := (dC, dI)) (ci := 11) (v := .int 15) (C := RX11) (T := TX11) (N := 18) hx hb ht uX11 hown hK hP 0 rfl rfl 1 (by decide) (ht _ k_4_92) (fun _ h9 => h9) K1_F12 dX11_feedNumber_32 ?_
  refine lv_iconst (v := 1) hx hb dX11_feedNumber_35 (by decide) ?_
  refine lv_iadd hx hb dX11_feedNumber_36 ?_
  refine tk_i (y := 16) (by decide) ?_
  refine va_put (D := (dC, dI)) (ci := 11) (v := .int 16) (ty := .int) (C := RX11) (T := TX11) (N := 18) hx hb ht uX11 tyX11 tkX11 nmX11 hown hK hP hD hS 0 rfl rfl 1 (by decide) (ht _ k_4_92) (fun _ h9 => h9) rfl (by decide +kernel) rfl rfl (by rw [L_F12]; decide) dX11_feedNumber_37 (fun H locs hP hD hS => ?_)
  obtain ⟨F16, eF16⟩ : ∃ g : List Value, g = F12.set 1 (.int 16) := ⟨_, rfl⟩
  rw [← eF16] at hP hD
  have K0_F16 : F16[0]? = some (.ref tp) := by rw [eF16, List.getElem?_set_ne (by decide)]; exact K0_F12
  have K1_F16 : F16[1]? = some (.int 16) := by rw [eF16]; exact List.getElem?_set_self (by rw [L_F12]; decide)
  have L_F16 : F16.length = 18 := by rw [eF16, List.length_set]; exact L_F12
  have hP : va_P (dC, dI) cls [(q, .inr (11, F16)), (tp, .inl (cT, 2000, .inl f15))] H := hP
  have hD : va_D A [(q, .inr (11, F16)), (tp, .inl (cT, 2000, .inl f15))] := hD
  refine lv_iinc (v := (-8)) (lv' := [(2, .int (-8)), (0, .ref q), (1, .int p0)]) hx hb dX11_feedNumber_40 hl (k := 0) rfl (by decide) (by decide) rfl (fun ls hl => ?_)
  refine lv_goto (tgt := 3) hx hb dX11_feedNumber_43 (by decide) ?_
  refine lv_iload_n hx hb dX11_feedNumber_3 rfl (lv_at hl 0 rfl) ?_
  refine lv_if_lt (tgt := 46) hx hb dX11_feedNumber_4 (by decide) (fun _ => ?_) (fun c0 => absurd c0 (by decide))
  exact W.vret hx hb hr (fun t ht9 hW => ⟨⟨(F16, f15), rfl, ⟨trivial, L_F16, K0_F16, K1_F16⟩, by rw [ht9]; exact hP.sub [0, 1] rfl, va_K.moved hW.alike (hK.sub [0] rfl), hD.sub [0, 1] (by decide) rfl⟩, hS.F ht9⟩) hS.2.2 dX11_feedNumber_46
set_option maxHeartbeats 4000000 in
set_option maxRecDepth 100000 in
theorem x_feedNumber_16 (l : Launch) (dC : Nat → ClassId) (dI : Nat → Nat → Nat) (sz : Nat) (q : Nat) (fs : List Value) (tp : Nat) (cT : ClassId) (ft : Nat → Int32) (p0 : Int32) (L_fs : fs.length = 18) (K0_fs : fs[0]? = some (.ref tp)) (K1_fs : fs[1]? = some (.int 16)) : Met l yX11_feedNumber (Cond.code yX11_feedNumber cX11_feedNumber 3 none :: tb) ({ frames := 0, cells := 0, slots := 0, locals := 0 }) (pcw [.ref q, .int p0] (dC, dI) [(q, .inr (11, fs)), (tp, .inl (cT, 2000, .inl ft))] [(cT, .byte)] sz) (va_Qv (fun (u : (List Value) × (Nat → Int32)) => match u with | (fs1, ft1) => (True) ∧ (fs1.length = 18) ∧ (fs1[0]? = some (.ref tp)) ∧ (fs1[1]? = some (.int 20))) (bw (dC, dI) (va_A [(q, .inr (11, fs)), (tp, .inl (cT, 2000, .inl ft))] sz) (fun (u : (List Value) × (Nat → Int32)) => match u with | (fs1, ft1) => [(q, .inr (11, fs1)), (tp, .inl (cT, 2000, .inl ft1))]) (fun (u : (List Value) × (Nat → Int32)) => match u with | (fs1, ft1) => [(cT, .byte)])) (va_A [(q, .inr (11, fs)), (tp, .inl (cT, 2000, .inl ft))] sz)) 0 0 (va_A [(q, .inr (11, fs)), (tp, .inl (cT, 2000, .inl ft))] sz) := by
  refine Met.ofW (cc := cX11_feedNumber) (maxL := 3) (ret := none) (by decide) rfl ?_
  intro p e s m args below meth c s₁ B hml hv
  obtain ⟨rfl, hsz, hP, hK, hD0⟩ := hv
  have hx := B.exec
  have hb := B.bytes
  have hr := B.returns
  have hts := atoms_spec (ws := Cond.code yX11_feedNumber cX11_feedNumber 3 none :: tb) B.pre
  have ht : ∀ w ∈ tb, w.before _ s = true := fun w h => hts w (List.mem_cons_of_mem _ h)
  have hown : s.vm.findClass RX11 = some m.cls := findClass_of_methodNamed B.named
  have hlocks := B.notSynchronized
  subst hsz
  have hD := hD0.self (sz := s.heap.size)
  generalize hAe : va_A [(q, .inr (11, fs)), (tp, .inl (cT, 2000, .inl ft))] s.heap.size = A at hD ⊢
  have hA : ∀ q : Nat, s.heap.size ≤ q → A q := fun q h => by rw [← hAe]; exact Or.inr h
  have hS : va_S A s.heap s.heap [] := va_S.rf
  have hl := lv_entry ([.ref q, .int p0]) (n := 3) (Nat.le_of_ble_eq_true rfl)
  rw [lg_entry_eq]
  generalize (lg_sl ([.ref q, .int p0]) ++ List.replicate (3 - (lg_sl ([.ref q, .int p0])).length) Slot.unset).toArray = ls at hl ⊢
  have hl : lv_has ls 3 [(0, .ref q), (1, .int p0)] := hl
  have hP : va_P (dC, dI) cls [(q, .inr (11, fs)), (tp, .inl (cT, 2000, .inl ft))] s.heap := hP
  refine lv_bipush (v := 24) hx hb dX11_feedNumber_0 (by decide) ?_
  refine lv_istore_n (lv' := [(2, .int 24), (0, .ref q), (1, .int p0)]) hx hb dX11_feedNumber_2 rfl hl (by decide) rfl (fun ls hl => ?_)
  refine lv_iload_n hx hb dX11_feedNumber_3 rfl (lv_at hl 0 rfl) ?_
  refine lv_if_lt (tgt := 46) hx hb dX11_feedNumber_4 (by decide) (fun c0 => absurd c0 (by decide)) (fun _ => ?_)
  refine lv_aload_n hx hb dX11_feedNumber_7 rfl (lv_at hl 1 rfl) ?_
  refine va_get (D := (dC, dI)) (ci := 11) (v := .int 16) (C := RX11) (T := TX11) (N := 18) hx hb ht uX11 hown hK hP 0 rfl rfl 1 (by decide) (ht _ k_4_92) (fun _ h9 => h9) K1_fs dX11_feedNumber_8 ?_
  refine lv_sipush (v := 2000) hx hb dX11_feedNumber_11 (by decide) ?_
  refine lv_icmp_ge (tgt := 46) hx hb dX11_feedNumber_14 (by decide) (fun c0 => absurd c0 (by decide)) (fun _ => ?_)
  refine lv_aload_n hx hb dX11_feedNumber_17 rfl (lv_at hl 1 rfl) ?_
  refine va_get (D := (dC, dI)) (ci := 11) (v := .ref tp) (C := RX11) (T := TX11) (N := 18) hx hb ht uX11 hown hK hP 0 rfl rfl 0 (by decide) (ht _ k_4_91) (fun _ h9 => h9) K0_fs dX11_feedNumber_18 ?_
  refine lv_aload_n hx hb dX11_feedNumber_21 rfl (lv_at hl 1 rfl) ?_
  refine va_get (D := (dC, dI)) (ci := 11) (v := .int 16) (C := RX11) (T := TX11) (N := 18) hx hb ht uX11 hown hK hP 0 rfl rfl 1 (by decide) (ht _ k_4_92) (fun _ h9 => h9) K1_fs dX11_feedNumber_22 ?_
  refine lv_iload_n hx hb dX11_feedNumber_25 rfl (lv_at hl 2 rfl) ?_
  refine lv_iload_n hx hb dX11_feedNumber_26 rfl (lv_at hl 0 rfl) ?_
  refine lv_iushr hx hb dX11_feedNumber_27 rfl ?_
  refine lv_topi (fun x1 ex1 => ?_)
  refine lv_i2b hx hb dX11_feedNumber_28 rfl ?_
  refine lv_topi (fun x2 ex2 => ?_)
  refine va_bast (i := 16) (x := x2) hx hb hK hP hD hS 1 0 rfl rfl (by unfold vp_in; decide) dX11_feedNumber_29 (fun H locs hP hD hS => ?_)
  obtain ⟨f3, ef3⟩ : ∃ g : Nat → Int32, g = upd ft (16 : Int32).toNatClampNeg (vp_nar .byte x2) := ⟨_, rfl⟩
  rw [← ef3] at hP hD
  have hP : va_P (dC, dI) cls [(q, .inr (11, fs)), (tp, .inl (cT, 2000, .inl f3))] H := hP
  have hD : va_D A [(q, .inr (11, fs)), (tp, .inl (cT, 2000, .inl f3))] := hD
  refine lv_aload_n hx hb dX11_feedNumber_30 rfl (lv_at hl 1 rfl) ?_
  refine lv_dup hx hb dX11_feedNumber_31 rfl ?_
  refine va_get (D := (dC, dI)) (ci := 11) (v := .int 16) (C := RX11) (T := TX11) (N := 18) hx hb ht uX11 hown hK hP 0 rfl rfl 1 (by decide) (ht _ k_4_92) (fun _ h9 => h9) K1_fs dX11_feedNumber_32 ?_
  refine lv_iconst (v := 1) hx hb dX11_feedNumber_35 (by decide) ?_
  refine lv_iadd hx hb dX11_feedNumber_36 ?_
  refine tk_i (y := 17) (by decide) ?_
  refine va_put (D := (dC, dI)) (ci := 11) (v := .int 17) (ty := .int) (C := RX11) (T := TX11) (N := 18) hx hb ht uX11 tyX11 tkX11 nmX11 hown hK hP hD hS 0 rfl rfl 1 (by decide) (ht _ k_4_92) (fun _ h9 => h9) rfl (by decide +kernel) rfl rfl (by rw [L_fs]; decide) dX11_feedNumber_37 (fun H locs hP hD hS => ?_)
  obtain ⟨F4, eF4⟩ : ∃ g : List Value, g = fs.set 1 (.int 17) := ⟨_, rfl⟩
  rw [← eF4] at hP hD
  have K0_F4 : F4[0]? = some (.ref tp) := by rw [eF4, List.getElem?_set_ne (by decide)]; exact K0_fs
  have K1_F4 : F4[1]? = some (.int 17) := by rw [eF4]; exact List.getElem?_set_self (by rw [L_fs]; decide)
  have L_F4 : F4.length = 18 := by rw [eF4, List.length_set]; exact L_fs
  have hP : va_P (dC, dI) cls [(q, .inr (11, F4)), (tp, .inl (cT, 2000, .inl f3))] H := hP
  have hD : va_D A [(q, .inr (11, F4)), (tp, .inl (cT, 2000, .inl f3))] := hD
  refine lv_iinc (v := 16) (lv' := [(2, .int 16), (0, .ref q), (1, .int p0)]) hx hb dX11_feedNumber_40 hl (k := 0) rfl (by decide) (by decide) rfl (fun ls hl => ?_)
  refine lv_goto (tgt := 3) hx hb dX11_feedNumber_43 (by decide) ?_
  refine lv_iload_n hx hb dX11_feedNumber_3 rfl (lv_at hl 0 rfl) ?_
  refine lv_if_lt (tgt := 46) hx hb dX11_feedNumber_4 (by decide) (fun c0 => absurd c0 (by decide)) (fun _ => ?_)
  refine lv_aload_n hx hb dX11_feedNumber_7 rfl (lv_at hl 1 rfl) ?_
  refine va_get (D := (dC, dI)) (ci := 11) (v := .int 17) (C := RX11) (T := TX11) (N := 18) hx hb ht uX11 hown hK hP 0 rfl rfl 1 (by decide) (ht _ k_4_92) (fun _ h9 => h9) K1_F4 dX11_feedNumber_8 ?_
  refine lv_sipush (v := 2000) hx hb dX11_feedNumber_11 (by decide) ?_
  refine lv_icmp_ge (tgt := 46) hx hb dX11_feedNumber_14 (by decide) (fun c0 => absurd c0 (by decide)) (fun _ => ?_)
  refine lv_aload_n hx hb dX11_feedNumber_17 rfl (lv_at hl 1 rfl) ?_
  refine va_get (D := (dC, dI)) (ci := 11) (v := .ref tp) (C := RX11) (T := TX11) (N := 18) hx hb ht uX11 hown hK hP 0 rfl rfl 0 (by decide) (ht _ k_4_91) (fun _ h9 => h9) K0_F4 dX11_feedNumber_18 ?_
  refine lv_aload_n hx hb dX11_feedNumber_21 rfl (lv_at hl 1 rfl) ?_
  refine va_get (D := (dC, dI)) (ci := 11) (v := .int 17) (C := RX11) (T := TX11) (N := 18) hx hb ht uX11 hown hK hP 0 rfl rfl 1 (by decide) (ht _ k_4_92) (fun _ h9 => h9) K1_F4 dX11_feedNumber_22 ?_
  refine lv_iload_n hx hb dX11_feedNumber_25 rfl (lv_at hl 2 rfl) ?_
  refine lv_iload_n hx hb dX11_feedNumber_26 rfl (lv_at hl 0 rfl) ?_
  refine lv_iushr hx hb dX11_feedNumber_27 rfl ?_
  refine lv_topi (fun x5 ex5 => ?_)
  refine lv_i2b hx hb dX11_feedNumber_28 rfl ?_
  refine lv_topi (fun x6 ex6 => ?_)
  refine va_bast (i := 17) (x := x6) hx hb hK hP hD hS 1 0 rfl rfl (by unfold vp_in; decide) dX11_feedNumber_29 (fun H locs hP hD hS => ?_)
  obtain ⟨f7, ef7⟩ : ∃ g : Nat → Int32, g = upd f3 (17 : Int32).toNatClampNeg (vp_nar .byte x6) := ⟨_, rfl⟩
  rw [← ef7] at hP hD
  have hP : va_P (dC, dI) cls [(q, .inr (11, F4)), (tp, .inl (cT, 2000, .inl f7))] H := hP
  have hD : va_D A [(q, .inr (11, F4)), (tp, .inl (cT, 2000, .inl f7))] := hD
  refine lv_aload_n hx hb dX11_feedNumber_30 rfl (lv_at hl 1 rfl) ?_
  refine lv_dup hx hb dX11_feedNumber_31 rfl ?_
  refine va_get (D := (dC, dI)) (ci := 11) (v := .int 17) (C := RX11) (T := TX11) (N := 18) hx hb ht uX11 hown hK hP 0 rfl rfl 1 (by decide) (ht _ k_4_92) (fun _ h9 => h9) K1_F4 dX11_feedNumber_32 ?_
  refine lv_iconst (v := 1) hx hb dX11_feedNumber_35 (by decide) ?_
  refine lv_iadd hx hb dX11_feedNumber_36 ?_
  refine tk_i (y := 18) (by decide) ?_
  refine va_put (D := (dC, dI)) (ci := 11) (v := .int 18) (ty := .int) (C := RX11) (T := TX11) (N := 18) hx hb ht uX11 tyX11 tkX11 nmX11 hown hK hP hD hS 0 rfl rfl 1 (by decide) (ht _ k_4_92) (fun _ h9 => h9) rfl (by decide +kernel) rfl rfl (by rw [L_F4]; decide) dX11_feedNumber_37 (fun H locs hP hD hS => ?_)
  obtain ⟨F8, eF8⟩ : ∃ g : List Value, g = F4.set 1 (.int 18) := ⟨_, rfl⟩
  rw [← eF8] at hP hD
  have K0_F8 : F8[0]? = some (.ref tp) := by rw [eF8, List.getElem?_set_ne (by decide)]; exact K0_F4
  have K1_F8 : F8[1]? = some (.int 18) := by rw [eF8]; exact List.getElem?_set_self (by rw [L_F4]; decide)
  have L_F8 : F8.length = 18 := by rw [eF8, List.length_set]; exact L_F4
  have hP : va_P (dC, dI) cls [(q, .inr (11, F8)), (tp, .inl (cT, 2000, .inl f7))] H := hP
  have hD : va_D A [(q, .inr (11, F8)), (tp, .inl (cT, 2000, .inl f7))] := hD
  refine lv_iinc (v := 8) (lv' := [(2, .int 8), (0, .ref q), (1, .int p0)]) hx hb dX11_feedNumber_40 hl (k := 0) rfl (by decide) (by decide) rfl (fun ls hl => ?_)
  refine lv_goto (tgt := 3) hx hb dX11_feedNumber_43 (by decide) ?_
  refine lv_iload_n hx hb dX11_feedNumber_3 rfl (lv_at hl 0 rfl) ?_
  refine lv_if_lt (tgt := 46) hx hb dX11_feedNumber_4 (by decide) (fun c0 => absurd c0 (by decide)) (fun _ => ?_)
  refine lv_aload_n hx hb dX11_feedNumber_7 rfl (lv_at hl 1 rfl) ?_
  refine va_get (D := (dC, dI)) (ci := 11) (v := .int 18) (C := RX11) (T := TX11) (N := 18) hx hb ht uX11 hown hK hP 0 rfl rfl 1 (by decide) (ht _ k_4_92) (fun _ h9 => h9) K1_F8 dX11_feedNumber_8 ?_
  refine lv_sipush (v := 2000) hx hb dX11_feedNumber_11 (by decide) ?_
  refine lv_icmp_ge (tgt := 46) hx hb dX11_feedNumber_14 (by decide) (fun c0 => absurd c0 (by decide)) (fun _ => ?_)
  refine lv_aload_n hx hb dX11_feedNumber_17 rfl (lv_at hl 1 rfl) ?_
  refine va_get (D := (dC, dI)) (ci := 11) (v := .ref tp) (C := RX11) (T := TX11) (N := 18) hx hb ht uX11 hown hK hP 0 rfl rfl 0 (by decide) (ht _ k_4_91) (fun _ h9 => h9) K0_F8 dX11_feedNumber_18 ?_
  refine lv_aload_n hx hb dX11_feedNumber_21 rfl (lv_at hl 1 rfl) ?_
  refine va_get (D := (dC, dI)) (ci := 11) (v := .int 18) (C := RX11) (T := TX11) (N := 18) hx hb ht uX11 hown hK hP 0 rfl rfl 1 (by decide) (ht _ k_4_92) (fun _ h9 => h9) K1_F8 dX11_feedNumber_22 ?_
  refine lv_iload_n hx hb dX11_feedNumber_25 rfl (lv_at hl 2 rfl) ?_
  refine lv_iload_n hx hb dX11_feedNumber_26 rfl (lv_at hl 0 rfl) ?_
  refine lv_iushr hx hb dX11_feedNumber_27 rfl ?_
  refine lv_topi (fun x9 ex9 => ?_)
  refine lv_i2b hx hb dX11_feedNumber_28 rfl ?_
  refine lv_topi (fun x10 ex10 => ?_)
  refine va_bast (i := 18) (x := x10) hx hb hK hP hD hS 1 0 rfl rfl (by unfold vp_in; decide) dX11_feedNumber_29 (fun H locs hP hD hS => ?_)
  obtain ⟨f11, ef11⟩ : ∃ g : Nat → Int32, g = upd f7 (18 : Int32).toNatClampNeg (vp_nar .byte x10) := ⟨_, rfl⟩
  rw [← ef11] at hP hD
  have hP : va_P (dC, dI) cls [(q, .inr (11, F8)), (tp, .inl (cT, 2000, .inl f11))] H := hP
  have hD : va_D A [(q, .inr (11, F8)), (tp, .inl (cT, 2000, .inl f11))] := hD
  refine lv_aload_n hx hb dX11_feedNumber_30 rfl (lv_at hl 1 rfl) ?_
  refine lv_dup hx hb dX11_feedNumber_31 rfl ?_
  refine va_get (D := (dC, dI)) (ci := 11) (v := .int 18) (C := RX11) (T := TX11) (N := 18) hx hb ht uX11 hown hK hP 0 rfl rfl 1 (by decide) (ht _ k_4_92) (fun _ h9 => h9) K1_F8 dX11_feedNumber_32 ?_
  refine lv_iconst (v := 1) hx hb dX11_feedNumber_35 (by decide) ?_
  refine lv_iadd hx hb dX11_feedNumber_36 ?_
  refine tk_i (y := 19) (by decide) ?_
  refine va_put (D := (dC, dI)) (ci := 11) (v := .int 19) (ty := .int) (C := RX11) (T := TX11) (N := 18) hx hb ht uX11 tyX11 tkX11 nmX11 hown hK hP hD hS 0 rfl rfl 1 (by decide) (ht _ k_4_92) (fun _ h9 => h9) rfl (by decide +kernel) rfl rfl (by rw [L_F8]; decide) dX11_feedNumber_37 (fun H locs hP hD hS => ?_)
  obtain ⟨F12, eF12⟩ : ∃ g : List Value, g = F8.set 1 (.int 19) := ⟨_, rfl⟩
  rw [← eF12] at hP hD
  have K0_F12 : F12[0]? = some (.ref tp) := by rw [eF12, List.getElem?_set_ne (by decide)]; exact K0_F8
  have K1_F12 : F12[1]? = some (.int 19) := by rw [eF12]; exact List.getElem?_set_self (by rw [L_F8]; decide)
  have L_F12 : F12.length = 18 := by rw [eF12, List.length_set]; exact L_F8
  have hP : va_P (dC, dI) cls [(q, .inr (11, F12)), (tp, .inl (cT, 2000, .inl f11))] H := hP
  have hD : va_D A [(q, .inr (11, F12)), (tp, .inl (cT, 2000, .inl f11))] := hD
  refine lv_iinc (v := 0) (lv' := [(2, .int 0), (0, .ref q), (1, .int p0)]) hx hb dX11_feedNumber_40 hl (k := 0) rfl (by decide) (by decide) rfl (fun ls hl => ?_)
  refine lv_goto (tgt := 3) hx hb dX11_feedNumber_43 (by decide) ?_
  refine lv_iload_n hx hb dX11_feedNumber_3 rfl (lv_at hl 0 rfl) ?_
  refine lv_if_lt (tgt := 46) hx hb dX11_feedNumber_4 (by decide) (fun c0 => absurd c0 (by decide)) (fun _ => ?_)
  refine lv_aload_n hx hb dX11_feedNumber_7 rfl (lv_at hl 1 rfl) ?_
  refine va_get (D := (dC, dI)) (ci := 11) (v := .int 19) (C := RX11) (T := TX11) (N := 18) hx hb ht uX11 hown hK hP 0 rfl rfl 1 (by decide) (ht _ k_4_92) (fun _ h9 => h9) K1_F12 dX11_feedNumber_8 ?_
  refine lv_sipush (v := 2000) hx hb dX11_feedNumber_11 (by decide) ?_
  refine lv_icmp_ge (tgt := 46) hx hb dX11_feedNumber_14 (by decide) (fun c0 => absurd c0 (by decide)) (fun _ => ?_)
  refine lv_aload_n hx hb dX11_feedNumber_17 rfl (lv_at hl 1 rfl) ?_
  refine va_get (D := (dC, dI)) (ci := 11) (v := .ref tp) (C := RX11) (T := TX11) (N := 18) hx hb ht uX11 hown hK hP 0 rfl rfl 0 (by decide) (ht _ k_4_91) (fun _ h9 => h9) K0_F12 dX11_feedNumber_18 ?_
  refine lv_aload_n hx hb dX11_feedNumber_21 rfl (lv_at hl 1 rfl) ?_
  refine va_get (D := (dC, dI)) (ci := 11) (v := .int 19) (C := RX11) (T := TX11) (N := 18) hx hb ht uX11 hown hK hP 0 rfl rfl 1 (by decide) (ht _ k_4_92) (fun _ h9 => h9) K1_F12 dX11_feedNumber_22 ?_
  refine lv_iload_n hx hb dX11_feedNumber_25 rfl (lv_at hl 2 rfl) ?_
  refine lv_iload_n hx hb dX11_feedNumber_26 rfl (lv_at hl 0 rfl) ?_
  refine lv_iushr hx hb dX11_feedNumber_27 rfl ?_
  refine lv_topi (fun x13 ex13 => ?_)
  refine lv_i2b hx hb dX11_feedNumber_28 rfl ?_
  refine lv_topi (fun x14 ex14 => ?_)
  refine va_bast (i := 19) (x := x14) hx hb hK hP hD hS 1 0 rfl rfl (by unfold vp_in; decide) dX11_feedNumber_29 (fun H locs hP hD hS => ?_)
  obtain ⟨f15, ef15⟩ : ∃ g : Nat → Int32, g = upd f11 (19 : Int32).toNatClampNeg (vp_nar .byte x14) := ⟨_, rfl⟩
  rw [← ef15] at hP hD
  have hP : va_P (dC, dI) cls [(q, .inr (11, F12)), (tp, .inl (cT, 2000, .inl f15))] H := hP
  have hD : va_D A [(q, .inr (11, F12)), (tp, .inl (cT, 2000, .inl f15))] := hD
  refine lv_aload_n hx hb dX11_feedNumber_30 rfl (lv_at hl 1 rfl) ?_
  refine lv_dup hx hb dX11_feedNumber_31 rfl ?_
  refine va_get (D := (dC, dI)) (ci := 11) (v := .int 19) (C := RX11) (T := TX11) (N := 18) hx hb ht uX11 hown hK hP 0 rfl rfl 1 (by decide) (ht _ k_4_92) (fun _ h9 => h9) K1_F12 dX11_feedNumber_32 ?_
  refine lv_iconst (v := 1) hx hb dX11_feedNumber_35 (by decide) ?_
  refine lv_iadd hx hb dX11_feedNumber_36 ?_
  refine tk_i (y := 20) (by decide) ?_
  refine va_put (D := (dC, dI)) (ci := 11) (v := .int 20) (ty := .int) (C := RX11) (T := TX11) (N := 18) hx hb ht uX11 tyX11 tkX11 nmX11 hown hK hP hD hS 0 rfl rfl 1 (by decide) (ht _ k_4_92) (fun _ h9 => h9) rfl (by decide +kernel) rfl rfl (by rw [L_F12]; decide) dX11_feedNumber_37 (fun H locs hP hD hS => ?_)
  obtain ⟨F16, eF16⟩ : ∃ g : List Value, g = F12.set 1 (.int 20) := ⟨_, rfl⟩
  rw [← eF16] at hP hD
  have K0_F16 : F16[0]? = some (.ref tp) := by rw [eF16, List.getElem?_set_ne (by decide)]; exact K0_F12
  have K1_F16 : F16[1]? = some (.int 20) := by rw [eF16]; exact List.getElem?_set_self (by rw [L_F12]; decide)
  have L_F16 : F16.length = 18 := by rw [eF16, List.length_set]; exact L_F12
  have hP : va_P (dC, dI) cls [(q, .inr (11, F16)), (tp, .inl (cT, 2000, .inl f15))] H := hP
  have hD : va_D A [(q, .inr (11, F16)), (tp, .inl (cT, 2000, .inl f15))] := hD
  refine lv_iinc (v := (-8)) (lv' := [(2, .int (-8)), (0, .ref q), (1, .int p0)]) hx hb dX11_feedNumber_40 hl (k := 0) rfl (by decide) (by decide) rfl (fun ls hl => ?_)
  refine lv_goto (tgt := 3) hx hb dX11_feedNumber_43 (by decide) ?_
  refine lv_iload_n hx hb dX11_feedNumber_3 rfl (lv_at hl 0 rfl) ?_
  refine lv_if_lt (tgt := 46) hx hb dX11_feedNumber_4 (by decide) (fun _ => ?_) (fun c0 => absurd c0 (by decide))
  exact W.vret hx hb hr (fun t ht9 hW => ⟨⟨(F16, f15), rfl, ⟨trivial, L_F16, K0_F16, K1_F16⟩, by rw [ht9]; exact hP.sub [0, 1] rfl, va_K.moved hW.alike (hK.sub [0] rfl), hD.sub [0, 1] (by decide) rfl⟩, hS.F ht9⟩) hS.2.2 dX11_feedNumber_46
set_option maxHeartbeats 4000000 in
set_option maxRecDepth 100000 in
theorem x_feed (l : Launch) (dC : Nat → ClassId) (dI : Nat → Nat → Nat) (sz : Nat) (q : Nat) (fs : List Value) (tp : Nat) (cT : ClassId) (ft : Nat → Int32) (p0 : Int32) (p1 : Int32) (p2 : Int32) (p3 : Int32) (p4 : Int32) (L_fs : fs.length = 18) (K0_fs : fs[0]? = some (.ref tp)) (K1_fs : fs[1]? = some (.int 0)) : Met l yX11_feed (Cond.code yX11_feed cX11_feed 6 (some .int) :: tb) ({ frames := 1, cells := 0, slots := 0, locals := 22 }) (pcw [.ref q, .int p0, .int p1, .int p2, .int p3, .int p4] (dC, dI) [(q, .inr (11, fs)), (tp, .inl (cT, 2000, .inl ft))] [(cT, .byte)] sz) (va_Qi (fun (r : Int32) => (fun (_ : Unit) => r = 20)) (bw (dC, dI) (va_A [(q, .inr (11, fs)), (tp, .inl (cT, 2000, .inl ft))] sz) (fun (_ : Unit) => []) (fun (_ : Unit) => [])) (va_A [(q, .inr (11, fs)), (tp, .inl (cT, 2000, .inl ft))] sz)) 0 0 (va_A [(q, .inr (11, fs)), (tp, .inl (cT, 2000, .inl ft))] sz) := by
  refine Met.ofW (cc := cX11_feed) (maxL := 6) (ret := (some .int)) (by decide) rfl ?_
  intro p e s m args below meth c s₁ B hml hv
  obtain ⟨rfl, hsz, hP, hK, hD0⟩ := hv
  have hx := B.exec
  have hb := B.bytes
  have hr := B.returns
  have hts := atoms_spec (ws := Cond.code yX11_feed cX11_feed 6 (some .int) :: tb) B.pre
  have ht : ∀ w ∈ tb, w.before _ s = true := fun w h => hts w (List.mem_cons_of_mem _ h)
  have hown : s.vm.findClass RX11 = some m.cls := findClass_of_methodNamed B.named
  have hlocks := B.notSynchronized
  subst hsz
  have hD := hD0.self (sz := s.heap.size)
  generalize hAe : va_A [(q, .inr (11, fs)), (tp, .inl (cT, 2000, .inl ft))] s.heap.size = A at hD ⊢
  have hA : ∀ q : Nat, s.heap.size ≤ q → A q := fun q h => by rw [← hAe]; exact Or.inr h
  have hS : va_S A s.heap s.heap [] := va_S.rf
  have hl := lv_entry ([.ref q, .int p0, .int p1, .int p2, .int p3, .int p4]) (n := 6) (Nat.le_of_ble_eq_true rfl)
  rw [lg_entry_eq]
  generalize (lg_sl ([.ref q, .int p0, .int p1, .int p2, .int p3, .int p4]) ++ List.replicate (6 - (lg_sl ([.ref q, .int p0, .int p1, .int p2, .int p3, .int p4])).length) Slot.unset).toArray = ls at hl ⊢
  have hl : lv_has ls 6 [(0, .ref q), (1, .int p0), (2, .int p1), (3, .int p2), (4, .int p3), (5, .int p4)] := hl
  have hP : va_P (dC, dI) cls [(q, .inr (11, fs)), (tp, .inl (cT, 2000, .inl ft))] s.heap := hP
  refine lv_aload_n hx hb dX11_feed_0 rfl (lv_at hl 0 rfl) ?_
  refine va_get (D := (dC, dI)) (ci := 11) (v := .int 0) (C := RX11) (T := TX11) (N := 18) hx hb ht uX11 hown hK hP 0 rfl rfl 1 (by decide) (ht _ k_4_92) (fun _ h9 => h9) K1_fs dX11_feed_1 ?_
  refine lv_bipush (v := 20) hx hb dX11_feed_4 (by decide) ?_
  refine lv_iadd hx hb dX11_feed_6 ?_
  refine tk_i (y := 20) (by decide) ?_
  refine lv_sipush (v := 2000) hx hb dX11_feed_7 (by decide) ?_
  refine lv_icmp_le (tgt := 23) hx hb dX11_feed_10 (by decide) (fun _ => ?_) (fun c0 => absurd c0 (by decide))
  refine lv_aload_n hx hb dX11_feed_23 rfl (lv_at hl 0 rfl) ?_
  refine lv_iload_n hx hb dX11_feed_24 rfl (lv_at hl 1 rfl) ?_
  refine ca_v (wr := []) (va_runV (As := [.int p0]) (rest := []) ⟨hx, hb, hml, hown, ht⟩ (x_feedNumber_0 l dC dI s.heap.size q fs tp cT ft p0 L_fs K0_fs K1_fs ) (cwV 1 ht (gdV k_9_168 k_9_165 k_9_167 ks_109 k_1_1) rfl rfl rfl (by decide +kernel) ⟨Nat.le_of_ble_eq_true rfl, Nat.le_of_ble_eq_true rfl⟩) ⟨pcw_blind, va_recv hK hP (ci := 11) (q0 := 0) rfl rfl, pcw_at hP hD hK [0, 1] [0] (by decide) rfl rfl rfl⟩ rfl rfl hl.1 rfl (lv_room (Nat.le_of_ble_eq_true rfl)) dX11_feed_25 ⟨Nat.le_of_ble_eq_true rfl, Nat.le_of_ble_eq_true rfl⟩) hP hD hK hS hA [0, 1] [] rfl rfl (by decide) (by decide) (fun u H locs w2 hK hP hD hS => ?_)
  obtain ⟨F3, y4⟩ := u
  have hK : va_K (dC, dI) cls [(cT, .byte), (cT, .byte)] s := hK
  have hP : va_P (dC, dI) cls [(q, .inr (11, F3)), (tp, .inl (cT, 2000, .inl y4))] H := hP
  have hD : va_D A [(q, .inr (11, F3)), (tp, .inl (cT, 2000, .inl y4))] := hD
  obtain ⟨w2, K5, K6, K7⟩ := w2
  refine lv_aload_n hx hb dX11_feed_28 rfl (lv_at hl 0 rfl) ?_
  refine lv_iload_n hx hb dX11_feed_29 rfl (lv_at hl 2 rfl) ?_
  refine ca_v (wr := []) (va_runV (As := [.int p1]) (rest := []) ⟨hx, hb, hml, hown, ht⟩ (x_feedNumber_4 l dC dI H.size q F3 tp cT y4 p1 K5 K6 K7 ) (cwV 1 ht (gdV k_9_168 k_9_165 k_9_167 ks_109 k_1_1) rfl rfl rfl (by decide +kernel) ⟨Nat.le_of_ble_eq_true rfl, Nat.le_of_ble_eq_true rfl⟩) ⟨pcw_blind, va_recv hK hP (ci := 11) (q0 := 0) rfl rfl, pcw_at hP hD hK [0, 1] [0] (by decide) rfl rfl rfl⟩ rfl rfl hl.1 rfl (lv_room (Nat.le_of_ble_eq_true rfl)) dX11_feed_30 ⟨Nat.le_of_ble_eq_true rfl, Nat.le_of_ble_eq_true rfl⟩) hP hD hK hS hA [0, 1] [] rfl rfl (by decide) (by decide) (fun u H locs w9 hK hP hD hS => ?_)
  obtain ⟨F10, y11⟩ := u
  have hK : va_K (dC, dI) cls [(cT, .byte), (cT, .byte), (cT, .byte)] s := hK
  have hP : va_P (dC, dI) cls [(q, .inr (11, F10)), (tp, .inl (cT, 2000, .inl y11))] H := hP
  have hD : va_D A [(q, .inr (11, F10)), (tp, .inl (cT, 2000, .inl y11))] := hD
  obtain ⟨w9, K12, K13, K14⟩ := w9
  refine lv_aload_n hx hb dX11_feed_33 rfl (lv_at hl 0 rfl) ?_
  refine lv_iload_n hx hb dX11_feed_34 rfl (lv_at hl 3 rfl) ?_
  refine ca_v (wr := []) (va_runV (As := [.int p2]) (rest := []) ⟨hx, hb, hml, hown, ht⟩ (x_feedNumber_8 l dC dI H.size q F10 tp cT y11 p2 K12 K13 K14 ) (cwV 1 ht (gdV k_9_168 k_9_165 k_9_167 ks_109 k_1_1) rfl rfl rfl (by decide +kernel) ⟨Nat.le_of_ble_eq_true rfl, Nat.le_of_ble_eq_true rfl⟩) ⟨pcw_blind, va_recv hK hP (ci := 11) (q0 := 0) rfl rfl, pcw_at hP hD hK [0, 1] [0] (by decide) rfl rfl rfl⟩ rfl rfl hl.1 rfl (lv_room (Nat.le_of_ble_eq_true rfl)) dX11_feed_35 ⟨Nat.le_of_ble_eq_true rfl, Nat.le_of_ble_eq_true rfl⟩) hP hD hK hS hA [0, 1] [] rfl rfl (by decide) (by decide) (fun u H locs w16 hK hP hD hS => ?_)
  obtain ⟨F17, y18⟩ := u
  have hK : va_K (dC, dI) cls [(cT, .byte), (cT, .byte), (cT, .byte), (cT, .byte)] s := hK
  have hP : va_P (dC, dI) cls [(q, .inr (11, F17)), (tp, .inl (cT, 2000, .inl y18))] H := hP
  have hD : va_D A [(q, .inr (11, F17)), (tp, .inl (cT, 2000, .inl y18))] := hD
  obtain ⟨w16, K19, K20, K21⟩ := w16
  refine lv_aload_n hx hb dX11_feed_38 rfl (lv_at hl 0 rfl) ?_
  refine lv_iload hx hb dX11_feed_39 (lv_at hl 4 rfl) ?_
  refine ca_v (wr := []) (va_runV (As := [.int p3]) (rest := []) ⟨hx, hb, hml, hown, ht⟩ (x_feedNumber_12 l dC dI H.size q F17 tp cT y18 p3 K19 K20 K21 ) (cwV 1 ht (gdV k_9_168 k_9_165 k_9_167 ks_109 k_1_1) rfl rfl rfl (by decide +kernel) ⟨Nat.le_of_ble_eq_true rfl, Nat.le_of_ble_eq_true rfl⟩) ⟨pcw_blind, va_recv hK hP (ci := 11) (q0 := 0) rfl rfl, pcw_at hP hD hK [0, 1] [0] (by decide) rfl rfl rfl⟩ rfl rfl hl.1 rfl (lv_room (Nat.le_of_ble_eq_true rfl)) dX11_feed_41 ⟨Nat.le_of_ble_eq_true rfl, Nat.le_of_ble_eq_true rfl⟩) hP hD hK hS hA [0, 1] [] rfl rfl (by decide) (by decide) (fun u H locs w23 hK hP hD hS => ?_)
  obtain ⟨F24, y25⟩ := u
  have hK : va_K (dC, dI) cls [(cT, .byte), (cT, .byte), (cT, .byte), (cT, .byte), (cT, .byte)] s := hK
  have hP : va_P (dC, dI) cls [(q, .inr (11, F24)), (tp, .inl (cT, 2000, .inl y25))] H := hP
  have hD : va_D A [(q, .inr (11, F24)), (tp, .inl (cT, 2000, .inl y25))] := hD
  obtain ⟨w23, K26, K27, K28⟩ := w23
  refine lv_aload_n hx hb dX11_feed_44 rfl (lv_at hl 0 rfl) ?_
  refine lv_iload hx hb dX11_feed_45 (lv_at hl 5 rfl) ?_
  refine ca_v (wr := []) (va_runV (As := [.int p4]) (rest := []) ⟨hx, hb, hml, hown, ht⟩ (x_feedNumber_16 l dC dI H.size q F24 tp cT y25 p4 K26 K27 K28 ) (cwV 1 ht (gdV k_9_168 k_9_165 k_9_167 ks_109 k_1_1) rfl rfl rfl (by decide +kernel) ⟨Nat.le_of_ble_eq_true rfl, Nat.le_of_ble_eq_true rfl⟩) ⟨pcw_blind, va_recv hK hP (ci := 11) (q0 := 0) rfl rfl, pcw_at hP hD hK [0, 1] [0] (by decide) rfl rfl rfl⟩ rfl rfl hl.1 rfl (lv_room (Nat.le_of_ble_eq_true rfl)) dX11_feed_47 ⟨Nat.le_of_ble_eq_true rfl, Nat.le_of_ble_eq_true rfl⟩) hP hD hK hS hA [0, 1] [] rfl rfl (by decide) (by decide) (fun u H locs w30 hK hP hD hS => ?_)
  obtain ⟨F31, y32⟩ := u
  have hK : va_K (dC, dI) cls [(cT, .byte), (cT, .byte), (cT, .byte), (cT, .byte), (cT, .byte), (cT, .byte)] s := hK
  have hP : va_P (dC, dI) cls [(q, .inr (11, F31)), (tp, .inl (cT, 2000, .inl y32))] H := hP
  have hD : va_D A [(q, .inr (11, F31)), (tp, .inl (cT, 2000, .inl y32))] := hD
  obtain ⟨w30, K33, K34, K35⟩ := w30
  refine lv_aload_n hx hb dX11_feed_50 rfl (lv_at hl 0 rfl) ?_
  refine va_get (D := (dC, dI)) (ci := 11) (v := .int 20) (C := RX11) (T := TX11) (N := 18) hx hb ht uX11 hown hK hP 0 rfl rfl 1 (by decide) (ht _ k_4_92) (fun _ h9 => h9) K35 dX11_feed_51 ?_
  exact W.iret (v := 20) hx hb hr (fun t ht9 hW => ⟨⟨20, (), rfl, rfl, by rw [ht9]; exact hP.sub [] rfl, va_K.moved hW.alike (hK.sub [] rfl), hD.sub [] (by decide) rfl⟩, hS.F ht9⟩) hS.2.2 dX11_feed_54
