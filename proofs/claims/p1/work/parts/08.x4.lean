theorem dX6_next_0 : decode cX6_next 0 = .ok (.aload_n 0, 1) := by decide +kernel
theorem k_1_216 : Jvm.Cond.fieldLink "FinderHouse$Reader" (65 : Nat) "FinderHouse$Reader" "pos" "I" ∈ tb := tb1 216 (by decide +kernel) (by decide +kernel)
theorem dX6_next_1 : decode cX6_next 1 = .ok (.getfield 65, 3) := by decide +kernel
theorem dX6_next_4 : decode cX6_next 4 = .ok (.aload_n 0, 1) := by decide +kernel
theorem k_1_215 : Jvm.Cond.fieldLink "FinderHouse$Reader" (62 : Nat) "FinderHouse$Reader" "size" "I" ∈ tb := tb1 215 (by decide +kernel) (by decide +kernel)
theorem dX6_next_5 : decode cX6_next 5 = .ok (.getfield 62, 3) := by decide +kernel
theorem dX6_next_8 : decode cX6_next 8 = .ok (.if_icmp .ge 54, 3) := by decide +kernel
theorem dX6_next_62 : decode cX6_next 62 = .ok (.aload_n 0, 1) := by decide +kernel
theorem dX6_next_63 : decode cX6_next 63 = .ok (.aload_n 0, 1) := by decide +kernel
theorem dX6_next_64 : decode cX6_next 64 = .ok (.getfield 65, 3) := by decide +kernel
theorem k_1_218 : Jvm.Cond.fieldLink "FinderHouse$Reader" (85 : Nat) "FinderHouse$Reader" "at" "I" ∈ tb := tb1 218 (by decide +kernel) (by decide +kernel)
theorem dX6_next_67 : decode cX6_next 67 = .ok (.putfield 85, 3) := by decide +kernel
theorem dX6_next_70 : decode cX6_next 70 = .ok (.aload_n 0, 1) := by decide +kernel
theorem dX6_next_71 : decode cX6_next 71 = .ok (.getfield 65, 3) := by decide +kernel
theorem dX6_next_74 : decode cX6_next 74 = .ok (.aload_n 0, 1) := by decide +kernel
theorem dX6_next_75 : decode cX6_next 75 = .ok (.getfield 62, 3) := by decide +kernel
theorem dX6_next_78 : decode cX6_next 78 = .ok (.if_icmp .lt 9, 3) := by decide +kernel
theorem dX6_next_81 : decode cX6_next 81 = .ok (.aload_n 0, 1) := by decide +kernel
theorem dX6_next_82 : decode cX6_next 82 = .ok (.iconst 0, 1) := by decide +kernel
theorem k_1_217 : Jvm.Cond.fieldLink "FinderHouse$Reader" (88 : Nat) "FinderHouse$Reader" "sort" "I" ∈ tb := tb1 217 (by decide +kernel) (by decide +kernel)
theorem dX6_next_83 : decode cX6_next 83 = .ok (.putfield 88, 3) := by decide +kernel
theorem dX6_next_86 : decode cX6_next 86 = .ok (.return_, 1) := by decide +kernel
theorem dX6_begin_0 : decode cX6_begin 0 = .ok (.iload_n 2, 1) := by decide +kernel
theorem dX6_begin_1 : decode cX6_begin 1 = .ok (.ifCond .lt 19, 3) := by decide +kernel
theorem dX6_begin_4 : decode cX6_begin 4 = .ok (.iload_n 3, 1) := by decide +kernel
theorem dX6_begin_5 : decode cX6_begin 5 = .ok (.ifCond .lt 15, 3) := by decide +kernel
theorem dX6_begin_8 : decode cX6_begin 8 = .ok (.iload_n 2, 1) := by decide +kernel
theorem dX6_begin_9 : decode cX6_begin 9 = .ok (.iload_n 3, 1) := by decide +kernel
theorem dX6_begin_10 : decode cX6_begin 10 = .ok (.iadd, 1) := by decide +kernel
theorem dX6_begin_11 : decode cX6_begin 11 = .ok (.aload_n 1, 1) := by decide +kernel
theorem dX6_begin_12 : decode cX6_begin 12 = .ok (.arraylength, 1) := by decide +kernel
theorem dX6_begin_13 : decode cX6_begin 13 = .ok (.if_icmp .gt 7, 3) := by decide +kernel
theorem dX6_begin_16 : decode cX6_begin 16 = .ok (.iconst 1, 1) := by decide +kernel
theorem dX6_begin_17 : decode cX6_begin 17 = .ok (.goto 4, 3) := by decide +kernel
theorem dX6_begin_21 : decode cX6_begin 21 = .ok (.istore 4, 2) := by decide +kernel
theorem dX6_begin_23 : decode cX6_begin 23 = .ok (.aload_n 0, 1) := by decide +kernel
theorem dX6_begin_24 : decode cX6_begin 24 = .ok (.aload_n 1, 1) := by decide +kernel
theorem k_1_213 : Jvm.Cond.fieldLink "FinderHouse$Reader" (54 : Nat) "FinderHouse$Reader" "text" "[B" ∈ tb := tb1 213 (by decide +kernel) (by decide +kernel)
theorem dX6_begin_25 : decode cX6_begin 25 = .ok (.putfield 54, 3) := by decide +kernel
theorem dX6_begin_28 : decode cX6_begin 28 = .ok (.aload_n 0, 1) := by decide +kernel
theorem dX6_begin_29 : decode cX6_begin 29 = .ok (.iload 4, 2) := by decide +kernel
theorem dX6_begin_31 : decode cX6_begin 31 = .ok (.ifCond .eq 7, 3) := by decide +kernel
theorem dX6_begin_34 : decode cX6_begin 34 = .ok (.iload_n 2, 1) := by decide +kernel
theorem dX6_begin_35 : decode cX6_begin 35 = .ok (.goto 4, 3) := by decide +kernel
theorem k_1_214 : Jvm.Cond.fieldLink "FinderHouse$Reader" (58 : Nat) "FinderHouse$Reader" "from" "I" ∈ tb := tb1 214 (by decide +kernel) (by decide +kernel)
theorem dX6_begin_39 : decode cX6_begin 39 = .ok (.putfield 58, 3) := by decide +kernel
theorem dX6_begin_42 : decode cX6_begin 42 = .ok (.aload_n 0, 1) := by decide +kernel
theorem dX6_begin_43 : decode cX6_begin 43 = .ok (.iload 4, 2) := by decide +kernel
theorem dX6_begin_45 : decode cX6_begin 45 = .ok (.ifCond .eq 7, 3) := by decide +kernel
theorem dX6_begin_48 : decode cX6_begin 48 = .ok (.iload_n 3, 1) := by decide +kernel
theorem dX6_begin_49 : decode cX6_begin 49 = .ok (.goto 4, 3) := by decide +kernel
theorem dX6_begin_53 : decode cX6_begin 53 = .ok (.putfield 62, 3) := by decide +kernel
theorem dX6_begin_56 : decode cX6_begin 56 = .ok (.aload_n 0, 1) := by decide +kernel
theorem dX6_begin_57 : decode cX6_begin 57 = .ok (.iconst 0, 1) := by decide +kernel
theorem dX6_begin_58 : decode cX6_begin 58 = .ok (.putfield 65, 3) := by decide +kernel
theorem dX6_begin_61 : decode cX6_begin 61 = .ok (.aload_n 0, 1) := by decide +kernel
theorem dX6_begin_62 : decode cX6_begin 62 = .ok (.iconst 0, 1) := by decide +kernel
theorem k_1_221 : Jvm.Cond.fieldLink "FinderHouse$Reader" (68 : Nat) "FinderHouse$Reader" "fault" "I" ∈ tb := tb1 221 (by decide +kernel) (by decide +kernel)
theorem dX6_begin_63 : decode cX6_begin 63 = .ok (.putfield 68, 3) := by decide +kernel
theorem dX6_begin_66 : decode cX6_begin 66 = .ok (.aload_n 0, 1) := by decide +kernel
theorem dX6_begin_67 : decode cX6_begin 67 = .ok (.iconst 0, 1) := by decide +kernel
theorem k_1_223 : Jvm.Cond.fieldLink "FinderHouse$Reader" (71 : Nat) "FinderHouse$Reader" "faultAt" "I" ∈ tb := tb1 223 (by decide +kernel) (by decide +kernel)
theorem dX6_begin_68 : decode cX6_begin 68 = .ok (.putfield 71, 3) := by decide +kernel
theorem dX6_begin_71 : decode cX6_begin 71 = .ok (.aload_n 0, 1) := by decide +kernel
theorem k_1_225 : Jvm.Cond.fieldLink "FinderHouse$Reader" (14 : Nat) "FinderHouse$Reader" "nodes" "LFinderHouse$Term;" ∈ tb := tb1 225 (by decide +kernel) (by decide +kernel)
theorem dX6_begin_72 : decode cX6_begin 72 = .ok (.getfield 14, 3) := by decide +kernel
theorem dX6_begin_75 : decode cX6_begin 75 = .ok (.iconst 0, 1) := by decide +kernel
theorem k_1_124 : Jvm.Cond.fieldLink "FinderHouse$Reader" (74 : Nat) "FinderHouse$Term" "size" "I" ∈ tb := tb1 124 (by decide +kernel) (by decide +kernel)
theorem dX6_begin_76 : decode cX6_begin 76 = .ok (.putfield 74, 3) := by decide +kernel
theorem dX6_begin_79 : decode cX6_begin 79 = .ok (.aload_n 0, 1) := by decide +kernel
theorem dX6_begin_80 : decode cX6_begin 80 = .ok (.iconst (-1), 1) := by decide +kernel
theorem k_1_233 : Jvm.Cond.fieldLink "FinderHouse$Reader" (75 : Nat) "FinderHouse$Reader" "holes" "I" ∈ tb := tb1 233 (by decide +kernel) (by decide +kernel)
theorem dX6_begin_81 : decode cX6_begin 81 = .ok (.putfield 75, 3) := by decide +kernel
theorem dX6_begin_84 : decode cX6_begin 84 = .ok (.aload_n 0, 1) := by decide +kernel
theorem dX6_begin_85 : decode cX6_begin 85 = .ok (.aconst_null, 1) := by decide +kernel
theorem k_1_232 : Jvm.Cond.fieldLink "FinderHouse$Reader" (78 : Nat) "FinderHouse$Reader" "lawOf" "LFinderHouse$Ask;" ∈ tb := tb1 232 (by decide +kernel) (by decide +kernel)
theorem dX6_begin_86 : decode cX6_begin 86 = .ok (.putfield 78, 3) := by decide +kernel
theorem dX6_begin_89 : decode cX6_begin 89 = .ok (.aload_n 0, 1) := by decide +kernel
theorem k_4_177 : Jvm.Cond.code ({ cls := "FinderHouse$Reader", name := "next", desc := "()V" } : Jvm.MethodName) prog_8_method_6_code (2 : Nat) (Option.none : Option Jvm.ClassFile.FieldType) ∈ tb := tb4 177 (by decide +kernel) (by decide +kernel)
theorem k_4_174 : Jvm.Cond.methodLink "FinderHouse$Reader" (82 : Nat) ({ cls := "FinderHouse$Reader", name := "next", desc := "()V" } : Jvm.MethodName) ∈ tb := tb4 174 (by decide +kernel) (by decide +kernel)
theorem k_4_176 : Jvm.Cond.instanceMethod ({ cls := "FinderHouse$Reader", name := "next", desc := "()V" } : Jvm.MethodName) ∈ tb := tb4 176 (by decide +kernel) (by decide +kernel)
theorem ks_3 : Jvm.Cond.selects "FinderHouse$Reader" ({ cls := "FinderHouse$Reader", name := "next", desc := "()V" } : Jvm.MethodName) ({ cls := "FinderHouse$Reader", name := "next", desc := "()V" } : Jvm.MethodName) ∈ tb := tbp 3 (by decide +kernel) (by decide +kernel)
theorem dX6_begin_90 : decode cX6_begin 90 = .ok (.invokevirtual 82, 3) := by decide +kernel
theorem dX6_begin_93 : decode cX6_begin 93 = .ok (.return_, 1) := by decide +kernel
theorem dX6_stop_0 : decode cX6_stop 0 = .ok (.aload_n 0, 1) := by decide +kernel
theorem dX6_stop_1 : decode cX6_stop 1 = .ok (.getfield 68, 3) := by decide +kernel
theorem dX6_stop_4 : decode cX6_stop 4 = .ok (.iconst 1, 1) := by decide +kernel
theorem dX6_stop_5 : decode cX6_stop 5 = .ok (.if_icmp .eq 16, 3) := by decide +kernel
theorem dX6_stop_8 : decode cX6_stop 8 = .ok (.aload_n 0, 1) := by decide +kernel
theorem dX6_stop_9 : decode cX6_stop 9 = .ok (.iconst 1, 1) := by decide +kernel
theorem dX6_stop_10 : decode cX6_stop 10 = .ok (.putfield 68, 3) := by decide +kernel
theorem dX6_stop_13 : decode cX6_stop 13 = .ok (.aload_n 0, 1) := by decide +kernel
theorem dX6_stop_14 : decode cX6_stop 14 = .ok (.aload_n 0, 1) := by decide +kernel
theorem dX6_stop_15 : decode cX6_stop 15 = .ok (.getfield 85, 3) := by decide +kernel
theorem dX6_stop_18 : decode cX6_stop 18 = .ok (.putfield 71, 3) := by decide +kernel
theorem dX6_stop_21 : decode cX6_stop 21 = .ok (.iconst 0, 1) := by decide +kernel
theorem dX6_stop_22 : decode cX6_stop 22 = .ok (.ireturn, 1) := by decide +kernel
theorem dX6_valueTold_0 : decode cX6_valueTold 0 = .ok (.aload_n 0, 1) := by decide +kernel
theorem dX6_valueTold_1 : decode cX6_valueTold 1 = .ok (.getfield 88, 3) := by decide +kernel
theorem dX6_valueTold_4 : decode cX6_valueTold 4 = .ok (.iconst 2, 1) := by decide +kernel
theorem dX6_valueTold_5 : decode cX6_valueTold 5 = .ok (.if_icmp .ne 5, 3) := by decide +kernel
theorem dX6_valueTold_10 : decode cX6_valueTold 10 = .ok (.aload_n 0, 1) := by decide +kernel
theorem dX6_valueTold_11 : decode cX6_valueTold 11 = .ok (.getfield 88, 3) := by decide +kernel
theorem dX6_valueTold_14 : decode cX6_valueTold 14 = .ok (.iconst 3, 1) := by decide +kernel
theorem dX6_valueTold_15 : decode cX6_valueTold 15 = .ok (.if_icmp .ne 5, 3) := by decide +kernel
theorem dX6_valueTold_20 : decode cX6_valueTold 20 = .ok (.aload_n 0, 1) := by decide +kernel
theorem dX6_valueTold_21 : decode cX6_valueTold 21 = .ok (.getfield 88, 3) := by decide +kernel
theorem dX6_valueTold_24 : decode cX6_valueTold 24 = .ok (.iconst 1, 1) := by decide +kernel
theorem dX6_valueTold_25 : decode cX6_valueTold 25 = .ok (.if_icmp .ne 47, 3) := by decide +kernel
theorem dX6_valueTold_72 : decode cX6_valueTold 72 = .ok (.iconst 0, 1) := by decide +kernel
theorem dX6_valueTold_73 : decode cX6_valueTold 73 = .ok (.ireturn, 1) := by decide +kernel
theorem dX6_readTerm_0 : decode cX6_readTerm 0 = .ok (.iload_n 1, 1) := by decide +kernel
theorem dX6_readTerm_1 : decode cX6_readTerm 1 = .ok (.bipush 12, 2) := by decide +kernel
theorem dX6_readTerm_3 : decode cX6_readTerm 3 = .ok (.if_icmp .le 8, 3) := by decide +kernel
theorem dX6_readTerm_11 : decode cX6_readTerm 11 = .ok (.aload_n 0, 1) := by decide +kernel
theorem k_5_9 : Jvm.Cond.code ({ cls := "FinderHouse$Reader", name := "valueTold", desc := "()I" } : Jvm.MethodName) prog_8_method_19_code (1 : Nat) (Option.some Jvm.ClassFile.FieldType.int) ∈ tb := tb5 9 (by decide +kernel) (by decide +kernel)
theorem k_5_6 : Jvm.Cond.methodLink "FinderHouse$Reader" (160 : Nat) ({ cls := "FinderHouse$Reader", name := "valueTold", desc := "()I" } : Jvm.MethodName) ∈ tb := tb5 6 (by decide +kernel) (by decide +kernel)
theorem k_5_8 : Jvm.Cond.instanceMethod ({ cls := "FinderHouse$Reader", name := "valueTold", desc := "()I" } : Jvm.MethodName) ∈ tb := tb5 8 (by decide +kernel) (by decide +kernel)
theorem ks_17 : Jvm.Cond.selects "FinderHouse$Reader" ({ cls := "FinderHouse$Reader", name := "valueTold", desc := "()I" } : Jvm.MethodName) ({ cls := "FinderHouse$Reader", name := "valueTold", desc := "()I" } : Jvm.MethodName) ∈ tb := tbp 17 (by decide +kernel) (by decide +kernel)
theorem dX6_readTerm_12 : decode cX6_readTerm 12 = .ok (.invokevirtual 160, 3) := by decide +kernel
theorem dX6_readTerm_15 : decode cX6_readTerm 15 = .ok (.istore_n 2, 1) := by decide +kernel
theorem dX6_readTerm_16 : decode cX6_readTerm 16 = .ok (.aload_n 0, 1) := by decide +kernel
theorem dX6_readTerm_17 : decode cX6_readTerm 17 = .ok (.iconst 0, 1) := by decide +kernel
theorem k_1_237 : Jvm.Cond.fieldLink "FinderHouse$Reader" (157 : Nat) "FinderHouse$Reader" "weight" "I" ∈ tb := tb1 237 (by decide +kernel) (by decide +kernel)
theorem dX6_readTerm_18 : decode cX6_readTerm 18 = .ok (.putfield 157, 3) := by decide +kernel
theorem dX6_readTerm_21 : decode cX6_readTerm 21 = .ok (.iload_n 2, 1) := by decide +kernel
theorem dX6_readTerm_22 : decode cX6_readTerm 22 = .ok (.ifCond .eq 32, 3) := by decide +kernel
theorem dX6_readTerm_54 : decode cX6_readTerm 54 = .ok (.aload_n 0, 1) := by decide +kernel
theorem dX6_readTerm_55 : decode cX6_readTerm 55 = .ok (.getfield 88, 3) := by decide +kernel
theorem dX6_readTerm_58 : decode cX6_readTerm 58 = .ok (.bipush 63, 2) := by decide +kernel
theorem dX6_readTerm_60 : decode cX6_readTerm 60 = .ok (.if_icmp .ne 21, 3) := by decide +kernel
theorem dX6_readTerm_81 : decode cX6_readTerm 81 = .ok (.aload_n 0, 1) := by decide +kernel
theorem dX6_readTerm_82 : decode cX6_readTerm 82 = .ok (.getfield 88, 3) := by decide +kernel
theorem dX6_readTerm_85 : decode cX6_readTerm 85 = .ok (.iconst 1, 1) := by decide +kernel
theorem dX6_readTerm_86 : decode cX6_readTerm 86 = .ok (.if_icmp .eq 8, 3) := by decide +kernel
theorem dX6_readTerm_89 : decode cX6_readTerm 89 = .ok (.aload_n 0, 1) := by decide +kernel
theorem k_4_217 : Jvm.Cond.code ({ cls := "FinderHouse$Reader", name := "stop", desc := "()Z" } : Jvm.MethodName) prog_8_method_11_code (1 : Nat) (Option.some Jvm.ClassFile.FieldType.boolean) ∈ tb := tb4 217 (by decide +kernel) (by decide +kernel)
theorem k_4_214 : Jvm.Cond.methodLink "FinderHouse$Reader" (110 : Nat) ({ cls := "FinderHouse$Reader", name := "stop", desc := "()Z" } : Jvm.MethodName) ∈ tb := tb4 214 (by decide +kernel) (by decide +kernel)
theorem k_4_216 : Jvm.Cond.instanceMethod ({ cls := "FinderHouse$Reader", name := "stop", desc := "()Z" } : Jvm.MethodName) ∈ tb := tb4 216 (by decide +kernel) (by decide +kernel)
theorem ks_10 : Jvm.Cond.selects "FinderHouse$Reader" ({ cls := "FinderHouse$Reader", name := "stop", desc := "()Z" } : Jvm.MethodName) ({ cls := "FinderHouse$Reader", name := "stop", desc := "()Z" } : Jvm.MethodName) ∈ tb := tbp 10 (by decide +kernel) (by decide +kernel)
theorem dX6_readTerm_90 : decode cX6_readTerm 90 = .ok (.invokevirtual 110, 3) := by decide +kernel
theorem dX6_readTerm_93 : decode cX6_readTerm 93 = .ok (.ireturn, 1) := by decide +kernel
theorem dX6_readWhole_0 : decode cX6_readWhole 0 = .ok (.aload_n 0, 1) := by decide +kernel
theorem dX6_readWhole_1 : decode cX6_readWhole 1 = .ok (.getfield 85, 3) := by decide +kernel
theorem dX6_readWhole_4 : decode cX6_readWhole 4 = .ok (.istore_n 2, 1) := by decide +kernel
theorem dX6_readWhole_5 : decode cX6_readWhole 5 = .ok (.aload_n 0, 1) := by decide +kernel
theorem dX6_readWhole_6 : decode cX6_readWhole 6 = .ok (.iconst 0, 1) := by decide +kernel
theorem k_5_81 : Jvm.Cond.code ({ cls := "FinderHouse$Reader", name := "readTerm", desc := "(I)Z" } : Jvm.MethodName) prog_8_method_24_code (6 : Nat) (Option.some Jvm.ClassFile.FieldType.boolean) ∈ tb := tb5 81 (by decide +kernel) (by decide +kernel)
theorem k_5_78 : Jvm.Cond.methodLink "FinderHouse$Reader" (146 : Nat) ({ cls := "FinderHouse$Reader", name := "readTerm", desc := "(I)Z" } : Jvm.MethodName) ∈ tb := tb5 78 (by decide +kernel) (by decide +kernel)
theorem k_5_80 : Jvm.Cond.instanceMethod ({ cls := "FinderHouse$Reader", name := "readTerm", desc := "(I)Z" } : Jvm.MethodName) ∈ tb := tb5 80 (by decide +kernel) (by decide +kernel)
theorem ks_26 : Jvm.Cond.selects "FinderHouse$Reader" ({ cls := "FinderHouse$Reader", name := "readTerm", desc := "(I)Z" } : Jvm.MethodName) ({ cls := "FinderHouse$Reader", name := "readTerm", desc := "(I)Z" } : Jvm.MethodName) ∈ tb := tbp 26 (by decide +kernel) (by decide +kernel)
theorem dX6_readWhole_7 : decode cX6_readWhole 7 = .ok (.invokevirtual 146, 3) := by decide +kernel
theorem dX6_readWhole_10 : decode cX6_readWhole 10 = .ok (.ifCond .ne 5, 3) := by decide +kernel
theorem dX6_readWhole_13 : decode cX6_readWhole 13 = .ok (.iconst (-1), 1) := by decide +kernel
theorem dX6_readWhole_14 : decode cX6_readWhole 14 = .ok (.ireturn, 1) := by decide +kernel
theorem dX6_readTold_0 : decode cX6_readTold 0 = .ok (.aload_n 0, 1) := by decide +kernel
theorem dX6_readTold_1 : decode cX6_readTold 1 = .ok (.aload_n 1, 1) := by decide +kernel
theorem dX6_readTold_2 : decode cX6_readTold 2 = .ok (.iload_n 2, 1) := by decide +kernel
theorem dX6_readTold_3 : decode cX6_readTold 3 = .ok (.iload_n 3, 1) := by decide +kernel
theorem k_4_173 : Jvm.Cond.code ({ cls := "FinderHouse$Reader", name := "begin", desc := "([BII)V" } : Jvm.MethodName) prog_8_method_5_code (5 : Nat) (Option.none : Option Jvm.ClassFile.FieldType) ∈ tb := tb4 173 (by decide +kernel) (by decide +kernel)
theorem k_4_170 : Jvm.Cond.methodLink "FinderHouse$Reader" (138 : Nat) ({ cls := "FinderHouse$Reader", name := "begin", desc := "([BII)V" } : Jvm.MethodName) ∈ tb := tb4 170 (by decide +kernel) (by decide +kernel)
theorem k_4_172 : Jvm.Cond.instanceMethod ({ cls := "FinderHouse$Reader", name := "begin", desc := "([BII)V" } : Jvm.MethodName) ∈ tb := tb4 172 (by decide +kernel) (by decide +kernel)
theorem ks_2 : Jvm.Cond.selects "FinderHouse$Reader" ({ cls := "FinderHouse$Reader", name := "begin", desc := "([BII)V" } : Jvm.MethodName) ({ cls := "FinderHouse$Reader", name := "begin", desc := "([BII)V" } : Jvm.MethodName) ∈ tb := tbp 2 (by decide +kernel) (by decide +kernel)
theorem dX6_readTold_4 : decode cX6_readTold 4 = .ok (.invokevirtual 138, 3) := by decide +kernel
theorem dX6_readTold_7 : decode cX6_readTold 7 = .ok (.aload_n 0, 1) := by decide +kernel
theorem dX6_readTold_8 : decode cX6_readTold 8 = .ok (.iload 5, 2) := by decide +kernel
theorem dX6_readTold_10 : decode cX6_readTold 10 = .ok (.putfield 75, 3) := by decide +kernel
theorem dX6_readTold_13 : decode cX6_readTold 13 = .ok (.aload_n 0, 1) := by decide +kernel
theorem dX6_readTold_14 : decode cX6_readTold 14 = .ok (.iload 4, 2) := by decide +kernel
theorem k_5_77 : Jvm.Cond.code ({ cls := "FinderHouse$Reader", name := "readWhole", desc := "(I)I" } : Jvm.MethodName) prog_8_method_23_code (3 : Nat) (Option.some Jvm.ClassFile.FieldType.int) ∈ tb := tb5 77 (by decide +kernel) (by decide +kernel)
theorem k_5_74 : Jvm.Cond.methodLink "FinderHouse$Reader" (142 : Nat) ({ cls := "FinderHouse$Reader", name := "readWhole", desc := "(I)I" } : Jvm.MethodName) ∈ tb := tb5 74 (by decide +kernel) (by decide +kernel)
theorem k_5_76 : Jvm.Cond.instanceMethod ({ cls := "FinderHouse$Reader", name := "readWhole", desc := "(I)I" } : Jvm.MethodName) ∈ tb := tb5 76 (by decide +kernel) (by decide +kernel)
theorem ks_25 : Jvm.Cond.selects "FinderHouse$Reader" ({ cls := "FinderHouse$Reader", name := "readWhole", desc := "(I)I" } : Jvm.MethodName) ({ cls := "FinderHouse$Reader", name := "readWhole", desc := "(I)I" } : Jvm.MethodName) ∈ tb := tbp 25 (by decide +kernel) (by decide +kernel)
theorem dX6_readTold_16 : decode cX6_readTold 16 = .ok (.invokevirtual 142, 3) := by decide +kernel
theorem dX6_readTold_19 : decode cX6_readTold 19 = .ok (.ifCond .lt 15, 3) := by decide +kernel
theorem dX6_readTold_34 : decode cX6_readTold 34 = .ok (.return_, 1) := by decide +kernel
theorem dX6_setScope_0 : decode cX6_setScope 0 = .ok (.aload_n 0, 1) := by decide +kernel
theorem dX6_setScope_1 : decode cX6_setScope 1 = .ok (.iconst 0, 1) := by decide +kernel
theorem k_1_228 : Jvm.Cond.fieldLink "FinderHouse$Reader" (131 : Nat) "FinderHouse$Reader" "scope" "I" ∈ tb := tb1 228 (by decide +kernel) (by decide +kernel)
theorem dX6_setScope_2 : decode cX6_setScope 2 = .ok (.putfield 131, 3) := by decide +kernel
theorem dX6_setScope_5 : decode cX6_setScope 5 = .ok (.iconst 0, 1) := by decide +kernel
theorem dX6_setScope_6 : decode cX6_setScope 6 = .ok (.istore_n 3, 1) := by decide +kernel
theorem dX6_setScope_7 : decode cX6_setScope 7 = .ok (.iload_n 3, 1) := by decide +kernel
theorem dX6_setScope_8 : decode cX6_setScope 8 = .ok (.iload_n 1, 1) := by decide +kernel
theorem dX6_setScope_9 : decode cX6_setScope 9 = .ok (.if_icmp .ge 31, 3) := by decide +kernel
theorem dX6_setScope_40 : decode cX6_setScope 40 = .ok (.return_, 1) := by decide +kernel
theorem dX11_readTold_0 : decode cX11_readTold 0 = .ok (.aload_n 0, 1) := by decide +kernel
theorem k_4_99 : Jvm.Cond.fieldLink "FinderHouse" (32 : Nat) "FinderHouse" "reader" "LFinderHouse$Reader;" ∈ tb := tb4 99 (by decide +kernel) (by decide +kernel)
theorem dX11_readTold_1 : decode cX11_readTold 1 = .ok (.getfield 32, 3) := by decide +kernel
theorem dX11_readTold_4 : decode cX11_readTold 4 = .ok (.aload_n 0, 1) := by decide +kernel
theorem dX11_readTold_5 : decode cX11_readTold 5 = .ok (.getfield 136, 3) := by decide +kernel
theorem dX11_readTold_8 : decode cX11_readTold 8 = .ok (.ifCond .eq 13, 3) := by decide +kernel
theorem dX11_readTold_21 : decode cX11_readTold 21 = .ok (.iconst 0, 1) := by decide +kernel
theorem dX11_readTold_22 : decode cX11_readTold 22 = .ok (.aload_n 0, 1) := by decide +kernel
theorem k_4_100 : Jvm.Cond.fieldLink "FinderHouse" (39 : Nat) "FinderHouse" "asked" "LFinderHouse$Ask;" ∈ tb := tb4 100 (by decide +kernel) (by decide +kernel)
theorem dX11_readTold_23 : decode cX11_readTold 23 = .ok (.getfield 39, 3) := by decide +kernel
theorem k_2_60 : Jvm.Cond.fieldLink "FinderHouse" (271 : Nat) "FinderHouse$Ask" "kinds" "[I" ∈ tb := tb2 60 (by decide +kernel) (by decide +kernel)
theorem dX11_readTold_26 : decode cX11_readTold 26 = .ok (.getfield 271, 3) := by decide +kernel
theorem k_5_165 : Jvm.Cond.code ({ cls := "FinderHouse$Reader", name := "setScope", desc := "(I[I)V" } : Jvm.MethodName) prog_8_method_20_code (4 : Nat) (Option.none : Option Jvm.ClassFile.FieldType) ∈ tb := tb5 165 (by decide +kernel) (by decide +kernel)
theorem k_6_185 : Jvm.Cond.methodLink "FinderHouse" (274 : Nat) ({ cls := "FinderHouse$Reader", name := "setScope", desc := "(I[I)V" } : Jvm.MethodName) ∈ tb := tb6 185 (by decide +kernel) (by decide +kernel)
theorem k_5_163 : Jvm.Cond.instanceMethod ({ cls := "FinderHouse$Reader", name := "setScope", desc := "(I[I)V" } : Jvm.MethodName) ∈ tb := tb5 163 (by decide +kernel) (by decide +kernel)
theorem k_5_164 : Jvm.Cond.selects "FinderHouse$Reader" ({ cls := "FinderHouse$Reader", name := "setScope", desc := "(I[I)V" } : Jvm.MethodName) ({ cls := "FinderHouse$Reader", name := "setScope", desc := "(I[I)V" } : Jvm.MethodName) ∈ tb := tb5 164 (by decide +kernel) (by decide +kernel)
theorem dX11_readTold_29 : decode cX11_readTold 29 = .ok (.invokevirtual 274, 3) := by decide +kernel
theorem dX11_readTold_32 : decode cX11_readTold 32 = .ok (.aload_n 0, 1) := by decide +kernel
theorem dX11_readTold_33 : decode cX11_readTold 33 = .ok (.getfield 32, 3) := by decide +kernel
theorem dX11_readTold_36 : decode cX11_readTold 36 = .ok (.aload_n 0, 1) := by decide +kernel
theorem dX11_readTold_37 : decode cX11_readTold 37 = .ok (.getfield 9, 3) := by decide +kernel
theorem dX11_readTold_40 : decode cX11_readTold 40 = .ok (.iconst 0, 1) := by decide +kernel
theorem dX11_readTold_41 : decode cX11_readTold 41 = .ok (.aload_n 0, 1) := by decide +kernel
theorem dX11_readTold_42 : decode cX11_readTold 42 = .ok (.invokevirtual 158, 3) := by decide +kernel
theorem dX11_readTold_45 : decode cX11_readTold 45 = .ok (.aload_n 0, 1) := by decide +kernel
theorem dX11_readTold_46 : decode cX11_readTold 46 = .ok (.getfield 136, 3) := by decide +kernel
theorem dX11_readTold_49 : decode cX11_readTold 49 = .ok (.ifCond .eq 7, 3) := by decide +kernel
theorem dX11_readTold_56 : decode cX11_readTold 56 = .ok (.iconst 0, 1) := by decide +kernel
theorem dX11_readTold_57 : decode cX11_readTold 57 = .ok (.iload_n 2, 1) := by decide +kernel
theorem k_6_189 : Jvm.Cond.code ({ cls := "FinderHouse$Reader", name := "readTold", desc := "([BIIII)V" } : Jvm.MethodName) prog_8_method_22_code (6 : Nat) (Option.none : Option Jvm.ClassFile.FieldType) ∈ tb := tb6 189 (by decide +kernel) (by decide +kernel)
theorem k_6_186 : Jvm.Cond.methodLink "FinderHouse" (278 : Nat) ({ cls := "FinderHouse$Reader", name := "readTold", desc := "([BIIII)V" } : Jvm.MethodName) ∈ tb := tb6 186 (by decide +kernel) (by decide +kernel)
theorem k_6_187 : Jvm.Cond.instanceMethod ({ cls := "FinderHouse$Reader", name := "readTold", desc := "([BIIII)V" } : Jvm.MethodName) ∈ tb := tb6 187 (by decide +kernel) (by decide +kernel)
theorem k_6_188 : Jvm.Cond.selects "FinderHouse$Reader" ({ cls := "FinderHouse$Reader", name := "readTold", desc := "([BIIII)V" } : Jvm.MethodName) ({ cls := "FinderHouse$Reader", name := "readTold", desc := "([BIIII)V" } : Jvm.MethodName) ∈ tb := tb6 188 (by decide +kernel) (by decide +kernel)
theorem dX11_readTold_58 : decode cX11_readTold 58 = .ok (.invokevirtual 278, 3) := by decide +kernel
theorem dX11_readTold_61 : decode cX11_readTold 61 = .ok (.return_, 1) := by decide +kernel
theorem dX11_refuseFault_0 : decode cX11_refuseFault 0 = .ok (.aload_n 0, 1) := by decide +kernel
theorem dX11_refuseFault_1 : decode cX11_refuseFault 1 = .ok (.aload_n 0, 1) := by decide +kernel
theorem dX11_refuseFault_2 : decode cX11_refuseFault 2 = .ok (.getfield 32, 3) := by decide +kernel
theorem k_1_224 : Jvm.Cond.fieldLink "FinderHouse" (152 : Nat) "FinderHouse$Reader" "faultAt" "I" ∈ tb := tb1 224 (by decide +kernel) (by decide +kernel)
theorem dX11_refuseFault_5 : decode cX11_refuseFault 5 = .ok (.getfield 152, 3) := by decide +kernel
theorem dX11_refuseFault_8 : decode cX11_refuseFault 8 = .ok (.putfield 13, 3) := by decide +kernel
theorem dX11_refuseFault_11 : decode cX11_refuseFault 11 = .ok (.bipush (-10), 2) := by decide +kernel
theorem dX11_refuseFault_13 : decode cX11_refuseFault 13 = .ok (.aload_n 0, 1) := by decide +kernel
theorem dX11_refuseFault_14 : decode cX11_refuseFault 14 = .ok (.getfield 32, 3) := by decide +kernel
theorem k_1_222 : Jvm.Cond.fieldLink "FinderHouse" (155 : Nat) "FinderHouse$Reader" "fault" "I" ∈ tb := tb1 222 (by decide +kernel) (by decide +kernel)
theorem dX11_refuseFault_17 : decode cX11_refuseFault 17 = .ok (.getfield 155, 3) := by decide +kernel
theorem dX11_refuseFault_20 : decode cX11_refuseFault 20 = .ok (.isub, 1) := by decide +kernel
theorem dX11_refuseFault_21 : decode cX11_refuseFault 21 = .ok (.ireturn, 1) := by decide +kernel
theorem dX11_cheaper_0 : decode cX11_cheaper 0 = .ok (.aload_n 0, 1) := by decide +kernel
theorem dX11_cheaper_1 : decode cX11_cheaper 1 = .ok (.getfield 107, 3) := by decide +kernel
theorem dX11_cheaper_4 : decode cX11_cheaper 4 = .ok (.ifCond .eq 6, 3) := by decide +kernel
theorem dX11_cheaper_10 : decode cX11_cheaper 10 = .ok (.aload_n 0, 1) := by decide +kernel
theorem dX11_cheaper_11 : decode cX11_cheaper 11 = .ok (.iconst 0, 1) := by decide +kernel
theorem dX11_cheaper_12 : decode cX11_cheaper 12 = .ok (.iconst (-1), 1) := by decide +kernel
theorem k_6_184 : Jvm.Cond.code ({ cls := "FinderHouse", name := "readTold", desc := "(II)V" } : Jvm.MethodName) prog_1_method_20_code (3 : Nat) (Option.none : Option Jvm.ClassFile.FieldType) ∈ tb := tb6 184 (by decide +kernel) (by decide +kernel)
theorem k_6_181 : Jvm.Cond.methodLink "FinderHouse" (282 : Nat) ({ cls := "FinderHouse", name := "readTold", desc := "(II)V" } : Jvm.MethodName) ∈ tb := tb6 181 (by decide +kernel) (by decide +kernel)
theorem k_6_183 : Jvm.Cond.instanceMethod ({ cls := "FinderHouse", name := "readTold", desc := "(II)V" } : Jvm.MethodName) ∈ tb := tb6 183 (by decide +kernel) (by decide +kernel)
theorem ks_59 : Jvm.Cond.selects "FinderHouse" ({ cls := "FinderHouse", name := "readTold", desc := "(II)V" } : Jvm.MethodName) ({ cls := "FinderHouse", name := "readTold", desc := "(II)V" } : Jvm.MethodName) ∈ tb := tbp 59 (by decide +kernel) (by decide +kernel)
theorem dX11_cheaper_13 : decode cX11_cheaper 13 = .ok (.invokevirtual 282, 3) := by decide +kernel
theorem dX11_cheaper_16 : decode cX11_cheaper 16 = .ok (.aload_n 0, 1) := by decide +kernel
theorem dX11_cheaper_17 : decode cX11_cheaper 17 = .ok (.getfield 32, 3) := by decide +kernel
theorem dX11_cheaper_20 : decode cX11_cheaper 20 = .ok (.getfield 155, 3) := by decide +kernel
theorem dX11_cheaper_23 : decode cX11_cheaper 23 = .ok (.ifCond .eq 8, 3) := by decide +kernel
theorem dX11_cheaper_26 : decode cX11_cheaper 26 = .ok (.aload_n 0, 1) := by decide +kernel
theorem k_5_121 : Jvm.Cond.code ({ cls := "FinderHouse", name := "refuseFault", desc := "()I" } : Jvm.MethodName) prog_1_method_9_code (1 : Nat) (Option.some Jvm.ClassFile.FieldType.int) ∈ tb := tb5 121 (by decide +kernel) (by decide +kernel)
theorem k_5_118 : Jvm.Cond.methodLink "FinderHouse" (166 : Nat) ({ cls := "FinderHouse", name := "refuseFault", desc := "()I" } : Jvm.MethodName) ∈ tb := tb5 118 (by decide +kernel) (by decide +kernel)
theorem k_5_120 : Jvm.Cond.instanceMethod ({ cls := "FinderHouse", name := "refuseFault", desc := "()I" } : Jvm.MethodName) ∈ tb := tb5 120 (by decide +kernel) (by decide +kernel)
theorem ks_32 : Jvm.Cond.selects "FinderHouse" ({ cls := "FinderHouse", name := "refuseFault", desc := "()I" } : Jvm.MethodName) ({ cls := "FinderHouse", name := "refuseFault", desc := "()I" } : Jvm.MethodName) ∈ tb := tbp 32 (by decide +kernel) (by decide +kernel)
theorem dX11_cheaper_27 : decode cX11_cheaper 27 = .ok (.invokevirtual 166, 3) := by decide +kernel
theorem dX11_cheaper_30 : decode cX11_cheaper 30 = .ok (.ireturn, 1) := by decide +kernel
theorem dX11_sketch_0 : decode cX11_sketch 0 = .ok (.aload_n 0, 1) := by decide +kernel
theorem dX11_sketch_1 : decode cX11_sketch 1 = .ok (.getfield 107, 3) := by decide +kernel
theorem dX11_sketch_4 : decode cX11_sketch 4 = .ok (.ifCond .eq 6, 3) := by decide +kernel
theorem dX11_sketch_10 : decode cX11_sketch 10 = .ok (.aload_n 0, 1) := by decide +kernel
theorem dX11_sketch_11 : decode cX11_sketch 11 = .ok (.aload_n 0, 1) := by decide +kernel
theorem dX11_sketch_12 : decode cX11_sketch 12 = .ok (.getfield 39, 3) := by decide +kernel
theorem dX11_sketch_15 : decode cX11_sketch 15 = .ok (.getfield 271, 3) := by decide +kernel
theorem dX11_sketch_18 : decode cX11_sketch 18 = .ok (.iconst 3, 1) := by decide +kernel
theorem dX11_sketch_19 : decode cX11_sketch 19 = .ok (.iaload, 1) := by decide +kernel
theorem dX11_sketch_20 : decode cX11_sketch 20 = .ok (.iconst 0, 1) := by decide +kernel
theorem dX11_sketch_21 : decode cX11_sketch 21 = .ok (.invokevirtual 282, 3) := by decide +kernel
theorem dX11_sketch_24 : decode cX11_sketch 24 = .ok (.aload_n 0, 1) := by decide +kernel
theorem dX11_sketch_25 : decode cX11_sketch 25 = .ok (.getfield 32, 3) := by decide +kernel
theorem dX11_sketch_28 : decode cX11_sketch 28 = .ok (.getfield 155, 3) := by decide +kernel
theorem dX11_sketch_31 : decode cX11_sketch 31 = .ok (.ifCond .eq 8, 3) := by decide +kernel
theorem dX11_sketch_34 : decode cX11_sketch 34 = .ok (.aload_n 0, 1) := by decide +kernel
theorem dX11_sketch_35 : decode cX11_sketch 35 = .ok (.invokevirtual 166, 3) := by decide +kernel
theorem dX11_sketch_38 : decode cX11_sketch 38 = .ok (.ireturn, 1) := by decide +kernel
theorem dX11_mend_0 : decode cX11_mend 0 = .ok (.aload_n 0, 1) := by decide +kernel
theorem dX11_mend_1 : decode cX11_mend 1 = .ok (.getfield 107, 3) := by decide +kernel
theorem dX11_mend_4 : decode cX11_mend 4 = .ok (.ifCond .eq 6, 3) := by decide +kernel
theorem dX11_mend_10 : decode cX11_mend 10 = .ok (.aload_n 0, 1) := by decide +kernel
theorem dX11_mend_11 : decode cX11_mend 11 = .ok (.invokevirtual 158, 3) := by decide +kernel
theorem dX11_mend_14 : decode cX11_mend 14 = .ok (.istore_n 2, 1) := by decide +kernel
theorem dX11_mend_15 : decode cX11_mend 15 = .ok (.iload_n 1, 1) := by decide +kernel
theorem dX11_mend_16 : decode cX11_mend 16 = .ok (.iconst 1, 1) := by decide +kernel
theorem dX11_mend_17 : decode cX11_mend 17 = .ok (.if_icmp .lt 9, 3) := by decide +kernel
theorem dX11_mend_26 : decode cX11_mend 26 = .ok (.iconst (-1), 1) := by decide +kernel
theorem dX11_mend_27 : decode cX11_mend 27 = .ok (.ireturn, 1) := by decide +kernel
theorem dX11_mend_20 : decode cX11_mend 20 = .ok (.iload_n 1, 1) := by decide +kernel
theorem dX11_mend_21 : decode cX11_mend 21 = .ok (.bipush 12, 2) := by decide +kernel
theorem dX11_mend_23 : decode cX11_mend 23 = .ok (.if_icmp .le 5, 3) := by decide +kernel
theorem dX11_mend_28 : decode cX11_mend 28 = .ok (.aload_n 0, 1) := by decide +kernel
theorem dX11_mend_29 : decode cX11_mend 29 = .ok (.iload_n 2, 1) := by decide +kernel
theorem dX11_mend_30 : decode cX11_mend 30 = .ok (.putfield 88, 3) := by decide +kernel
theorem dX11_mend_33 : decode cX11_mend 33 = .ok (.aload_n 0, 1) := by decide +kernel
theorem dX11_mend_34 : decode cX11_mend 34 = .ok (.aload_n 0, 1) := by decide +kernel
theorem dX11_mend_35 : decode cX11_mend 35 = .ok (.getfield 39, 3) := by decide +kernel
theorem dX11_mend_38 : decode cX11_mend 38 = .ok (.getfield 271, 3) := by decide +kernel
theorem dX11_mend_41 : decode cX11_mend 41 = .ok (.iconst 3, 1) := by decide +kernel
theorem dX11_mend_42 : decode cX11_mend 42 = .ok (.iaload, 1) := by decide +kernel
theorem dX11_mend_43 : decode cX11_mend 43 = .ok (.iconst (-1), 1) := by decide +kernel
theorem dX11_mend_44 : decode cX11_mend 44 = .ok (.invokevirtual 282, 3) := by decide +kernel
theorem dX11_mend_47 : decode cX11_mend 47 = .ok (.aload_n 0, 1) := by decide +kernel
theorem dX11_mend_48 : decode cX11_mend 48 = .ok (.getfield 32, 3) := by decide +kernel
theorem dX11_mend_51 : decode cX11_mend 51 = .ok (.getfield 155, 3) := by decide +kernel
theorem dX11_mend_54 : decode cX11_mend 54 = .ok (.ifCond .eq 8, 3) := by decide +kernel
theorem dX11_mend_57 : decode cX11_mend 57 = .ok (.aload_n 0, 1) := by decide +kernel
theorem dX11_mend_58 : decode cX11_mend 58 = .ok (.invokevirtual 166, 3) := by decide +kernel
theorem dX11_mend_61 : decode cX11_mend 61 = .ok (.ireturn, 1) := by decide +kernel
theorem dX11_value_0 : decode cX11_value 0 = .ok (.aload_n 0, 1) := by decide +kernel
theorem dX11_value_1 : decode cX11_value 1 = .ok (.getfield 107, 3) := by decide +kernel
theorem dX11_value_4 : decode cX11_value 4 = .ok (.ifCond .eq 6, 3) := by decide +kernel
theorem dX11_value_10 : decode cX11_value 10 = .ok (.aload_n 0, 1) := by decide +kernel
theorem dX11_value_11 : decode cX11_value 11 = .ok (.getfield 32, 3) := by decide +kernel
theorem dX11_value_14 : decode cX11_value 14 = .ok (.iconst 0, 1) := by decide +kernel
theorem dX11_value_15 : decode cX11_value 15 = .ok (.aload_n 0, 1) := by decide +kernel
theorem dX11_value_16 : decode cX11_value 16 = .ok (.getfield 39, 3) := by decide +kernel
theorem dX11_value_19 : decode cX11_value 19 = .ok (.getfield 271, 3) := by decide +kernel
theorem dX11_value_22 : decode cX11_value 22 = .ok (.invokevirtual 274, 3) := by decide +kernel
theorem dX11_value_25 : decode cX11_value 25 = .ok (.aload_n 0, 1) := by decide +kernel
theorem dX11_value_26 : decode cX11_value 26 = .ok (.getfield 32, 3) := by decide +kernel
theorem dX11_value_29 : decode cX11_value 29 = .ok (.aload_n 0, 1) := by decide +kernel
theorem dX11_value_30 : decode cX11_value 30 = .ok (.getfield 9, 3) := by decide +kernel
theorem dX11_value_33 : decode cX11_value 33 = .ok (.iconst 0, 1) := by decide +kernel
theorem dX11_value_34 : decode cX11_value 34 = .ok (.aload_n 0, 1) := by decide +kernel
theorem dX11_value_35 : decode cX11_value 35 = .ok (.invokevirtual 158, 3) := by decide +kernel
theorem dX11_value_38 : decode cX11_value 38 = .ok (.iconst 0, 1) := by decide +kernel
theorem dX11_value_39 : decode cX11_value 39 = .ok (.iconst (-1), 1) := by decide +kernel
theorem dX11_value_40 : decode cX11_value 40 = .ok (.invokevirtual 278, 3) := by decide +kernel
theorem dX11_value_43 : decode cX11_value 43 = .ok (.aload_n 0, 1) := by decide +kernel
theorem dX11_value_44 : decode cX11_value 44 = .ok (.getfield 32, 3) := by decide +kernel
theorem dX11_value_47 : decode cX11_value 47 = .ok (.getfield 155, 3) := by decide +kernel
theorem dX11_value_50 : decode cX11_value 50 = .ok (.ifCond .eq 8, 3) := by decide +kernel
theorem dX11_value_53 : decode cX11_value 53 = .ok (.aload_n 0, 1) := by decide +kernel
theorem dX11_value_54 : decode cX11_value 54 = .ok (.invokevirtual 166, 3) := by decide +kernel
theorem dX11_value_57 : decode cX11_value 57 = .ok (.ireturn, 1) := by decide +kernel
theorem dX11_keeps_0 : decode cX11_keeps 0 = .ok (.aload_n 0, 1) := by decide +kernel
theorem dX11_keeps_1 : decode cX11_keeps 1 = .ok (.getfield 107, 3) := by decide +kernel
theorem dX11_keeps_4 : decode cX11_keeps 4 = .ok (.ifCond .eq 6, 3) := by decide +kernel
theorem dX11_keeps_10 : decode cX11_keeps 10 = .ok (.aload_n 0, 1) := by decide +kernel
theorem dX11_keeps_11 : decode cX11_keeps 11 = .ok (.getfield 32, 3) := by decide +kernel
theorem dX11_keeps_14 : decode cX11_keeps 14 = .ok (.aload_n 0, 1) := by decide +kernel
theorem dX11_keeps_15 : decode cX11_keeps 15 = .ok (.getfield 63, 3) := by decide +kernel
theorem dX11_keeps_18 : decode cX11_keeps 18 = .ok (.getfield 401, 3) := by decide +kernel
theorem dX11_keeps_21 : decode cX11_keeps 21 = .ok (.ifCond .eq 13, 3) := by decide +kernel
theorem dX11_keeps_34 : decode cX11_keeps 34 = .ok (.iconst 0, 1) := by decide +kernel
theorem dX11_keeps_35 : decode cX11_keeps 35 = .ok (.aload_n 0, 1) := by decide +kernel
theorem dX11_keeps_36 : decode cX11_keeps 36 = .ok (.getfield 63, 3) := by decide +kernel
theorem k_3_112 : Jvm.Cond.fieldLink "FinderHouse" (414 : Nat) "FinderHouse$Loops" "varKinds" "[I" ∈ tb := tb3 112 (by decide +kernel) (by decide +kernel)
theorem dX11_keeps_39 : decode cX11_keeps 39 = .ok (.getfield 414, 3) := by decide +kernel
theorem dX11_keeps_42 : decode cX11_keeps 42 = .ok (.invokevirtual 274, 3) := by decide +kernel
theorem dX11_keeps_45 : decode cX11_keeps 45 = .ok (.aload_n 0, 1) := by decide +kernel
theorem dX11_keeps_46 : decode cX11_keeps 46 = .ok (.getfield 32, 3) := by decide +kernel
theorem dX11_keeps_49 : decode cX11_keeps 49 = .ok (.aload_n 0, 1) := by decide +kernel
theorem dX11_keeps_50 : decode cX11_keeps 50 = .ok (.getfield 9, 3) := by decide +kernel
theorem dX11_keeps_53 : decode cX11_keeps 53 = .ok (.iconst 0, 1) := by decide +kernel
theorem dX11_keeps_54 : decode cX11_keeps 54 = .ok (.aload_n 0, 1) := by decide +kernel
theorem dX11_keeps_55 : decode cX11_keeps 55 = .ok (.invokevirtual 158, 3) := by decide +kernel
theorem dX11_keeps_58 : decode cX11_keeps 58 = .ok (.iconst 2, 1) := by decide +kernel
theorem dX11_keeps_59 : decode cX11_keeps 59 = .ok (.iconst (-1), 1) := by decide +kernel
theorem dX11_keeps_60 : decode cX11_keeps 60 = .ok (.invokevirtual 278, 3) := by decide +kernel
theorem dX11_keeps_63 : decode cX11_keeps 63 = .ok (.aload_n 0, 1) := by decide +kernel
theorem dX11_keeps_64 : decode cX11_keeps 64 = .ok (.getfield 32, 3) := by decide +kernel
theorem dX11_keeps_67 : decode cX11_keeps 67 = .ok (.getfield 155, 3) := by decide +kernel
theorem dX11_keeps_70 : decode cX11_keeps 70 = .ok (.ifCond .eq 8, 3) := by decide +kernel
theorem dX11_keeps_73 : decode cX11_keeps 73 = .ok (.aload_n 0, 1) := by decide +kernel
theorem dX11_keeps_74 : decode cX11_keeps 74 = .ok (.invokevirtual 166, 3) := by decide +kernel
theorem dX11_keeps_77 : decode cX11_keeps 77 = .ok (.ireturn, 1) := by decide +kernel
theorem dX6_isNamed_0 : decode cX6_isNamed 0 = .ok (.aload_n 0, 1) := by decide +kernel
theorem dX6_isNamed_1 : decode cX6_isNamed 1 = .ok (.getfield 88, 3) := by decide +kernel
theorem dX6_isNamed_4 : decode cX6_isNamed 4 = .ok (.iconst 1, 1) := by decide +kernel
theorem dX6_isNamed_5 : decode cX6_isNamed 5 = .ok (.if_icmp .ne 19, 3) := by decide +kernel
theorem dX6_isNamed_24 : decode cX6_isNamed 24 = .ok (.iconst 0, 1) := by decide +kernel
theorem dX6_isNamed_25 : decode cX6_isNamed 25 = .ok (.ireturn, 1) := by decide +kernel
theorem dX6_takeNamed_0 : decode cX6_takeNamed 0 = .ok (.aload_n 0, 1) := by decide +kernel
theorem dX6_takeNamed_1 : decode cX6_takeNamed 1 = .ok (.aload_n 1, 1) := by decide +kernel
theorem k_4_208 : Jvm.Cond.code ({ cls := "FinderHouse$Reader", name := "isNamed", desc := "(Ljava/lang/String;)Z" } : Jvm.MethodName) prog_8_method_14_code (2 : Nat) (Option.some Jvm.ClassFile.FieldType.boolean) ∈ tb := tb4 208 (by decide +kernel) (by decide +kernel)
theorem k_4_205 : Jvm.Cond.methodLink "FinderHouse$Reader" (118 : Nat) ({ cls := "FinderHouse$Reader", name := "isNamed", desc := "(Ljava/lang/String;)Z" } : Jvm.MethodName) ∈ tb := tb4 205 (by decide +kernel) (by decide +kernel)
theorem k_4_207 : Jvm.Cond.instanceMethod ({ cls := "FinderHouse$Reader", name := "isNamed", desc := "(Ljava/lang/String;)Z" } : Jvm.MethodName) ∈ tb := tb4 207 (by decide +kernel) (by decide +kernel)
theorem ks_9 : Jvm.Cond.selects "FinderHouse$Reader" ({ cls := "FinderHouse$Reader", name := "isNamed", desc := "(Ljava/lang/String;)Z" } : Jvm.MethodName) ({ cls := "FinderHouse$Reader", name := "isNamed", desc := "(Ljava/lang/String;)Z" } : Jvm.MethodName) ∈ tb := tbp 9 (by decide +kernel) (by decide +kernel)
theorem dX6_takeNamed_2 : decode cX6_takeNamed 2 = .ok (.invokevirtual 118, 3) := by decide +kernel
theorem dX6_takeNamed_5 : decode cX6_takeNamed 5 = .ok (.ifCond .ne 8, 3) := by decide +kernel
theorem dX6_takeNamed_8 : decode cX6_takeNamed 8 = .ok (.aload_n 0, 1) := by decide +kernel
theorem dX6_takeNamed_9 : decode cX6_takeNamed 9 = .ok (.invokevirtual 110, 3) := by decide +kernel
theorem dX6_takeNamed_12 : decode cX6_takeNamed 12 = .ok (.ireturn, 1) := by decide +kernel
theorem dX1_empty_0 : decode cX1_empty 0 = .ok (.aload_n 0, 1) := by decide +kernel
theorem dX1_empty_1 : decode cX1_empty 1 = .ok (.iconst 0, 1) := by decide +kernel
theorem k_2_49 : Jvm.Cond.fieldLink "FinderHouse$Ask" (51 : Nat) "FinderHouse$Ask" "params" "I" ∈ tb := tb2 49 (by decide +kernel) (by decide +kernel)
theorem dX1_empty_2 : decode cX1_empty 2 = .ok (.putfield 51, 3) := by decide +kernel
theorem dX1_empty_5 : decode cX1_empty 5 = .ok (.aload_n 0, 1) := by decide +kernel
theorem dX1_empty_6 : decode cX1_empty 6 = .ok (.iconst 0, 1) := by decide +kernel
theorem k_2_62 : Jvm.Cond.fieldLink "FinderHouse$Ask" (55 : Nat) "FinderHouse$Ask" "pieces" "I" ∈ tb := tb2 62 (by decide +kernel) (by decide +kernel)
theorem dX1_empty_7 : decode cX1_empty 7 = .ok (.putfield 55, 3) := by decide +kernel
theorem dX1_empty_10 : decode cX1_empty 10 = .ok (.aload_n 0, 1) := by decide +kernel
theorem dX1_empty_11 : decode cX1_empty 11 = .ok (.iconst 0, 1) := by decide +kernel
theorem k_2_74 : Jvm.Cond.fieldLink "FinderHouse$Ask" (58 : Nat) "FinderHouse$Ask" "rows" "I" ∈ tb := tb2 74 (by decide +kernel) (by decide +kernel)
theorem dX1_empty_12 : decode cX1_empty 12 = .ok (.putfield 58, 3) := by decide +kernel
theorem dX1_empty_15 : decode cX1_empty 15 = .ok (.aload_n 0, 1) := by decide +kernel
theorem dX1_empty_16 : decode cX1_empty 16 = .ok (.iconst 0, 1) := by decide +kernel
theorem k_2_82 : Jvm.Cond.fieldLink "FinderHouse$Ask" (61 : Nat) "FinderHouse$Ask" "laws" "I" ∈ tb := tb2 82 (by decide +kernel) (by decide +kernel)
theorem dX1_empty_17 : decode cX1_empty 17 = .ok (.putfield 61, 3) := by decide +kernel
theorem dX1_empty_20 : decode cX1_empty 20 = .ok (.aload_n 0, 1) := by decide +kernel
theorem dX1_empty_21 : decode cX1_empty 21 = .ok (.iconst 0, 1) := by decide +kernel
theorem k_2_87 : Jvm.Cond.fieldLink "FinderHouse$Ask" (64 : Nat) "FinderHouse$Ask" "points" "I" ∈ tb := tb2 87 (by decide +kernel) (by decide +kernel)
theorem dX1_empty_22 : decode cX1_empty 22 = .ok (.putfield 64, 3) := by decide +kernel
theorem dX1_empty_25 : decode cX1_empty 25 = .ok (.return_, 1) := by decide +kernel
theorem dX6_readAsk_0 : decode cX6_readAsk 0 = .ok (.aload_n 0, 1) := by decide +kernel
theorem dX6_readAsk_1 : decode cX6_readAsk 1 = .ok (.aload_n 1, 1) := by decide +kernel
theorem dX6_readAsk_2 : decode cX6_readAsk 2 = .ok (.iconst 0, 1) := by decide +kernel
theorem dX6_readAsk_3 : decode cX6_readAsk 3 = .ok (.iload_n 2, 1) := by decide +kernel
theorem dX6_readAsk_4 : decode cX6_readAsk 4 = .ok (.invokevirtual 138, 3) := by decide +kernel
theorem dX6_readAsk_7 : decode cX6_readAsk 7 = .ok (.aload_n 3, 1) := by decide +kernel
theorem k_4_199 : Jvm.Cond.code ({ cls := "FinderHouse$Ask", name := "empty", desc := "()V" } : Jvm.MethodName) prog_3_method_2_code (1 : Nat) (Option.none : Option Jvm.ClassFile.FieldType) ∈ tb := tb4 199 (by decide +kernel) (by decide +kernel)
theorem k_4_196 : Jvm.Cond.methodLink "FinderHouse$Reader" (206 : Nat) ({ cls := "FinderHouse$Ask", name := "empty", desc := "()V" } : Jvm.MethodName) ∈ tb := tb4 196 (by decide +kernel) (by decide +kernel)
theorem k_4_197 : Jvm.Cond.instanceMethod ({ cls := "FinderHouse$Ask", name := "empty", desc := "()V" } : Jvm.MethodName) ∈ tb := tb4 197 (by decide +kernel) (by decide +kernel)
theorem k_4_198 : Jvm.Cond.selects "FinderHouse$Ask" ({ cls := "FinderHouse$Ask", name := "empty", desc := "()V" } : Jvm.MethodName) ({ cls := "FinderHouse$Ask", name := "empty", desc := "()V" } : Jvm.MethodName) ∈ tb := tb4 198 (by decide +kernel) (by decide +kernel)
theorem k_1_9 : Jvm.Cond.initialized "FinderHouse$Ask" ∈ tb := tb1 9 (by decide +kernel) (by decide +kernel)
theorem dX6_readAsk_8 : decode cX6_readAsk 8 = .ok (.invokevirtual 206, 3) := by decide +kernel
theorem dX6_readAsk_11 : decode cX6_readAsk 11 = .ok (.aload_n 0, 1) := by decide +kernel
theorem dX6_readAsk_12 : decode cX6_readAsk 12 = .ok (.ldc 209, 2) := by decide +kernel
theorem k_4_204 : Jvm.Cond.code ({ cls := "FinderHouse$Reader", name := "takeNamed", desc := "(Ljava/lang/String;)Z" } : Jvm.MethodName) prog_8_method_15_code (2 : Nat) (Option.some Jvm.ClassFile.FieldType.boolean) ∈ tb := tb4 204 (by decide +kernel) (by decide +kernel)
theorem k_4_201 : Jvm.Cond.methodLink "FinderHouse$Reader" (211 : Nat) ({ cls := "FinderHouse$Reader", name := "takeNamed", desc := "(Ljava/lang/String;)Z" } : Jvm.MethodName) ∈ tb := tb4 201 (by decide +kernel) (by decide +kernel)
theorem k_4_203 : Jvm.Cond.instanceMethod ({ cls := "FinderHouse$Reader", name := "takeNamed", desc := "(Ljava/lang/String;)Z" } : Jvm.MethodName) ∈ tb := tb4 203 (by decide +kernel) (by decide +kernel)
theorem ks_8 : Jvm.Cond.selects "FinderHouse$Reader" ({ cls := "FinderHouse$Reader", name := "takeNamed", desc := "(Ljava/lang/String;)Z" } : Jvm.MethodName) ({ cls := "FinderHouse$Reader", name := "takeNamed", desc := "(Ljava/lang/String;)Z" } : Jvm.MethodName) ∈ tb := tbp 8 (by decide +kernel) (by decide +kernel)
theorem dX6_readAsk_14 : decode cX6_readAsk 14 = .ok (.invokevirtual 211, 3) := by decide +kernel
theorem dX6_readAsk_17 : decode cX6_readAsk 17 = .ok (.ifCond .ne 4, 3) := by decide +kernel
theorem dX6_readAsk_20 : decode cX6_readAsk 20 = .ok (.return_, 1) := by decide +kernel
theorem dX11_ask_0 : decode cX11_ask 0 = .ok (.aload_n 0, 1) := by decide +kernel
theorem dX11_ask_1 : decode cX11_ask 1 = .ok (.getfield 107, 3) := by decide +kernel
theorem dX11_ask_4 : decode cX11_ask 4 = .ok (.ifCond .eq 6, 3) := by decide +kernel
theorem dX11_ask_10 : decode cX11_ask 10 = .ok (.aload_n 0, 1) := by decide +kernel
theorem dX11_ask_11 : decode cX11_ask 11 = .ok (.getfield 32, 3) := by decide +kernel
theorem dX11_ask_14 : decode cX11_ask 14 = .ok (.aload_n 0, 1) := by decide +kernel
theorem dX11_ask_15 : decode cX11_ask 15 = .ok (.getfield 9, 3) := by decide +kernel
theorem dX11_ask_18 : decode cX11_ask 18 = .ok (.aload_n 0, 1) := by decide +kernel
theorem dX11_ask_19 : decode cX11_ask 19 = .ok (.invokevirtual 158, 3) := by decide +kernel
theorem dX11_ask_22 : decode cX11_ask 22 = .ok (.aload_n 0, 1) := by decide +kernel
theorem k_4_101 : Jvm.Cond.fieldLink "FinderHouse" (43 : Nat) "FinderHouse" "spare" "LFinderHouse$Ask;" ∈ tb := tb4 101 (by decide +kernel) (by decide +kernel)
theorem dX11_ask_23 : decode cX11_ask 23 = .ok (.getfield 43, 3) := by decide +kernel
theorem k_4_169 : Jvm.Cond.code ({ cls := "FinderHouse$Reader", name := "readAsk", desc := "([BILFinderHouse$Ask;)V" } : Jvm.MethodName) prog_8_method_30_code (8 : Nat) (Option.none : Option Jvm.ClassFile.FieldType) ∈ tb := tb4 169 (by decide +kernel) (by decide +kernel)
theorem k_4_166 : Jvm.Cond.methodLink "FinderHouse" (162 : Nat) ({ cls := "FinderHouse$Reader", name := "readAsk", desc := "([BILFinderHouse$Ask;)V" } : Jvm.MethodName) ∈ tb := tb4 166 (by decide +kernel) (by decide +kernel)
theorem k_4_167 : Jvm.Cond.instanceMethod ({ cls := "FinderHouse$Reader", name := "readAsk", desc := "([BILFinderHouse$Ask;)V" } : Jvm.MethodName) ∈ tb := tb4 167 (by decide +kernel) (by decide +kernel)
theorem k_4_168 : Jvm.Cond.selects "FinderHouse$Reader" ({ cls := "FinderHouse$Reader", name := "readAsk", desc := "([BILFinderHouse$Ask;)V" } : Jvm.MethodName) ({ cls := "FinderHouse$Reader", name := "readAsk", desc := "([BILFinderHouse$Ask;)V" } : Jvm.MethodName) ∈ tb := tb4 168 (by decide +kernel) (by decide +kernel)
theorem dX11_ask_26 : decode cX11_ask 26 = .ok (.invokevirtual 162, 3) := by decide +kernel
theorem dX11_ask_29 : decode cX11_ask 29 = .ok (.aload_n 0, 1) := by decide +kernel
theorem dX11_ask_30 : decode cX11_ask 30 = .ok (.getfield 32, 3) := by decide +kernel
theorem dX11_ask_33 : decode cX11_ask 33 = .ok (.getfield 155, 3) := by decide +kernel
theorem dX11_ask_36 : decode cX11_ask 36 = .ok (.ifCond .eq 8, 3) := by decide +kernel
theorem dX11_ask_39 : decode cX11_ask 39 = .ok (.aload_n 0, 1) := by decide +kernel
theorem dX11_ask_40 : decode cX11_ask 40 = .ok (.invokevirtual 166, 3) := by decide +kernel
theorem dX11_ask_43 : decode cX11_ask 43 = .ok (.ireturn, 1) := by decide +kernel
theorem dX6_readAct_0 : decode cX6_readAct 0 = .ok (.aload_n 0, 1) := by decide +kernel
theorem dX6_readAct_1 : decode cX6_readAct 1 = .ok (.aload_n 1, 1) := by decide +kernel
theorem dX6_readAct_2 : decode cX6_readAct 2 = .ok (.iload_n 2, 1) := by decide +kernel
theorem dX6_readAct_3 : decode cX6_readAct 3 = .ok (.iload_n 3, 1) := by decide +kernel
theorem dX6_readAct_4 : decode cX6_readAct 4 = .ok (.invokevirtual 138, 3) := by decide +kernel
theorem dX6_readAct_7 : decode cX6_readAct 7 = .ok (.aload_n 0, 1) := by decide +kernel
theorem dX6_readAct_8 : decode cX6_readAct 8 = .ok (.ldc_w 271, 3) := by decide +kernel
theorem dX6_readAct_11 : decode cX6_readAct 11 = .ok (.invokevirtual 211, 3) := by decide +kernel
theorem dX6_readAct_14 : decode cX6_readAct 14 = .ok (.ifCond .ne 4, 3) := by decide +kernel
theorem dX6_readAct_17 : decode cX6_readAct 17 = .ok (.return_, 1) := by decide +kernel
theorem dX11_makeAct_0 : decode cX11_makeAct 0 = .ok (.aload_n 0, 1) := by decide +kernel
theorem dX11_makeAct_1 : decode cX11_makeAct 1 = .ok (.getfield 32, 3) := by decide +kernel
theorem dX11_makeAct_4 : decode cX11_makeAct 4 = .ok (.aload_n 1, 1) := by decide +kernel
theorem dX11_makeAct_5 : decode cX11_makeAct 5 = .ok (.iload_n 2, 1) := by decide +kernel
theorem dX11_makeAct_6 : decode cX11_makeAct 6 = .ok (.iload_n 3, 1) := by decide +kernel
theorem k_5_153 : Jvm.Cond.code ({ cls := "FinderHouse$Reader", name := "readAct", desc := "([BII)V" } : Jvm.MethodName) prog_8_method_36_code (5 : Nat) (Option.none : Option Jvm.ClassFile.FieldType) ∈ tb := tb5 153 (by decide +kernel) (by decide +kernel)
theorem k_5_150 : Jvm.Cond.methodLink "FinderHouse" (180 : Nat) ({ cls := "FinderHouse$Reader", name := "readAct", desc := "([BII)V" } : Jvm.MethodName) ∈ tb := tb5 150 (by decide +kernel) (by decide +kernel)
theorem k_5_151 : Jvm.Cond.instanceMethod ({ cls := "FinderHouse$Reader", name := "readAct", desc := "([BII)V" } : Jvm.MethodName) ∈ tb := tb5 151 (by decide +kernel) (by decide +kernel)
theorem k_5_152 : Jvm.Cond.selects "FinderHouse$Reader" ({ cls := "FinderHouse$Reader", name := "readAct", desc := "([BII)V" } : Jvm.MethodName) ({ cls := "FinderHouse$Reader", name := "readAct", desc := "([BII)V" } : Jvm.MethodName) ∈ tb := tb5 152 (by decide +kernel) (by decide +kernel)
theorem dX11_makeAct_7 : decode cX11_makeAct 7 = .ok (.invokevirtual 180, 3) := by decide +kernel
theorem dX11_makeAct_10 : decode cX11_makeAct 10 = .ok (.aload_n 0, 1) := by decide +kernel
theorem dX11_makeAct_11 : decode cX11_makeAct 11 = .ok (.getfield 32, 3) := by decide +kernel
theorem dX11_makeAct_14 : decode cX11_makeAct 14 = .ok (.getfield 155, 3) := by decide +kernel
theorem dX11_makeAct_17 : decode cX11_makeAct 17 = .ok (.ifCond .eq 14, 3) := by decide +kernel
theorem dX11_makeAct_20 : decode cX11_makeAct 20 = .ok (.bipush (-10), 2) := by decide +kernel
theorem dX11_makeAct_22 : decode cX11_makeAct 22 = .ok (.aload_n 0, 1) := by decide +kernel
theorem dX11_makeAct_23 : decode cX11_makeAct 23 = .ok (.getfield 32, 3) := by decide +kernel
theorem dX11_makeAct_26 : decode cX11_makeAct 26 = .ok (.getfield 155, 3) := by decide +kernel
theorem dX11_makeAct_29 : decode cX11_makeAct 29 = .ok (.isub, 1) := by decide +kernel
theorem dX11_makeAct_30 : decode cX11_makeAct 30 = .ok (.ireturn, 1) := by decide +kernel
theorem dX11_act_0 : decode cX11_act 0 = .ok (.aload_n 0, 1) := by decide +kernel
theorem dX11_act_1 : decode cX11_act 1 = .ok (.getfield 107, 3) := by decide +kernel
theorem dX11_act_4 : decode cX11_act 4 = .ok (.ifCond .eq 6, 3) := by decide +kernel
theorem dX11_act_10 : decode cX11_act 10 = .ok (.aload_n 0, 1) := by decide +kernel
theorem dX11_act_11 : decode cX11_act 11 = .ok (.aload_n 0, 1) := by decide +kernel
theorem dX11_act_12 : decode cX11_act 12 = .ok (.getfield 9, 3) := by decide +kernel
theorem dX11_act_15 : decode cX11_act 15 = .ok (.iconst 0, 1) := by decide +kernel
theorem dX11_act_16 : decode cX11_act 16 = .ok (.aload_n 0, 1) := by decide +kernel
theorem dX11_act_17 : decode cX11_act 17 = .ok (.invokevirtual 158, 3) := by decide +kernel
theorem dX11_act_20 : decode cX11_act 20 = .ok (.iconst 1, 1) := by decide +kernel
theorem k_5_149 : Jvm.Cond.code ({ cls := "FinderHouse", name := "makeAct", desc := "([BIIZ)I" } : Jvm.MethodName) prog_1_method_12_code (5 : Nat) (Option.some Jvm.ClassFile.FieldType.int) ∈ tb := tb5 149 (by decide +kernel) (by decide +kernel)
theorem k_5_146 : Jvm.Cond.methodLink "FinderHouse" (176 : Nat) ({ cls := "FinderHouse", name := "makeAct", desc := "([BIIZ)I" } : Jvm.MethodName) ∈ tb := tb5 146 (by decide +kernel) (by decide +kernel)
theorem k_5_148 : Jvm.Cond.instanceMethod ({ cls := "FinderHouse", name := "makeAct", desc := "([BIIZ)I" } : Jvm.MethodName) ∈ tb := tb5 148 (by decide +kernel) (by decide +kernel)
theorem ks_33 : Jvm.Cond.selects "FinderHouse" ({ cls := "FinderHouse", name := "makeAct", desc := "([BIIZ)I" } : Jvm.MethodName) ({ cls := "FinderHouse", name := "makeAct", desc := "([BIIZ)I" } : Jvm.MethodName) ∈ tb := tbp 33 (by decide +kernel) (by decide +kernel)
theorem dX11_act_21 : decode cX11_act 21 = .ok (.invokevirtual 176, 3) := by decide +kernel
theorem dX11_act_24 : decode cX11_act 24 = .ok (.istore_n 1, 1) := by decide +kernel
theorem dX11_act_25 : decode cX11_act 25 = .ok (.iload_n 1, 1) := by decide +kernel
theorem dX11_act_26 : decode cX11_act 26 = .ok (.bipush (-10), 2) := by decide +kernel
theorem dX11_act_28 : decode cX11_act 28 = .ok (.if_icmp .ge 10, 3) := by decide +kernel
theorem dX11_act_31 : decode cX11_act 31 = .ok (.aload_n 0, 1) := by decide +kernel
theorem dX11_act_32 : decode cX11_act 32 = .ok (.invokevirtual 166, 3) := by decide +kernel
theorem dX11_act_35 : decode cX11_act 35 = .ok (.goto 4, 3) := by decide +kernel
theorem dX11_act_39 : decode cX11_act 39 = .ok (.ireturn, 1) := by decide +kernel
theorem dX4_beginReading_0 : decode cX4_beginReading 0 = .ok (.aload_n 0, 1) := by decide +kernel
theorem dX4_beginReading_1 : decode cX4_beginReading 1 = .ok (.iconst 0, 1) := by decide +kernel
theorem k_3_115 : Jvm.Cond.fieldLink "FinderHouse$Loops" (55 : Nat) "FinderHouse$Loops" "newInputs" "I" ∈ tb := tb3 115 (by decide +kernel) (by decide +kernel)
theorem dX4_beginReading_2 : decode cX4_beginReading 2 = .ok (.putfield 55, 3) := by decide +kernel
theorem dX4_beginReading_5 : decode cX4_beginReading 5 = .ok (.aload_n 0, 1) := by decide +kernel
theorem dX4_beginReading_6 : decode cX4_beginReading 6 = .ok (.iconst 0, 1) := by decide +kernel
theorem k_3_119 : Jvm.Cond.fieldLink "FinderHouse$Loops" (59 : Nat) "FinderHouse$Loops" "newVars" "I" ∈ tb := tb3 119 (by decide +kernel) (by decide +kernel)
theorem dX4_beginReading_7 : decode cX4_beginReading 7 = .ok (.putfield 59, 3) := by decide +kernel
theorem dX4_beginReading_10 : decode cX4_beginReading 10 = .ok (.return_, 1) := by decide +kernel
theorem dX6_readLoop_0 : decode cX6_readLoop 0 = .ok (.aload_n 0, 1) := by decide +kernel
theorem dX6_readLoop_1 : decode cX6_readLoop 1 = .ok (.aload_n 1, 1) := by decide +kernel
theorem dX6_readLoop_2 : decode cX6_readLoop 2 = .ok (.iconst 0, 1) := by decide +kernel
theorem dX6_readLoop_3 : decode cX6_readLoop 3 = .ok (.iload_n 2, 1) := by decide +kernel
theorem dX6_readLoop_4 : decode cX6_readLoop 4 = .ok (.invokevirtual 138, 3) := by decide +kernel
theorem dX6_readLoop_7 : decode cX6_readLoop 7 = .ok (.aload_n 3, 1) := by decide +kernel
theorem k_7_179 : Jvm.Cond.code ({ cls := "FinderHouse$Loops", name := "beginReading", desc := "()V" } : Jvm.MethodName) prog_6_method_2_code (1 : Nat) (Option.none : Option Jvm.ClassFile.FieldType) ∈ tb := tb7 179 (by decide +kernel) (by decide +kernel)
theorem k_7_176 : Jvm.Cond.methodLink "FinderHouse$Reader" (286 : Nat) ({ cls := "FinderHouse$Loops", name := "beginReading", desc := "()V" } : Jvm.MethodName) ∈ tb := tb7 176 (by decide +kernel) (by decide +kernel)
theorem k_7_177 : Jvm.Cond.instanceMethod ({ cls := "FinderHouse$Loops", name := "beginReading", desc := "()V" } : Jvm.MethodName) ∈ tb := tb7 177 (by decide +kernel) (by decide +kernel)
theorem k_7_178 : Jvm.Cond.selects "FinderHouse$Loops" ({ cls := "FinderHouse$Loops", name := "beginReading", desc := "()V" } : Jvm.MethodName) ({ cls := "FinderHouse$Loops", name := "beginReading", desc := "()V" } : Jvm.MethodName) ∈ tb := tb7 178 (by decide +kernel) (by decide +kernel)
theorem k_1_13 : Jvm.Cond.initialized "FinderHouse$Loops" ∈ tb := tb1 13 (by decide +kernel) (by decide +kernel)
theorem dX6_readLoop_8 : decode cX6_readLoop 8 = .ok (.invokevirtual 286, 3) := by decide +kernel
theorem dX6_readLoop_11 : decode cX6_readLoop 11 = .ok (.aload_n 0, 1) := by decide +kernel
theorem dX6_readLoop_12 : decode cX6_readLoop 12 = .ok (.ldc_w 291, 3) := by decide +kernel
theorem dX6_readLoop_15 : decode cX6_readLoop 15 = .ok (.invokevirtual 211, 3) := by decide +kernel
theorem dX6_readLoop_18 : decode cX6_readLoop 18 = .ok (.ifCond .eq 29, 3) := by decide +kernel
theorem dX6_readLoop_47 : decode cX6_readLoop 47 = .ok (.return_, 1) := by decide +kernel
theorem dX11_loop_0 : decode cX11_loop 0 = .ok (.aload_n 0, 1) := by decide +kernel
theorem dX11_loop_1 : decode cX11_loop 1 = .ok (.getfield 107, 3) := by decide +kernel
theorem dX11_loop_4 : decode cX11_loop 4 = .ok (.ifCond .eq 6, 3) := by decide +kernel
theorem dX11_loop_10 : decode cX11_loop 10 = .ok (.aload_n 0, 1) := by decide +kernel
theorem dX11_loop_11 : decode cX11_loop 11 = .ok (.getfield 32, 3) := by decide +kernel
theorem dX11_loop_14 : decode cX11_loop 14 = .ok (.aload_n 0, 1) := by decide +kernel
theorem dX11_loop_15 : decode cX11_loop 15 = .ok (.getfield 9, 3) := by decide +kernel
theorem dX11_loop_18 : decode cX11_loop 18 = .ok (.aload_n 0, 1) := by decide +kernel
theorem dX11_loop_19 : decode cX11_loop 19 = .ok (.invokevirtual 158, 3) := by decide +kernel
theorem dX11_loop_22 : decode cX11_loop 22 = .ok (.aload_n 0, 1) := by decide +kernel
theorem dX11_loop_23 : decode cX11_loop 23 = .ok (.getfield 63, 3) := by decide +kernel
theorem k_7_175 : Jvm.Cond.code ({ cls := "FinderHouse$Reader", name := "readLoop", desc := "([BILFinderHouse$Loops;)V" } : Jvm.MethodName) prog_8_method_37_code (5 : Nat) (Option.none : Option Jvm.ClassFile.FieldType) ∈ tb := tb7 175 (by decide +kernel) (by decide +kernel)
theorem k_7_172 : Jvm.Cond.methodLink "FinderHouse" (391 : Nat) ({ cls := "FinderHouse$Reader", name := "readLoop", desc := "([BILFinderHouse$Loops;)V" } : Jvm.MethodName) ∈ tb := tb7 172 (by decide +kernel) (by decide +kernel)
theorem k_7_173 : Jvm.Cond.instanceMethod ({ cls := "FinderHouse$Reader", name := "readLoop", desc := "([BILFinderHouse$Loops;)V" } : Jvm.MethodName) ∈ tb := tb7 173 (by decide +kernel) (by decide +kernel)
theorem k_7_174 : Jvm.Cond.selects "FinderHouse$Reader" ({ cls := "FinderHouse$Reader", name := "readLoop", desc := "([BILFinderHouse$Loops;)V" } : Jvm.MethodName) ({ cls := "FinderHouse$Reader", name := "readLoop", desc := "([BILFinderHouse$Loops;)V" } : Jvm.MethodName) ∈ tb := tb7 174 (by decide +kernel) (by decide +kernel)
theorem dX11_loop_26 : decode cX11_loop 26 = .ok (.invokevirtual 391, 3) := by decide +kernel
theorem dX11_loop_29 : decode cX11_loop 29 = .ok (.aload_n 0, 1) := by decide +kernel
theorem dX11_loop_30 : decode cX11_loop 30 = .ok (.getfield 32, 3) := by decide +kernel
theorem dX11_loop_33 : decode cX11_loop 33 = .ok (.getfield 155, 3) := by decide +kernel
theorem dX11_loop_36 : decode cX11_loop 36 = .ok (.ifCond .eq 8, 3) := by decide +kernel
theorem dX11_loop_39 : decode cX11_loop 39 = .ok (.aload_n 0, 1) := by decide +kernel
theorem dX11_loop_40 : decode cX11_loop 40 = .ok (.invokevirtual 166, 3) := by decide +kernel
theorem dX11_loop_43 : decode cX11_loop 43 = .ok (.ireturn, 1) := by decide +kernel
theorem va_ldcSW {p : Program} {l : Launch} {e : Env} {R : Room} {s : State} {m : MethodId} {args : Array Value} {below : List Frame} {meth : Method} {c : Code} {H : Heap} {locs : List Loc} {cells slots : Nat} {Q : State → Prop} {cc : ByteArray} {pc : Nat} {ls : Array Slot} {rest : List Value} (hexec : p.tables.exec = Jvm.exec) (hb : c.code = cc) {own tx : String} {index q : Nat} (hown : s.vm.findClass own = some m.cls) (hZ : vk_R own index tx q s) (hdg : decode cc pc = .ok (.ldc_w index, 3))
    (k : W p l e R s m args below meth c H locs cells slots Q (F0 m (pc + 3) ls (.ref q :: rest))) : W p l e R s m args below meth c H locs cells slots Q (F0 m pc ls rest) := by
  intro T hT X
  obtain ⟨t, a1, b1⟩ := k T hT X
  exact ⟨t, X.ldcStringW hexec hown (text := tx) (a := q) hZ.1 hZ.2 (g := F0 m pc ls rest) rfl (by rw [hb]; exact hdg) t a1, b1⟩
set_option maxHeartbeats 4000000 in
set_option maxRecDepth 100000 in
theorem m6_next (l : Launch) (dC : Nat → ClassId) (dI : Nat → Nat → Nat) (sz : Nat) (rd : Nat) (gr : List Value) (nd : Nat) (L_gr : gr.length = 20) (K3_gr : gr[3]? = some (.int 0)) (K4_gr : gr[4]? = some (.int 0)) (K9_gr : gr[9]? = some (.int 0)) (K11_gr : gr[11]? = some (.ref nd)) : Met l yX6_next (Cond.code yX6_next cX6_next 2 none :: tb) ({ frames := 0, cells := 0, slots := 0, locals := 0 }) (pcw [.ref rd] (dC, dI) [(rd, .inr (6, gr))] [] sz) (va_Qv (fun (gr1 : List Value) => (True) ∧ (gr1.length = 20) ∧ (gr1[5]? = some (.int 0)) ∧ (gr1[6]? = some (.int 0)) ∧ (gr1[9]? = some (.int 0)) ∧ (gr1[11]? = some (.ref nd))) (bw (dC, dI) (va_A [(rd, .inr (6, gr))] sz) (fun (gr1 : List Value) => [(rd, .inr (6, gr1))]) (fun (gr1 : List Value) => [])) (va_A [(rd, .inr (6, gr))] sz)) 0 0 (va_A [(rd, .inr (6, gr))] sz) := by
  refine Met.ofW (cc := cX6_next) (maxL := 2) (ret := none) (by decide) rfl ?_
  intro p e s m args below meth c s₁ B hml hv
  obtain ⟨rfl, hsz, hP, hK, hD0⟩ := hv
  have hx := B.exec
  have hb := B.bytes
  have hr := B.returns
  have hts := atoms_spec (ws := Cond.code yX6_next cX6_next 2 none :: tb) B.pre
  have ht : ∀ w ∈ tb, w.before _ s = true := fun w h => hts w (List.mem_cons_of_mem _ h)
  have hown : s.vm.findClass RX6 = some m.cls := findClass_of_methodNamed B.named
  have hlocks := B.notSynchronized
  subst hsz
  have hD := hD0.self (sz := s.heap.size)
  generalize hAe : va_A [(rd, .inr (6, gr))] s.heap.size = A at hD ⊢
  have hA : ∀ q : Nat, s.heap.size ≤ q → A q := fun q h => by rw [← hAe]; exact Or.inr h
  have hS : va_S A s.heap s.heap [] := va_S.rf
  have hl := lv_entry ([.ref rd]) (n := 2) (Nat.le_of_ble_eq_true rfl)
  rw [lg_entry_eq]
  generalize (lg_sl ([.ref rd]) ++ List.replicate (2 - (lg_sl ([.ref rd])).length) Slot.unset).toArray = ls at hl ⊢
  have hl : lv_has ls 2 [(0, .ref rd)] := hl
  have hP : va_P (dC, dI) cls [(rd, .inr (6, gr))] s.heap := hP
  refine lv_aload_n hx hb dX6_next_0 rfl (lv_at hl 0 rfl) ?_
  refine va_get (D := (dC, dI)) (ci := 6) (v := .int 0) (C := RX6) (T := TX6) (N := 20) hx hb ht uX6 hown hK hP 0 rfl rfl 4 (by decide) (ht _ k_1_216) (fun _ h9 => h9) K4_gr dX6_next_1 ?_
  refine lv_aload_n hx hb dX6_next_4 rfl (lv_at hl 0 rfl) ?_
  refine va_get (D := (dC, dI)) (ci := 6) (v := .int 0) (C := RX6) (T := TX6) (N := 20) hx hb ht uX6 hown hK hP 0 rfl rfl 3 (by decide) (ht _ k_1_215) (fun _ h9 => h9) K3_gr dX6_next_5 ?_
  refine lv_icmp_ge (tgt := 62) hx hb dX6_next_8 (by decide) (fun _ => ?_) (fun c0 => absurd c0 (by decide))
  refine lv_aload_n hx hb dX6_next_62 rfl (lv_at hl 0 rfl) ?_
  refine lv_aload_n hx hb dX6_next_63 rfl (lv_at hl 0 rfl) ?_
  refine va_get (D := (dC, dI)) (ci := 6) (v := .int 0) (C := RX6) (T := TX6) (N := 20) hx hb ht uX6 hown hK hP 0 rfl rfl 4 (by decide) (ht _ k_1_216) (fun _ h9 => h9) K4_gr dX6_next_64 ?_
  refine va_put (D := (dC, dI)) (ci := 6) (v := .int 0) (ty := .int) (C := RX6) (T := TX6) (N := 20) hx hb ht uX6 tyX6 tkX6 nmX6 hown hK hP hD hS 0 rfl rfl 6 (by decide) (ht _ k_1_218) (fun _ h9 => h9) rfl (by decide +kernel) rfl rfl (by rw [L_gr]; decide) dX6_next_67 (fun H locs hP hD hS => ?_)
  obtain ⟨F1, eF1⟩ : ∃ g : List Value, g = gr.set 6 (.int 0) := ⟨_, rfl⟩
  rw [← eF1] at hP hD
  have K3_F1 : F1[3]? = some (.int 0) := by rw [eF1, List.getElem?_set_ne (by decide)]; exact K3_gr
  have K4_F1 : F1[4]? = some (.int 0) := by rw [eF1, List.getElem?_set_ne (by decide)]; exact K4_gr
  have K9_F1 : F1[9]? = some (.int 0) := by rw [eF1, List.getElem?_set_ne (by decide)]; exact K9_gr
  have K11_F1 : F1[11]? = some (.ref nd) := by rw [eF1, List.getElem?_set_ne (by decide)]; exact K11_gr
  have K6_F1 : F1[6]? = some (.int 0) := by rw [eF1]; exact List.getElem?_set_self (by rw [L_gr]; decide)
  have L_F1 : F1.length = 20 := by rw [eF1, List.length_set]; exact L_gr
  have hP : va_P (dC, dI) cls [(rd, .inr (6, F1))] H := hP
  have hD : va_D A [(rd, .inr (6, F1))] := hD
  refine lv_aload_n hx hb dX6_next_70 rfl (lv_at hl 0 rfl) ?_
  refine va_get (D := (dC, dI)) (ci := 6) (v := .int 0) (C := RX6) (T := TX6) (N := 20) hx hb ht uX6 hown hK hP 0 rfl rfl 4 (by decide) (ht _ k_1_216) (fun _ h9 => h9) K4_F1 dX6_next_71 ?_
  refine lv_aload_n hx hb dX6_next_74 rfl (lv_at hl 0 rfl) ?_
  refine va_get (D := (dC, dI)) (ci := 6) (v := .int 0) (C := RX6) (T := TX6) (N := 20) hx hb ht uX6 hown hK hP 0 rfl rfl 3 (by decide) (ht _ k_1_215) (fun _ h9 => h9) K3_F1 dX6_next_75 ?_
  refine lv_icmp_lt (tgt := 87) hx hb dX6_next_78 (by decide) (fun c0 => absurd c0 (by decide)) (fun _ => ?_)
  refine lv_aload_n hx hb dX6_next_81 rfl (lv_at hl 0 rfl) ?_
  refine lv_iconst (v := 0) hx hb dX6_next_82 (by decide) ?_
  refine va_put (D := (dC, dI)) (ci := 6) (v := .int 0) (ty := .int) (C := RX6) (T := TX6) (N := 20) hx hb ht uX6 tyX6 tkX6 nmX6 hown hK hP hD hS 0 rfl rfl 5 (by decide) (ht _ k_1_217) (fun _ h9 => h9) rfl (by decide +kernel) rfl rfl (by rw [L_F1]; decide) dX6_next_83 (fun H locs hP hD hS => ?_)
  obtain ⟨F2, eF2⟩ : ∃ g : List Value, g = F1.set 5 (.int 0) := ⟨_, rfl⟩
  rw [← eF2] at hP hD
  have K3_F2 : F2[3]? = some (.int 0) := by rw [eF2, List.getElem?_set_ne (by decide)]; exact K3_F1
  have K4_F2 : F2[4]? = some (.int 0) := by rw [eF2, List.getElem?_set_ne (by decide)]; exact K4_F1
  have K6_F2 : F2[6]? = some (.int 0) := by rw [eF2, List.getElem?_set_ne (by decide)]; exact K6_F1
  have K9_F2 : F2[9]? = some (.int 0) := by rw [eF2, List.getElem?_set_ne (by decide)]; exact K9_F1
  have K11_F2 : F2[11]? = some (.ref nd) := by rw [eF2, List.getElem?_set_ne (by decide)]; exact K11_F1
  have K5_F2 : F2[5]? = some (.int 0) := by rw [eF2]; exact List.getElem?_set_self (by rw [L_F1]; decide)
  have L_F2 : F2.length = 20 := by rw [eF2, List.length_set]; exact L_F1
  have hP : va_P (dC, dI) cls [(rd, .inr (6, F2))] H := hP
  have hD : va_D A [(rd, .inr (6, F2))] := hD
  exact W.vret hx hb hr (fun t ht9 hW => ⟨⟨(F2), rfl, ⟨trivial, L_F2, K5_F2, K6_F2, K9_F2, K11_F2⟩, by rw [ht9]; exact hP.sub [0] rfl, va_K.moved hW.alike (hK.sub [] rfl), hD.sub [0] (by decide) rfl⟩, hS.F ht9⟩) hS.2.2 dX6_next_86
set_option maxHeartbeats 4000000 in
set_option maxRecDepth 100000 in
theorem m6_begin (l : Launch) (dC : Nat → ClassId) (dI : Nat → Nat → Nat) (sz : Nat) (rd : Nat) (gr : List Value) (nd : Nat) (gn : List Value) (tp : Nat) (cT : ClassId) (ft : Nat → Int32) (L_gr : gr.length = 20) (K11_gr : gr[11]? = some (.ref nd)) (L_gn : gn.length = 4) : Met l yX6_begin (Cond.code yX6_begin cX6_begin 5 none :: tb) ({ frames := 1, cells := 0, slots := 0, locals := 21 }) (pcw [.ref rd, .ref tp, .int 0, .int 0] (dC, dI) [(rd, .inr (6, gr)), (nd, .inr (9, gn)), (tp, .inl (cT, 2000, .inl ft))] [(cT, .byte)] sz) (va_Qv (fun (gr1 : List Value) => (True) ∧ (gr1.length = 20) ∧ (gr1[5]? = some (.int 0)) ∧ (gr1[6]? = some (.int 0)) ∧ (gr1[9]? = some (.int 0)) ∧ (gr1[11]? = some (.ref nd))) (bw (dC, dI) (va_A [(rd, .inr (6, gr)), (nd, .inr (9, gn)), (tp, .inl (cT, 2000, .inl ft))] sz) (fun (gr1 : List Value) => [(rd, .inr (6, gr1))]) (fun (gr1 : List Value) => [])) (va_A [(rd, .inr (6, gr)), (nd, .inr (9, gn)), (tp, .inl (cT, 2000, .inl ft))] sz)) 0 0 (va_A [(rd, .inr (6, gr)), (nd, .inr (9, gn)), (tp, .inl (cT, 2000, .inl ft))] sz) := by
  refine Met.ofW (cc := cX6_begin) (maxL := 5) (ret := none) (by decide) rfl ?_
  intro p e s m args below meth c s₁ B hml hv
  obtain ⟨rfl, hsz, hP, hK, hD0⟩ := hv
  have hx := B.exec
  have hb := B.bytes
  have hr := B.returns
  have hts := atoms_spec (ws := Cond.code yX6_begin cX6_begin 5 none :: tb) B.pre
  have ht : ∀ w ∈ tb, w.before _ s = true := fun w h => hts w (List.mem_cons_of_mem _ h)
  have hown : s.vm.findClass RX6 = some m.cls := findClass_of_methodNamed B.named
  have hlocks := B.notSynchronized
  subst hsz
  have hD := hD0.self (sz := s.heap.size)
  generalize hAe : va_A [(rd, .inr (6, gr)), (nd, .inr (9, gn)), (tp, .inl (cT, 2000, .inl ft))] s.heap.size = A at hD ⊢
  have hA : ∀ q : Nat, s.heap.size ≤ q → A q := fun q h => by rw [← hAe]; exact Or.inr h
  have hS : va_S A s.heap s.heap [] := va_S.rf
  have hl := lv_entry ([.ref rd, .ref tp, .int 0, .int 0]) (n := 5) (Nat.le_of_ble_eq_true rfl)
  rw [lg_entry_eq]
  generalize (lg_sl ([.ref rd, .ref tp, .int 0, .int 0]) ++ List.replicate (5 - (lg_sl ([.ref rd, .ref tp, .int 0, .int 0])).length) Slot.unset).toArray = ls at hl ⊢
  have hl : lv_has ls 5 [(0, .ref rd), (1, .ref tp), (2, .int 0), (3, .int 0)] := hl
  have hP : va_P (dC, dI) cls [(rd, .inr (6, gr)), (nd, .inr (9, gn)), (tp, .inl (cT, 2000, .inl ft))] s.heap := hP
  refine lv_iload_n hx hb dX6_begin_0 rfl (lv_at hl 2 rfl) ?_
  refine lv_if_lt (tgt := 20) hx hb dX6_begin_1 (by decide) (fun c0 => absurd c0 (by decide)) (fun _ => ?_)
  refine lv_iload_n hx hb dX6_begin_4 rfl (lv_at hl 3 rfl) ?_
  refine lv_if_lt (tgt := 20) hx hb dX6_begin_5 (by decide) (fun c0 => absurd c0 (by decide)) (fun _ => ?_)
  refine lv_iload_n hx hb dX6_begin_8 rfl (lv_at hl 2 rfl) ?_
  refine lv_iload_n hx hb dX6_begin_9 rfl (lv_at hl 3 rfl) ?_
  refine lv_iadd hx hb dX6_begin_10 ?_
  refine tk_i (y := 0) (by decide) ?_
  refine lv_aload_n hx hb dX6_begin_11 rfl (lv_at hl 1 rfl) ?_
  refine va_alen (x := (2000, .inl ft)) (v := 2000) hx hb hK hP 2 0 rfl rfl (show Int32.ofNat 2000 = 2000 by decide) dX6_begin_12 ?_
  refine lv_icmp_gt (tgt := 20) hx hb dX6_begin_13 (by decide) (fun c0 => absurd c0 (by decide)) (fun _ => ?_)
  refine lv_iconst (v := 1) hx hb dX6_begin_16 (by decide) ?_
  refine lv_goto (tgt := 21) hx hb dX6_begin_17 (by decide) ?_
  refine lv_istore (lv' := [(4, .int 1), (0, .ref rd), (1, .ref tp), (2, .int 0), (3, .int 0)]) hx hb dX6_begin_21 hl (by decide) rfl (fun ls hl => ?_)
  refine lv_aload_n hx hb dX6_begin_23 rfl (lv_at hl 1 rfl) ?_
  refine lv_aload_n hx hb dX6_begin_24 rfl (lv_at hl 2 rfl) ?_
  refine va_put (D := (dC, dI)) (ci := 6) (v := .ref tp) (ty := .array .byte) (C := RX6) (T := TX6) (N := 20) hx hb ht uX6 tyX6 tkX6 nmX6 hown hK hP hD hS 0 rfl rfl 1 (by decide) (ht _ k_1_213) (fun _ h9 => h9) rfl (by decide +kernel) rfl rfl (by rw [L_gr]; decide) dX6_begin_25 (fun H locs hP hD hS => ?_)
  obtain ⟨F1, eF1⟩ : ∃ g : List Value, g = gr.set 1 (.ref tp) := ⟨_, rfl⟩
  rw [← eF1] at hP hD
  have K11_F1 : F1[11]? = some (.ref nd) := by rw [eF1, List.getElem?_set_ne (by decide)]; exact K11_gr
  have K1_F1 : F1[1]? = some (.ref tp) := by rw [eF1]; exact List.getElem?_set_self (by rw [L_gr]; decide)
  have L_F1 : F1.length = 20 := by rw [eF1, List.length_set]; exact L_gr
  have hP : va_P (dC, dI) cls [(rd, .inr (6, F1)), (nd, .inr (9, gn)), (tp, .inl (cT, 2000, .inl ft))] H := hP
  have hD : va_D A [(rd, .inr (6, F1)), (nd, .inr (9, gn)), (tp, .inl (cT, 2000, .inl ft))] := hD
  refine lv_aload_n hx hb dX6_begin_28 rfl (lv_at hl 1 rfl) ?_
  refine lv_iload hx hb dX6_begin_29 (lv_at hl 0 rfl) ?_
  refine lv_if_eq (tgt := 38) hx hb dX6_begin_31 (by decide) (fun c0 => absurd c0 (by decide)) (fun _ => ?_)
  refine lv_iload_n hx hb dX6_begin_34 rfl (lv_at hl 3 rfl) ?_
  refine lv_goto (tgt := 39) hx hb dX6_begin_35 (by decide) ?_
  refine va_put (D := (dC, dI)) (ci := 6) (v := .int 0) (ty := .int) (C := RX6) (T := TX6) (N := 20) hx hb ht uX6 tyX6 tkX6 nmX6 hown hK hP hD hS 0 rfl rfl 2 (by decide) (ht _ k_1_214) (fun _ h9 => h9) rfl (by decide +kernel) rfl rfl (by rw [L_F1]; decide) dX6_begin_39 (fun H locs hP hD hS => ?_)
  obtain ⟨F2, eF2⟩ : ∃ g : List Value, g = F1.set 2 (.int 0) := ⟨_, rfl⟩
  rw [← eF2] at hP hD
  have K1_F2 : F2[1]? = some (.ref tp) := by rw [eF2, List.getElem?_set_ne (by decide)]; exact K1_F1
  have K11_F2 : F2[11]? = some (.ref nd) := by rw [eF2, List.getElem?_set_ne (by decide)]; exact K11_F1
  have K2_F2 : F2[2]? = some (.int 0) := by rw [eF2]; exact List.getElem?_set_self (by rw [L_F1]; decide)
  have L_F2 : F2.length = 20 := by rw [eF2, List.length_set]; exact L_F1
  have hP : va_P (dC, dI) cls [(rd, .inr (6, F2)), (nd, .inr (9, gn)), (tp, .inl (cT, 2000, .inl ft))] H := hP
  have hD : va_D A [(rd, .inr (6, F2)), (nd, .inr (9, gn)), (tp, .inl (cT, 2000, .inl ft))] := hD
  refine lv_aload_n hx hb dX6_begin_42 rfl (lv_at hl 1 rfl) ?_
  refine lv_iload hx hb dX6_begin_43 (lv_at hl 0 rfl) ?_
  refine lv_if_eq (tgt := 52) hx hb dX6_begin_45 (by decide) (fun c0 => absurd c0 (by decide)) (fun _ => ?_)
  refine lv_iload_n hx hb dX6_begin_48 rfl (lv_at hl 4 rfl) ?_
  refine lv_goto (tgt := 53) hx hb dX6_begin_49 (by decide) ?_
  refine va_put (D := (dC, dI)) (ci := 6) (v := .int 0) (ty := .int) (C := RX6) (T := TX6) (N := 20) hx hb ht uX6 tyX6 tkX6 nmX6 hown hK hP hD hS 0 rfl rfl 3 (by decide) (ht _ k_1_215) (fun _ h9 => h9) rfl (by decide +kernel) rfl rfl (by rw [L_F2]; decide) dX6_begin_53 (fun H locs hP hD hS => ?_)
  obtain ⟨F3, eF3⟩ : ∃ g : List Value, g = F2.set 3 (.int 0) := ⟨_, rfl⟩
  rw [← eF3] at hP hD
  have K1_F3 : F3[1]? = some (.ref tp) := by rw [eF3, List.getElem?_set_ne (by decide)]; exact K1_F2
  have K2_F3 : F3[2]? = some (.int 0) := by rw [eF3, List.getElem?_set_ne (by decide)]; exact K2_F2
  have K11_F3 : F3[11]? = some (.ref nd) := by rw [eF3, List.getElem?_set_ne (by decide)]; exact K11_F2
  have K3_F3 : F3[3]? = some (.int 0) := by rw [eF3]; exact List.getElem?_set_self (by rw [L_F2]; decide)
  have L_F3 : F3.length = 20 := by rw [eF3, List.length_set]; exact L_F2
  have hP : va_P (dC, dI) cls [(rd, .inr (6, F3)), (nd, .inr (9, gn)), (tp, .inl (cT, 2000, .inl ft))] H := hP
  have hD : va_D A [(rd, .inr (6, F3)), (nd, .inr (9, gn)), (tp, .inl (cT, 2000, .inl ft))] := hD
  refine lv_aload_n hx hb dX6_begin_56 rfl (lv_at hl 1 rfl) ?_
  refine lv_iconst (v := 0) hx hb dX6_begin_57 (by decide) ?_
  refine va_put (D := (dC, dI)) (ci := 6) (v := .int 0) (ty := .int) (C := RX6) (T := TX6) (N := 20) hx hb ht uX6 tyX6 tkX6 nmX6 hown hK hP hD hS 0 rfl rfl 4 (by decide) (ht _ k_1_216) (fun _ h9 => h9) rfl (by decide +kernel) rfl rfl (by rw [L_F3]; decide) dX6_begin_58 (fun H locs hP hD hS => ?_)
  obtain ⟨F4, eF4⟩ : ∃ g : List Value, g = F3.set 4 (.int 0) := ⟨_, rfl⟩
  rw [← eF4] at hP hD
  have K1_F4 : F4[1]? = some (.ref tp) := by rw [eF4, List.getElem?_set_ne (by decide)]; exact K1_F3
  have K2_F4 : F4[2]? = some (.int 0) := by rw [eF4, List.getElem?_set_ne (by decide)]; exact K2_F3
  have K3_F4 : F4[3]? = some (.int 0) := by rw [eF4, List.getElem?_set_ne (by decide)]; exact K3_F3
  have K11_F4 : F4[11]? = some (.ref nd) := by rw [eF4, List.getElem?_set_ne (by decide)]; exact K11_F3
  have K4_F4 : F4[4]? = some (.int 0) := by rw [eF4]; exact List.getElem?_set_self (by rw [L_F3]; decide)
  have L_F4 : F4.length = 20 := by rw [eF4, List.length_set]; exact L_F3
  have hP : va_P (dC, dI) cls [(rd, .inr (6, F4)), (nd, .inr (9, gn)), (tp, .inl (cT, 2000, .inl ft))] H := hP
  have hD : va_D A [(rd, .inr (6, F4)), (nd, .inr (9, gn)), (tp, .inl (cT, 2000, .inl ft))] := hD
  refine lv_aload_n hx hb dX6_begin_61 rfl (lv_at hl 1 rfl) ?_
  refine lv_iconst (v := 0) hx hb dX6_begin_62 (by decide) ?_
  refine va_put (D := (dC, dI)) (ci := 6) (v := .int 0) (ty := .int) (C := RX6) (T := TX6) (N := 20) hx hb ht uX6 tyX6 tkX6 nmX6 hown hK hP hD hS 0 rfl rfl 9 (by decide) (ht _ k_1_221) (fun _ h9 => h9) rfl (by decide +kernel) rfl rfl (by rw [L_F4]; decide) dX6_begin_63 (fun H locs hP hD hS => ?_)
  obtain ⟨F5, eF5⟩ : ∃ g : List Value, g = F4.set 9 (.int 0) := ⟨_, rfl⟩
  rw [← eF5] at hP hD
  have K1_F5 : F5[1]? = some (.ref tp) := by rw [eF5, List.getElem?_set_ne (by decide)]; exact K1_F4
  have K2_F5 : F5[2]? = some (.int 0) := by rw [eF5, List.getElem?_set_ne (by decide)]; exact K2_F4
  have K3_F5 : F5[3]? = some (.int 0) := by rw [eF5, List.getElem?_set_ne (by decide)]; exact K3_F4
  have K4_F5 : F5[4]? = some (.int 0) := by rw [eF5, List.getElem?_set_ne (by decide)]; exact K4_F4
  have K11_F5 : F5[11]? = some (.ref nd) := by rw [eF5, List.getElem?_set_ne (by decide)]; exact K11_F4
  have K9_F5 : F5[9]? = some (.int 0) := by rw [eF5]; exact List.getElem?_set_self (by rw [L_F4]; decide)
  have L_F5 : F5.length = 20 := by rw [eF5, List.length_set]; exact L_F4
  have hP : va_P (dC, dI) cls [(rd, .inr (6, F5)), (nd, .inr (9, gn)), (tp, .inl (cT, 2000, .inl ft))] H := hP
  have hD : va_D A [(rd, .inr (6, F5)), (nd, .inr (9, gn)), (tp, .inl (cT, 2000, .inl ft))] := hD
  refine lv_aload_n hx hb dX6_begin_66 rfl (lv_at hl 1 rfl) ?_
  refine lv_iconst (v := 0) hx hb dX6_begin_67 (by decide) ?_
  refine va_put (D := (dC, dI)) (ci := 6) (v := .int 0) (ty := .int) (C := RX6) (T := TX6) (N := 20) hx hb ht uX6 tyX6 tkX6 nmX6 hown hK hP hD hS 0 rfl rfl 10 (by decide) (ht _ k_1_223) (fun _ h9 => h9) rfl (by decide +kernel) rfl rfl (by rw [L_F5]; decide) dX6_begin_68 (fun H locs hP hD hS => ?_)
  obtain ⟨F6, eF6⟩ : ∃ g : List Value, g = F5.set 10 (.int 0) := ⟨_, rfl⟩
  rw [← eF6] at hP hD
  have K1_F6 : F6[1]? = some (.ref tp) := by rw [eF6, List.getElem?_set_ne (by decide)]; exact K1_F5
  have K2_F6 : F6[2]? = some (.int 0) := by rw [eF6, List.getElem?_set_ne (by decide)]; exact K2_F5
  have K3_F6 : F6[3]? = some (.int 0) := by rw [eF6, List.getElem?_set_ne (by decide)]; exact K3_F5
  have K4_F6 : F6[4]? = some (.int 0) := by rw [eF6, List.getElem?_set_ne (by decide)]; exact K4_F5
  have K9_F6 : F6[9]? = some (.int 0) := by rw [eF6, List.getElem?_set_ne (by decide)]; exact K9_F5
  have K11_F6 : F6[11]? = some (.ref nd) := by rw [eF6, List.getElem?_set_ne (by decide)]; exact K11_F5
  have K10_F6 : F6[10]? = some (.int 0) := by rw [eF6]; exact List.getElem?_set_self (by rw [L_F5]; decide)
  have L_F6 : F6.length = 20 := by rw [eF6, List.length_set]; exact L_F5
  have hP : va_P (dC, dI) cls [(rd, .inr (6, F6)), (nd, .inr (9, gn)), (tp, .inl (cT, 2000, .inl ft))] H := hP
  have hD : va_D A [(rd, .inr (6, F6)), (nd, .inr (9, gn)), (tp, .inl (cT, 2000, .inl ft))] := hD
  refine lv_aload_n hx hb dX6_begin_71 rfl (lv_at hl 1 rfl) ?_
  refine va_get (D := (dC, dI)) (ci := 6) (v := .ref nd) (C := RX6) (T := TX6) (N := 20) hx hb ht uX6 hown hK hP 0 rfl rfl 11 (by decide) (ht _ k_1_225) (fun _ h9 => h9) K11_F6 dX6_begin_72 ?_
  refine lv_iconst (v := 0) hx hb dX6_begin_75 (by decide) ?_
  refine va_put (D := (dC, dI)) (ci := 9) (v := .int 0) (ty := .int) (C := RX9) (T := TX9) (N := 4) hx hb ht uX9 tyX9 tkX9 nmX9 hown hK hP hD hS 1 rfl rfl 3 (by decide) (ht _ k_1_124) (fun _ h9 => h9) rfl (by decide +kernel) rfl rfl (by rw [L_gn]; decide) dX6_begin_76 (fun H locs hP hD hS => ?_)
  obtain ⟨F7, eF7⟩ : ∃ g : List Value, g = gn.set 3 (.int 0) := ⟨_, rfl⟩
  rw [← eF7] at hP hD
  have K3_F7 : F7[3]? = some (.int 0) := by rw [eF7]; exact List.getElem?_set_self (by rw [L_gn]; decide)
  have L_F7 : F7.length = 4 := by rw [eF7, List.length_set]; exact L_gn
  have hP : va_P (dC, dI) cls [(rd, .inr (6, F6)), (nd, .inr (9, F7)), (tp, .inl (cT, 2000, .inl ft))] H := hP
  have hD : va_D A [(rd, .inr (6, F6)), (nd, .inr (9, F7)), (tp, .inl (cT, 2000, .inl ft))] := hD
  refine lv_aload_n hx hb dX6_begin_79 rfl (lv_at hl 1 rfl) ?_
  refine lv_iconst (v := (-1)) hx hb dX6_begin_80 (by decide) ?_
  refine va_put (D := (dC, dI)) (ci := 6) (v := .int (-1)) (ty := .int) (C := RX6) (T := TX6) (N := 20) hx hb ht uX6 tyX6 tkX6 nmX6 hown hK hP hD hS 0 rfl rfl 16 (by decide) (ht _ k_1_233) (fun _ h9 => h9) rfl (by decide +kernel) rfl rfl (by rw [L_F6]; decide) dX6_begin_81 (fun H locs hP hD hS => ?_)
  obtain ⟨F8, eF8⟩ : ∃ g : List Value, g = F6.set 16 (.int (-1)) := ⟨_, rfl⟩
  rw [← eF8] at hP hD
  have K1_F8 : F8[1]? = some (.ref tp) := by rw [eF8, List.getElem?_set_ne (by decide)]; exact K1_F6
  have K2_F8 : F8[2]? = some (.int 0) := by rw [eF8, List.getElem?_set_ne (by decide)]; exact K2_F6
  have K3_F8 : F8[3]? = some (.int 0) := by rw [eF8, List.getElem?_set_ne (by decide)]; exact K3_F6
  have K4_F8 : F8[4]? = some (.int 0) := by rw [eF8, List.getElem?_set_ne (by decide)]; exact K4_F6
  have K9_F8 : F8[9]? = some (.int 0) := by rw [eF8, List.getElem?_set_ne (by decide)]; exact K9_F6
  have K10_F8 : F8[10]? = some (.int 0) := by rw [eF8, List.getElem?_set_ne (by decide)]; exact K10_F6
  have K11_F8 : F8[11]? = some (.ref nd) := by rw [eF8, List.getElem?_set_ne (by decide)]; exact K11_F6
  have K16_F8 : F8[16]? = some (.int (-1)) := by rw [eF8]; exact List.getElem?_set_self (by rw [L_F6]; decide)
  have L_F8 : F8.length = 20 := by rw [eF8, List.length_set]; exact L_F6
  have hP : va_P (dC, dI) cls [(rd, .inr (6, F8)), (nd, .inr (9, F7)), (tp, .inl (cT, 2000, .inl ft))] H := hP
  have hD : va_D A [(rd, .inr (6, F8)), (nd, .inr (9, F7)), (tp, .inl (cT, 2000, .inl ft))] := hD
  refine lv_aload_n hx hb dX6_begin_84 rfl (lv_at hl 1 rfl) ?_
  refine lv_null hx hb dX6_begin_85 ?_
  refine va_put (D := (dC, dI)) (ci := 6) (v := .null) (ty := .object "FinderHouse$Ask") (C := RX6) (T := TX6) (N := 20) hx hb ht uX6 tyX6 tkX6 nmX6 hown hK hP hD hS 0 rfl rfl 15 (by decide) (ht _ k_1_232) (fun _ h9 => h9) rfl (by decide +kernel) rfl rfl (by rw [L_F8]; decide) dX6_begin_86 (fun H locs hP hD hS => ?_)
  obtain ⟨F9, eF9⟩ : ∃ g : List Value, g = F8.set 15 (.null) := ⟨_, rfl⟩
  rw [← eF9] at hP hD
  have K1_F9 : F9[1]? = some (.ref tp) := by rw [eF9, List.getElem?_set_ne (by decide)]; exact K1_F8
  have K2_F9 : F9[2]? = some (.int 0) := by rw [eF9, List.getElem?_set_ne (by decide)]; exact K2_F8
  have K3_F9 : F9[3]? = some (.int 0) := by rw [eF9, List.getElem?_set_ne (by decide)]; exact K3_F8
  have K4_F9 : F9[4]? = some (.int 0) := by rw [eF9, List.getElem?_set_ne (by decide)]; exact K4_F8
  have K9_F9 : F9[9]? = some (.int 0) := by rw [eF9, List.getElem?_set_ne (by decide)]; exact K9_F8
  have K10_F9 : F9[10]? = some (.int 0) := by rw [eF9, List.getElem?_set_ne (by decide)]; exact K10_F8
  have K11_F9 : F9[11]? = some (.ref nd) := by rw [eF9, List.getElem?_set_ne (by decide)]; exact K11_F8
  have K16_F9 : F9[16]? = some (.int (-1)) := by rw [eF9, List.getElem?_set_ne (by decide)]; exact K16_F8
  have K15_F9 : F9[15]? = some (.null) := by rw [eF9]; exact List.getElem?_set_self (by rw [L_F8]; decide)
  have L_F9 : F9.length = 20 := by rw [eF9, List.length_set]; exact L_F8
  have hP : va_P (dC, dI) cls [(rd, .inr (6, F9)), (nd, .inr (9, F7)), (tp, .inl (cT, 2000, .inl ft))] H := hP
  have hD : va_D A [(rd, .inr (6, F9)), (nd, .inr (9, F7)), (tp, .inl (cT, 2000, .inl ft))] := hD
  refine lv_aload_n hx hb dX6_begin_89 rfl (lv_at hl 1 rfl) ?_
  refine ca_v (wr := [(nd, .inr (9, F7)), (tp, .inl (cT, 2000, .inl ft))]) (va_runV (As := []) (rest := []) ⟨hx, hb, hml, hown, ht⟩ (m6_next l dC dI H.size rd F9 nd L_F9 K3_F9 K4_F9 K9_F9 K11_F9 ) (cwV 0 ht (gdV k_4_177 k_4_174 k_4_176 ks_3 k_1_8) rfl rfl rfl (by decide +kernel) ⟨Nat.le_of_ble_eq_true rfl, Nat.le_of_ble_eq_true rfl⟩) ⟨pcw_blind, va_recv hK hP (ci := 6) (q0 := 0) rfl rfl, pcw_at hP hD hK [0] [] (by decide) rfl rfl rfl⟩ rfl rfl hl.1 rfl (lv_room (Nat.le_of_ble_eq_true rfl)) dX6_begin_90 ⟨Nat.le_of_ble_eq_true rfl, Nat.le_of_ble_eq_true rfl⟩) hP hD hK hS hA [0] [1, 2] rfl rfl (by decide) (by decide) (fun u H locs w11 hK hP hD hS => ?_)
  obtain ⟨F12, rfl⟩ : ∃ z, z = u := ⟨_, rfl⟩
  have hK : va_K (dC, dI) cls [(cT, .byte)] s := hK
  have hP : va_P (dC, dI) cls [(nd, .inr (9, F7)), (tp, .inl (cT, 2000, .inl ft)), (rd, .inr (6, F12))] H := hP
  have hD : va_D A [(nd, .inr (9, F7)), (tp, .inl (cT, 2000, .inl ft)), (rd, .inr (6, F12))] := hD
  obtain ⟨w11, K13, K14, K15, K16, K17⟩ := w11
  exact W.vret hx hb hr (fun t ht9 hW => ⟨⟨(F12), rfl, ⟨trivial, K13, K14, K15, K16, K17⟩, by rw [ht9]; exact hP.sub [2] rfl, va_K.moved hW.alike (hK.sub [] rfl), hD.sub [2] (by decide) rfl⟩, hS.F ht9⟩) hS.2.2 dX6_begin_93
set_option maxHeartbeats 4000000 in
set_option maxRecDepth 100000 in
theorem m6_stop (l : Launch) (dC : Nat → ClassId) (dI : Nat → Nat → Nat) (sz : Nat) (rd : Nat) (gr : List Value) (L_gr : gr.length = 20) (K6_gr : gr[6]? = some (.int 0)) (K9_gr : gr[9]? = some (.int 0)) : Met l yX6_stop (Cond.code yX6_stop cX6_stop 1 (some .boolean) :: tb) ({ frames := 0, cells := 0, slots := 0, locals := 0 }) (pcw [.ref rd] (dC, dI) [(rd, .inr (6, gr))] [] sz) (va_Qi (fun (r : Int32) => (fun (gr1 : List Value) => (r = 0) ∧ (gr1.length = 20) ∧ (gr1[9]? = some (.int 1)) ∧ (gr1[10]? = some (.int 0)))) (bw (dC, dI) (va_A [(rd, .inr (6, gr))] sz) (fun (gr1 : List Value) => [(rd, .inr (6, gr1))]) (fun (gr1 : List Value) => [])) (va_A [(rd, .inr (6, gr))] sz)) 0 0 (va_A [(rd, .inr (6, gr))] sz) := by
  refine Met.ofW (cc := cX6_stop) (maxL := 1) (ret := (some .boolean)) (by decide) rfl ?_
  intro p e s m args below meth c s₁ B hml hv
  obtain ⟨rfl, hsz, hP, hK, hD0⟩ := hv
  have hx := B.exec
  have hb := B.bytes
  have hr := B.returns
  have hts := atoms_spec (ws := Cond.code yX6_stop cX6_stop 1 (some .boolean) :: tb) B.pre
  have ht : ∀ w ∈ tb, w.before _ s = true := fun w h => hts w (List.mem_cons_of_mem _ h)
  have hown : s.vm.findClass RX6 = some m.cls := findClass_of_methodNamed B.named
  have hlocks := B.notSynchronized
  subst hsz
  have hD := hD0.self (sz := s.heap.size)
  generalize hAe : va_A [(rd, .inr (6, gr))] s.heap.size = A at hD ⊢
  have hA : ∀ q : Nat, s.heap.size ≤ q → A q := fun q h => by rw [← hAe]; exact Or.inr h
  have hS : va_S A s.heap s.heap [] := va_S.rf
  have hl := lv_entry ([.ref rd]) (n := 1) (Nat.le_of_ble_eq_true rfl)
  rw [lg_entry_eq]
  generalize (lg_sl ([.ref rd]) ++ List.replicate (1 - (lg_sl ([.ref rd])).length) Slot.unset).toArray = ls at hl ⊢
  have hl : lv_has ls 1 [(0, .ref rd)] := hl
  have hP : va_P (dC, dI) cls [(rd, .inr (6, gr))] s.heap := hP
  refine lv_aload_n hx hb dX6_stop_0 rfl (lv_at hl 0 rfl) ?_
  refine va_get (D := (dC, dI)) (ci := 6) (v := .int 0) (C := RX6) (T := TX6) (N := 20) hx hb ht uX6 hown hK hP 0 rfl rfl 9 (by decide) (ht _ k_1_221) (fun _ h9 => h9) K9_gr dX6_stop_1 ?_
  refine lv_iconst (v := 1) hx hb dX6_stop_4 (by decide) ?_
  refine lv_icmp_eq (tgt := 21) hx hb dX6_stop_5 (by decide) (fun c0 => absurd c0 (by decide)) (fun _ => ?_)
  refine lv_aload_n hx hb dX6_stop_8 rfl (lv_at hl 0 rfl) ?_
  refine lv_iconst (v := 1) hx hb dX6_stop_9 (by decide) ?_
  refine va_put (D := (dC, dI)) (ci := 6) (v := .int 1) (ty := .int) (C := RX6) (T := TX6) (N := 20) hx hb ht uX6 tyX6 tkX6 nmX6 hown hK hP hD hS 0 rfl rfl 9 (by decide) (ht _ k_1_221) (fun _ h9 => h9) rfl (by decide +kernel) rfl rfl (by rw [L_gr]; decide) dX6_stop_10 (fun H locs hP hD hS => ?_)
  obtain ⟨F1, eF1⟩ : ∃ g : List Value, g = gr.set 9 (.int 1) := ⟨_, rfl⟩
  rw [← eF1] at hP hD
  have K6_F1 : F1[6]? = some (.int 0) := by rw [eF1, List.getElem?_set_ne (by decide)]; exact K6_gr
  have K9_F1 : F1[9]? = some (.int 1) := by rw [eF1]; exact List.getElem?_set_self (by rw [L_gr]; decide)
  have L_F1 : F1.length = 20 := by rw [eF1, List.length_set]; exact L_gr
  have hP : va_P (dC, dI) cls [(rd, .inr (6, F1))] H := hP
  have hD : va_D A [(rd, .inr (6, F1))] := hD
  refine lv_aload_n hx hb dX6_stop_13 rfl (lv_at hl 0 rfl) ?_
  refine lv_aload_n hx hb dX6_stop_14 rfl (lv_at hl 0 rfl) ?_
  refine va_get (D := (dC, dI)) (ci := 6) (v := .int 0) (C := RX6) (T := TX6) (N := 20) hx hb ht uX6 hown hK hP 0 rfl rfl 6 (by decide) (ht _ k_1_218) (fun _ h9 => h9) K6_F1 dX6_stop_15 ?_
  refine va_put (D := (dC, dI)) (ci := 6) (v := .int 0) (ty := .int) (C := RX6) (T := TX6) (N := 20) hx hb ht uX6 tyX6 tkX6 nmX6 hown hK hP hD hS 0 rfl rfl 10 (by decide) (ht _ k_1_223) (fun _ h9 => h9) rfl (by decide +kernel) rfl rfl (by rw [L_F1]; decide) dX6_stop_18 (fun H locs hP hD hS => ?_)
  obtain ⟨F2, eF2⟩ : ∃ g : List Value, g = F1.set 10 (.int 0) := ⟨_, rfl⟩
  rw [← eF2] at hP hD
  have K6_F2 : F2[6]? = some (.int 0) := by rw [eF2, List.getElem?_set_ne (by decide)]; exact K6_F1
  have K9_F2 : F2[9]? = some (.int 1) := by rw [eF2, List.getElem?_set_ne (by decide)]; exact K9_F1
  have K10_F2 : F2[10]? = some (.int 0) := by rw [eF2]; exact List.getElem?_set_self (by rw [L_F1]; decide)
  have L_F2 : F2.length = 20 := by rw [eF2, List.length_set]; exact L_F1
  have hP : va_P (dC, dI) cls [(rd, .inr (6, F2))] H := hP
  have hD : va_D A [(rd, .inr (6, F2))] := hD
  refine lv_iconst (v := 0) hx hb dX6_stop_21 (by decide) ?_
  exact W.zret (v := 0) hx hb hr rfl (fun t ht9 hW => ⟨⟨0, (F2), rfl, ⟨rfl, L_F2, K9_F2, K10_F2⟩, by rw [ht9]; exact hP.sub [0] rfl, va_K.moved hW.alike (hK.sub [] rfl), hD.sub [0] (by decide) rfl⟩, hS.F ht9⟩) hS.2.2 dX6_stop_22
set_option maxHeartbeats 4000000 in
set_option maxRecDepth 100000 in
theorem m6_valueTold (l : Launch) (dC : Nat → ClassId) (dI : Nat → Nat → Nat) (sz : Nat) (rd : Nat) (gr : List Value) (L_gr : gr.length = 20) (K5_gr : gr[5]? = some (.int 0)) : Met l yX6_valueTold (Cond.code yX6_valueTold cX6_valueTold 1 (some .int) :: tb) ({ frames := 0, cells := 0, slots := 0, locals := 0 }) (pcw [.ref rd] (dC, dI) [(rd, .inr (6, gr))] [] sz) (va_Qi (fun (r : Int32) => (fun (_ : Unit) => r = 0)) (bw (dC, dI) (va_A [(rd, .inr (6, gr))] sz) (fun (_ : Unit) => [(rd, .inr (6, gr))]) (fun (_ : Unit) => [])) (va_A [(rd, .inr (6, gr))] sz)) 0 0 (va_A [(rd, .inr (6, gr))] sz) := by
  refine Met.ofW (cc := cX6_valueTold) (maxL := 1) (ret := (some .int)) (by decide) rfl ?_
  intro p e s m args below meth c s₁ B hml hv
  obtain ⟨rfl, hsz, hP, hK, hD0⟩ := hv
  have hx := B.exec
  have hb := B.bytes
  have hr := B.returns
  have hts := atoms_spec (ws := Cond.code yX6_valueTold cX6_valueTold 1 (some .int) :: tb) B.pre
  have ht : ∀ w ∈ tb, w.before _ s = true := fun w h => hts w (List.mem_cons_of_mem _ h)
  have hown : s.vm.findClass RX6 = some m.cls := findClass_of_methodNamed B.named
  have hlocks := B.notSynchronized
  subst hsz
  have hD := hD0.self (sz := s.heap.size)
  generalize hAe : va_A [(rd, .inr (6, gr))] s.heap.size = A at hD ⊢
  have hA : ∀ q : Nat, s.heap.size ≤ q → A q := fun q h => by rw [← hAe]; exact Or.inr h
  have hS : va_S A s.heap s.heap [] := va_S.rf
  have hl := lv_entry ([.ref rd]) (n := 1) (Nat.le_of_ble_eq_true rfl)
  rw [lg_entry_eq]
  generalize (lg_sl ([.ref rd]) ++ List.replicate (1 - (lg_sl ([.ref rd])).length) Slot.unset).toArray = ls at hl ⊢
  have hl : lv_has ls 1 [(0, .ref rd)] := hl
  have hP : va_P (dC, dI) cls [(rd, .inr (6, gr))] s.heap := hP
  refine lv_aload_n hx hb dX6_valueTold_0 rfl (lv_at hl 0 rfl) ?_
  refine va_get (D := (dC, dI)) (ci := 6) (v := .int 0) (C := RX6) (T := TX6) (N := 20) hx hb ht uX6 hown hK hP 0 rfl rfl 5 (by decide) (ht _ k_1_217) (fun _ h9 => h9) K5_gr dX6_valueTold_1 ?_
  refine lv_iconst (v := 2) hx hb dX6_valueTold_4 (by decide) ?_
  refine lv_icmp_ne (tgt := 10) hx hb dX6_valueTold_5 (by decide) (fun _ => ?_) (fun c0 => absurd c0 (by decide))
  refine lv_aload_n hx hb dX6_valueTold_10 rfl (lv_at hl 0 rfl) ?_
  refine va_get (D := (dC, dI)) (ci := 6) (v := .int 0) (C := RX6) (T := TX6) (N := 20) hx hb ht uX6 hown hK hP 0 rfl rfl 5 (by decide) (ht _ k_1_217) (fun _ h9 => h9) K5_gr dX6_valueTold_11 ?_
  refine lv_iconst (v := 3) hx hb dX6_valueTold_14 (by decide) ?_
  refine lv_icmp_ne (tgt := 20) hx hb dX6_valueTold_15 (by decide) (fun _ => ?_) (fun c0 => absurd c0 (by decide))
  refine lv_aload_n hx hb dX6_valueTold_20 rfl (lv_at hl 0 rfl) ?_
  refine va_get (D := (dC, dI)) (ci := 6) (v := .int 0) (C := RX6) (T := TX6) (N := 20) hx hb ht uX6 hown hK hP 0 rfl rfl 5 (by decide) (ht _ k_1_217) (fun _ h9 => h9) K5_gr dX6_valueTold_21 ?_
  refine lv_iconst (v := 1) hx hb dX6_valueTold_24 (by decide) ?_
  refine lv_icmp_ne (tgt := 72) hx hb dX6_valueTold_25 (by decide) (fun _ => ?_) (fun c0 => absurd c0 (by decide))
  refine lv_iconst (v := 0) hx hb dX6_valueTold_72 (by decide) ?_
  exact W.iret (v := 0) hx hb hr (fun t ht9 hW => ⟨⟨0, (), rfl, rfl, by rw [ht9]; exact hP.sub [0] rfl, va_K.moved hW.alike (hK.sub [] rfl), hD.sub [0] (by decide) rfl⟩, hS.F ht9⟩) hS.2.2 dX6_valueTold_73
set_option maxHeartbeats 4000000 in
set_option maxRecDepth 100000 in
theorem m6_readTerm (l : Launch) (dC : Nat → ClassId) (dI : Nat → Nat → Nat) (sz : Nat) (rd : Nat) (gr : List Value) (L_gr : gr.length = 20) (K5_gr : gr[5]? = some (.int 0)) (K6_gr : gr[6]? = some (.int 0)) (K9_gr : gr[9]? = some (.int 0)) : Met l yX6_readTerm (Cond.code yX6_readTerm cX6_readTerm 6 (some .boolean) :: tb) ({ frames := 1, cells := 0, slots := 0, locals := 20 }) (pcw [.ref rd, .int 0] (dC, dI) [(rd, .inr (6, gr))] [] sz) (va_Qi (fun (r : Int32) => (fun (gr1 : List Value) => (r = 0) ∧ (gr1.length = 20) ∧ (gr1[9]? = some (.int 1)) ∧ (gr1[10]? = some (.int 0)))) (bw (dC, dI) (va_A [(rd, .inr (6, gr))] sz) (fun (gr1 : List Value) => [(rd, .inr (6, gr1))]) (fun (gr1 : List Value) => [])) (va_A [(rd, .inr (6, gr))] sz)) 0 0 (va_A [(rd, .inr (6, gr))] sz) := by
  refine Met.ofW (cc := cX6_readTerm) (maxL := 6) (ret := (some .boolean)) (by decide) rfl ?_
  intro p e s m args below meth c s₁ B hml hv
  obtain ⟨rfl, hsz, hP, hK, hD0⟩ := hv
  have hx := B.exec
  have hb := B.bytes
  have hr := B.returns
  have hts := atoms_spec (ws := Cond.code yX6_readTerm cX6_readTerm 6 (some .boolean) :: tb) B.pre
  have ht : ∀ w ∈ tb, w.before _ s = true := fun w h => hts w (List.mem_cons_of_mem _ h)
  have hown : s.vm.findClass RX6 = some m.cls := findClass_of_methodNamed B.named
  have hlocks := B.notSynchronized
  subst hsz
  have hD := hD0.self (sz := s.heap.size)
  generalize hAe : va_A [(rd, .inr (6, gr))] s.heap.size = A at hD ⊢
  have hA : ∀ q : Nat, s.heap.size ≤ q → A q := fun q h => by rw [← hAe]; exact Or.inr h
  have hS : va_S A s.heap s.heap [] := va_S.rf
  have hl := lv_entry ([.ref rd, .int 0]) (n := 6) (Nat.le_of_ble_eq_true rfl)
  rw [lg_entry_eq]
  generalize (lg_sl ([.ref rd, .int 0]) ++ List.replicate (6 - (lg_sl ([.ref rd, .int 0])).length) Slot.unset).toArray = ls at hl ⊢
  have hl : lv_has ls 6 [(0, .ref rd), (1, .int 0)] := hl
  have hP : va_P (dC, dI) cls [(rd, .inr (6, gr))] s.heap := hP
  refine lv_iload_n hx hb dX6_readTerm_0 rfl (lv_at hl 1 rfl) ?_
  refine lv_bipush (v := 12) hx hb dX6_readTerm_1 (by decide) ?_
  refine lv_icmp_le (tgt := 11) hx hb dX6_readTerm_3 (by decide) (fun _ => ?_) (fun c0 => absurd c0 (by decide))
  refine lv_aload_n hx hb dX6_readTerm_11 rfl (lv_at hl 0 rfl) ?_
  refine ca_i (wr := []) (va_runV (As := []) (rest := []) ⟨hx, hb, hml, hown, ht⟩ (m6_valueTold l dC dI s.heap.size rd gr L_gr K5_gr ) (cwV 0 ht (gdV k_5_9 k_5_6 k_5_8 ks_17 k_1_8) rfl rfl rfl (by decide +kernel) ⟨Nat.le_of_ble_eq_true rfl, Nat.le_of_ble_eq_true rfl⟩) ⟨pcw_blind, va_recv hK hP (ci := 6) (q0 := 0) rfl rfl, pcw_at hP hD hK [0] [] (by decide) rfl rfl rfl⟩ rfl rfl hl.1 rfl (lv_room (Nat.le_of_ble_eq_true rfl)) dX6_readTerm_12 ⟨Nat.le_of_ble_eq_true rfl, Nat.le_of_ble_eq_true rfl⟩) hP hD hK hS hA [0] [] rfl rfl (by decide) (by decide) (fun r1 u H locs w2 hK hP hD hS => ?_)
  have hK : va_K (dC, dI) cls [] s := hK
  have hP : va_P (dC, dI) cls [(rd, .inr (6, gr))] H := hP
  have hD : va_D A [(rd, .inr (6, gr))] := hD
  obtain rfl : r1 = 0 := w2
  refine lv_istore_n (lv' := [(2, .int 0), (0, .ref rd), (1, .int 0)]) hx hb dX6_readTerm_15 rfl hl (by decide) rfl (fun ls hl => ?_)
  refine lv_aload_n hx hb dX6_readTerm_16 rfl (lv_at hl 1 rfl) ?_
  refine lv_iconst (v := 0) hx hb dX6_readTerm_17 (by decide) ?_
  refine va_put (D := (dC, dI)) (ci := 6) (v := .int 0) (ty := .int) (C := RX6) (T := TX6) (N := 20) hx hb ht uX6 tyX6 tkX6 nmX6 hown hK hP hD hS 0 rfl rfl 18 (by decide) (ht _ k_1_237) (fun _ h9 => h9) rfl (by decide +kernel) rfl rfl (by rw [L_gr]; decide) dX6_readTerm_18 (fun H locs hP hD hS => ?_)
  obtain ⟨F3, eF3⟩ : ∃ g : List Value, g = gr.set 18 (.int 0) := ⟨_, rfl⟩
  rw [← eF3] at hP hD
  have K5_F3 : F3[5]? = some (.int 0) := by rw [eF3, List.getElem?_set_ne (by decide)]; exact K5_gr
  have K6_F3 : F3[6]? = some (.int 0) := by rw [eF3, List.getElem?_set_ne (by decide)]; exact K6_gr
  have K9_F3 : F3[9]? = some (.int 0) := by rw [eF3, List.getElem?_set_ne (by decide)]; exact K9_gr
  have K18_F3 : F3[18]? = some (.int 0) := by rw [eF3]; exact List.getElem?_set_self (by rw [L_gr]; decide)
  have L_F3 : F3.length = 20 := by rw [eF3, List.length_set]; exact L_gr
  have hP : va_P (dC, dI) cls [(rd, .inr (6, F3))] H := hP
  have hD : va_D A [(rd, .inr (6, F3))] := hD
  refine lv_iload_n hx hb dX6_readTerm_21 rfl (lv_at hl 0 rfl) ?_
  refine lv_if_eq (tgt := 54) hx hb dX6_readTerm_22 (by decide) (fun _ => ?_) (fun c0 => absurd c0 (by decide))
  refine lv_aload_n hx hb dX6_readTerm_54 rfl (lv_at hl 1 rfl) ?_
  refine va_get (D := (dC, dI)) (ci := 6) (v := .int 0) (C := RX6) (T := TX6) (N := 20) hx hb ht uX6 hown hK hP 0 rfl rfl 5 (by decide) (ht _ k_1_217) (fun _ h9 => h9) K5_F3 dX6_readTerm_55 ?_
  refine lv_bipush (v := 63) hx hb dX6_readTerm_58 (by decide) ?_
  refine lv_icmp_ne (tgt := 81) hx hb dX6_readTerm_60 (by decide) (fun _ => ?_) (fun c0 => absurd c0 (by decide))
  refine lv_aload_n hx hb dX6_readTerm_81 rfl (lv_at hl 1 rfl) ?_
  refine va_get (D := (dC, dI)) (ci := 6) (v := .int 0) (C := RX6) (T := TX6) (N := 20) hx hb ht uX6 hown hK hP 0 rfl rfl 5 (by decide) (ht _ k_1_217) (fun _ h9 => h9) K5_F3 dX6_readTerm_82 ?_
  refine lv_iconst (v := 1) hx hb dX6_readTerm_85 (by decide) ?_
  refine lv_icmp_eq (tgt := 94) hx hb dX6_readTerm_86 (by decide) (fun c0 => absurd c0 (by decide)) (fun _ => ?_)
  refine lv_aload_n hx hb dX6_readTerm_89 rfl (lv_at hl 1 rfl) ?_
  refine ca_i (wr := []) (va_runV (As := []) (rest := []) ⟨hx, hb, hml, hown, ht⟩ (m6_stop l dC dI H.size rd F3 L_F3 K6_F3 K9_F3 ) (cwV 0 ht (gdV k_4_217 k_4_214 k_4_216 ks_10 k_1_8) rfl rfl rfl (by decide +kernel) ⟨Nat.le_of_ble_eq_true rfl, Nat.le_of_ble_eq_true rfl⟩) ⟨pcw_blind, va_recv hK hP (ci := 6) (q0 := 0) rfl rfl, pcw_at hP hD hK [0] [] (by decide) rfl rfl rfl⟩ rfl rfl hl.1 rfl (lv_room (Nat.le_of_ble_eq_true rfl)) dX6_readTerm_90 ⟨Nat.le_of_ble_eq_true rfl, Nat.le_of_ble_eq_true rfl⟩) hP hD hK hS hA [0] [] rfl rfl (by decide) (by decide) (fun r4 u H locs w5 hK hP hD hS => ?_)
  obtain ⟨F6, rfl⟩ : ∃ z, z = u := ⟨_, rfl⟩
  have hK : va_K (dC, dI) cls [] s := hK
  have hP : va_P (dC, dI) cls [(rd, .inr (6, F6))] H := hP
  have hD : va_D A [(rd, .inr (6, F6))] := hD
  obtain ⟨w5, K7, K8, K9⟩ := w5
  obtain rfl : r4 = 0 := w5
  exact W.zret (v := 0) hx hb hr rfl (fun t ht9 hW => ⟨⟨0, (F6), rfl, ⟨rfl, K7, K8, K9⟩, by rw [ht9]; exact hP.sub [0] rfl, va_K.moved hW.alike (hK.sub [] rfl), hD.sub [0] (by decide) rfl⟩, hS.F ht9⟩) hS.2.2 dX6_readTerm_93
set_option maxHeartbeats 4000000 in
set_option maxRecDepth 100000 in
theorem m6_readWhole (l : Launch) (dC : Nat → ClassId) (dI : Nat → Nat → Nat) (sz : Nat) (rd : Nat) (gr : List Value) (p0 : Int32) (L_gr : gr.length = 20) (K5_gr : gr[5]? = some (.int 0)) (K6_gr : gr[6]? = some (.int 0)) (K9_gr : gr[9]? = some (.int 0)) : Met l yX6_readWhole (Cond.code yX6_readWhole cX6_readWhole 3 (some .int) :: tb) ({ frames := 2, cells := 0, slots := 0, locals := 45 }) (pcw [.ref rd, .int p0] (dC, dI) [(rd, .inr (6, gr))] [] sz) (va_Qi (fun (r : Int32) => (fun (gr1 : List Value) => (r = -1) ∧ (gr1.length = 20) ∧ (gr1[9]? = some (.int 1)) ∧ (gr1[10]? = some (.int 0)))) (bw (dC, dI) (va_A [(rd, .inr (6, gr))] sz) (fun (gr1 : List Value) => [(rd, .inr (6, gr1))]) (fun (gr1 : List Value) => [])) (va_A [(rd, .inr (6, gr))] sz)) 0 0 (va_A [(rd, .inr (6, gr))] sz) := by
  refine Met.ofW (cc := cX6_readWhole) (maxL := 3) (ret := (some .int)) (by decide) rfl ?_
  intro p e s m args below meth c s₁ B hml hv
  obtain ⟨rfl, hsz, hP, hK, hD0⟩ := hv
  have hx := B.exec
  have hb := B.bytes
  have hr := B.returns
  have hts := atoms_spec (ws := Cond.code yX6_readWhole cX6_readWhole 3 (some .int) :: tb) B.pre
  have ht : ∀ w ∈ tb, w.before _ s = true := fun w h => hts w (List.mem_cons_of_mem _ h)
  have hown : s.vm.findClass RX6 = some m.cls := findClass_of_methodNamed B.named
  have hlocks := B.notSynchronized
  subst hsz
  have hD := hD0.self (sz := s.heap.size)
  generalize hAe : va_A [(rd, .inr (6, gr))] s.heap.size = A at hD ⊢
  have hA : ∀ q : Nat, s.heap.size ≤ q → A q := fun q h => by rw [← hAe]; exact Or.inr h
  have hS : va_S A s.heap s.heap [] := va_S.rf
  have hl := lv_entry ([.ref rd, .int p0]) (n := 3) (Nat.le_of_ble_eq_true rfl)
  rw [lg_entry_eq]
  generalize (lg_sl ([.ref rd, .int p0]) ++ List.replicate (3 - (lg_sl ([.ref rd, .int p0])).length) Slot.unset).toArray = ls at hl ⊢
  have hl : lv_has ls 3 [(0, .ref rd), (1, .int p0)] := hl
  have hP : va_P (dC, dI) cls [(rd, .inr (6, gr))] s.heap := hP
  refine lv_aload_n hx hb dX6_readWhole_0 rfl (lv_at hl 0 rfl) ?_
  refine va_get (D := (dC, dI)) (ci := 6) (v := .int 0) (C := RX6) (T := TX6) (N := 20) hx hb ht uX6 hown hK hP 0 rfl rfl 6 (by decide) (ht _ k_1_218) (fun _ h9 => h9) K6_gr dX6_readWhole_1 ?_
  refine lv_istore_n (lv' := [(2, .int 0), (0, .ref rd), (1, .int p0)]) hx hb dX6_readWhole_4 rfl hl (by decide) rfl (fun ls hl => ?_)
  refine lv_aload_n hx hb dX6_readWhole_5 rfl (lv_at hl 1 rfl) ?_
  refine lv_iconst (v := 0) hx hb dX6_readWhole_6 (by decide) ?_
  refine ca_i (wr := []) (va_runV (As := [.int 0]) (rest := []) ⟨hx, hb, hml, hown, ht⟩ (m6_readTerm l dC dI s.heap.size rd gr L_gr K5_gr K6_gr K9_gr ) (cwV 1 ht (gdV k_5_81 k_5_78 k_5_80 ks_26 k_1_8) rfl rfl rfl (by decide +kernel) ⟨Nat.le_of_ble_eq_true rfl, Nat.le_of_ble_eq_true rfl⟩) ⟨pcw_blind, va_recv hK hP (ci := 6) (q0 := 0) rfl rfl, pcw_at hP hD hK [0] [] (by decide) rfl rfl rfl⟩ rfl rfl hl.1 rfl (lv_room (Nat.le_of_ble_eq_true rfl)) dX6_readWhole_7 ⟨Nat.le_of_ble_eq_true rfl, Nat.le_of_ble_eq_true rfl⟩) hP hD hK hS hA [0] [] rfl rfl (by decide) (by decide) (fun r1 u H locs w2 hK hP hD hS => ?_)
  obtain ⟨F3, rfl⟩ : ∃ z, z = u := ⟨_, rfl⟩
  have hK : va_K (dC, dI) cls [] s := hK
  have hP : va_P (dC, dI) cls [(rd, .inr (6, F3))] H := hP
  have hD : va_D A [(rd, .inr (6, F3))] := hD
  obtain ⟨w2, K4, K5, K6⟩ := w2
  obtain rfl : r1 = 0 := w2
  refine lv_if_ne (tgt := 15) hx hb dX6_readWhole_10 (by decide) (fun c0 => absurd c0 (by decide)) (fun _ => ?_)
  refine lv_iconst (v := (-1)) hx hb dX6_readWhole_13 (by decide) ?_
  exact W.iret (v := (-1)) hx hb hr (fun t ht9 hW => ⟨⟨(-1), (F3), rfl, ⟨rfl, K4, K5, K6⟩, by rw [ht9]; exact hP.sub [0] rfl, va_K.moved hW.alike (hK.sub [] rfl), hD.sub [0] (by decide) rfl⟩, hS.F ht9⟩) hS.2.2 dX6_readWhole_14
set_option maxHeartbeats 4000000 in
set_option maxRecDepth 100000 in
theorem m6_readTold (l : Launch) (dC : Nat → ClassId) (dI : Nat → Nat → Nat) (sz : Nat) (rd : Nat) (gr : List Value) (nd : Nat) (gn : List Value) (tp : Nat) (cT : ClassId) (ft : Nat → Int32) (p0 : Int32) (p1 : Int32) (L_gr : gr.length = 20) (K11_gr : gr[11]? = some (.ref nd)) (L_gn : gn.length = 4) : Met l yX6_readTold (Cond.code yX6_readTold cX6_readTold 6 none :: tb) ({ frames := 3, cells := 0, slots := 0, locals := 67 }) (pcw [.ref rd, .ref tp, .int 0, .int 0, .int p0, .int p1] (dC, dI) [(rd, .inr (6, gr)), (nd, .inr (9, gn)), (tp, .inl (cT, 2000, .inl ft))] [(cT, .byte)] sz) (va_Qv (fun (gr1 : List Value) => (True) ∧ (gr1.length = 20) ∧ (gr1[9]? = some (.int 1)) ∧ (gr1[10]? = some (.int 0))) (bw (dC, dI) (va_A [(rd, .inr (6, gr)), (nd, .inr (9, gn)), (tp, .inl (cT, 2000, .inl ft))] sz) (fun (gr1 : List Value) => [(rd, .inr (6, gr1))]) (fun (gr1 : List Value) => [])) (va_A [(rd, .inr (6, gr)), (nd, .inr (9, gn)), (tp, .inl (cT, 2000, .inl ft))] sz)) 0 0 (va_A [(rd, .inr (6, gr)), (nd, .inr (9, gn)), (tp, .inl (cT, 2000, .inl ft))] sz) := by
  refine Met.ofW (cc := cX6_readTold) (maxL := 6) (ret := none) (by decide) rfl ?_
  intro p e s m args below meth c s₁ B hml hv
  obtain ⟨rfl, hsz, hP, hK, hD0⟩ := hv
  have hx := B.exec
  have hb := B.bytes
  have hr := B.returns
  have hts := atoms_spec (ws := Cond.code yX6_readTold cX6_readTold 6 none :: tb) B.pre
  have ht : ∀ w ∈ tb, w.before _ s = true := fun w h => hts w (List.mem_cons_of_mem _ h)
  have hown : s.vm.findClass RX6 = some m.cls := findClass_of_methodNamed B.named
  have hlocks := B.notSynchronized
  subst hsz
  have hD := hD0.self (sz := s.heap.size)
  generalize hAe : va_A [(rd, .inr (6, gr)), (nd, .inr (9, gn)), (tp, .inl (cT, 2000, .inl ft))] s.heap.size = A at hD ⊢
  have hA : ∀ q : Nat, s.heap.size ≤ q → A q := fun q h => by rw [← hAe]; exact Or.inr h
  have hS : va_S A s.heap s.heap [] := va_S.rf
  have hl := lv_entry ([.ref rd, .ref tp, .int 0, .int 0, .int p0, .int p1]) (n := 6) (Nat.le_of_ble_eq_true rfl)
  rw [lg_entry_eq]
  generalize (lg_sl ([.ref rd, .ref tp, .int 0, .int 0, .int p0, .int p1]) ++ List.replicate (6 - (lg_sl ([.ref rd, .ref tp, .int 0, .int 0, .int p0, .int p1])).length) Slot.unset).toArray = ls at hl ⊢
  have hl : lv_has ls 6 [(0, .ref rd), (1, .ref tp), (2, .int 0), (3, .int 0), (4, .int p0), (5, .int p1)] := hl
  have hP : va_P (dC, dI) cls [(rd, .inr (6, gr)), (nd, .inr (9, gn)), (tp, .inl (cT, 2000, .inl ft))] s.heap := hP
  refine lv_aload_n hx hb dX6_readTold_0 rfl (lv_at hl 0 rfl) ?_
  refine lv_aload_n hx hb dX6_readTold_1 rfl (lv_at hl 1 rfl) ?_
  refine lv_iload_n hx hb dX6_readTold_2 rfl (lv_at hl 2 rfl) ?_
  refine lv_iload_n hx hb dX6_readTold_3 rfl (lv_at hl 3 rfl) ?_
  refine ca_v (wr := []) (va_runV (As := [.ref tp, .int 0, .int 0]) (rest := []) ⟨hx, hb, hml, hown, ht⟩ (m6_begin l dC dI s.heap.size rd gr nd gn tp cT ft L_gr K11_gr L_gn ) (cwV 3 ht (gdV k_4_173 k_4_170 k_4_172 ks_2 k_1_8) rfl rfl rfl (by decide +kernel) ⟨Nat.le_of_ble_eq_true rfl, Nat.le_of_ble_eq_true rfl⟩) ⟨pcw_blind, va_recv hK hP (ci := 6) (q0 := 0) rfl rfl, pcw_at hP hD hK [0, 1, 2] [0] (by decide) rfl rfl rfl⟩ rfl rfl hl.1 rfl (lv_room (Nat.le_of_ble_eq_true rfl)) dX6_readTold_4 ⟨Nat.le_of_ble_eq_true rfl, Nat.le_of_ble_eq_true rfl⟩) hP hD hK hS hA [0, 1, 2] [] rfl rfl (by decide) (by decide) (fun u H locs w2 hK hP hD hS => ?_)
  obtain ⟨F3, rfl⟩ : ∃ z, z = u := ⟨_, rfl⟩
  have hK : va_K (dC, dI) cls [(cT, .byte)] s := hK
  have hP : va_P (dC, dI) cls [(rd, .inr (6, F3))] H := hP
  have hD : va_D A [(rd, .inr (6, F3))] := hD
  obtain ⟨w2, K4, K5, K6, K7, K8⟩ := w2
  refine lv_aload_n hx hb dX6_readTold_7 rfl (lv_at hl 0 rfl) ?_
  refine lv_iload hx hb dX6_readTold_8 (lv_at hl 5 rfl) ?_
  refine va_put (D := (dC, dI)) (ci := 6) (v := .int p1) (ty := .int) (C := RX6) (T := TX6) (N := 20) hx hb ht uX6 tyX6 tkX6 nmX6 hown hK hP hD hS 0 rfl rfl 16 (by decide) (ht _ k_1_233) (fun _ h9 => h9) rfl (by decide +kernel) rfl rfl (by rw [K4]; decide) dX6_readTold_10 (fun H locs hP hD hS => ?_)
  obtain ⟨F9, eF9⟩ : ∃ g : List Value, g = F3.set 16 (.int p1) := ⟨_, rfl⟩
  rw [← eF9] at hP hD
  have K5_F9 : F9[5]? = some (.int 0) := by rw [eF9, List.getElem?_set_ne (by decide)]; exact K5
  have K6_F9 : F9[6]? = some (.int 0) := by rw [eF9, List.getElem?_set_ne (by decide)]; exact K6
  have K9_F9 : F9[9]? = some (.int 0) := by rw [eF9, List.getElem?_set_ne (by decide)]; exact K7
  have K11_F9 : F9[11]? = some (.ref nd) := by rw [eF9, List.getElem?_set_ne (by decide)]; exact K8
  have K16_F9 : F9[16]? = some (.int p1) := by rw [eF9]; exact List.getElem?_set_self (by rw [K4]; decide)
  have L_F9 : F9.length = 20 := by rw [eF9, List.length_set]; exact K4
  have hP : va_P (dC, dI) cls [(rd, .inr (6, F9))] H := hP
  have hD : va_D A [(rd, .inr (6, F9))] := hD
  refine lv_aload_n hx hb dX6_readTold_13 rfl (lv_at hl 0 rfl) ?_
  refine lv_iload hx hb dX6_readTold_14 (lv_at hl 4 rfl) ?_
  refine ca_i (wr := []) (va_runV (As := [.int p0]) (rest := []) ⟨hx, hb, hml, hown, ht⟩ (m6_readWhole l dC dI H.size rd F9 p0 L_F9 K5_F9 K6_F9 K9_F9 ) (cwV 1 ht (gdV k_5_77 k_5_74 k_5_76 ks_25 k_1_8) rfl rfl rfl (by decide +kernel) ⟨Nat.le_of_ble_eq_true rfl, Nat.le_of_ble_eq_true rfl⟩) ⟨pcw_blind, va_recv hK hP (ci := 6) (q0 := 0) rfl rfl, pcw_at hP hD hK [0] [] (by decide) rfl rfl rfl⟩ rfl rfl hl.1 rfl (lv_room (Nat.le_of_ble_eq_true rfl)) dX6_readTold_16 ⟨Nat.le_of_ble_eq_true rfl, Nat.le_of_ble_eq_true rfl⟩) hP hD hK hS hA [0] [] rfl rfl (by decide) (by decide) (fun r10 u H locs w11 hK hP hD hS => ?_)
  obtain ⟨F12, rfl⟩ : ∃ z, z = u := ⟨_, rfl⟩
  have hK : va_K (dC, dI) cls [(cT, .byte)] s := hK
  have hP : va_P (dC, dI) cls [(rd, .inr (6, F12))] H := hP
  have hD : va_D A [(rd, .inr (6, F12))] := hD
  obtain ⟨w11, K13, K14, K15⟩ := w11
  obtain rfl : r10 = (-1) := w11
  refine lv_if_lt (tgt := 34) hx hb dX6_readTold_19 (by decide) (fun _ => ?_) (fun c0 => absurd c0 (by decide))
  exact W.vret hx hb hr (fun t ht9 hW => ⟨⟨(F12), rfl, ⟨trivial, K13, K14, K15⟩, by rw [ht9]; exact hP.sub [0] rfl, va_K.moved hW.alike (hK.sub [] rfl), hD.sub [0] (by decide) rfl⟩, hS.F ht9⟩) hS.2.2 dX6_readTold_34
set_option maxHeartbeats 4000000 in
set_option maxRecDepth 100000 in
theorem m6_setScope (l : Launch) (dC : Nat → ClassId) (dI : Nat → Nat → Nat) (sz : Nat) (rd : Nat) (gr : List Value) (nd : Nat) (ks : Nat) (L_gr : gr.length = 20) (K11_gr : gr[11]? = some (.ref nd)) : Met l yX6_setScope (Cond.code yX6_setScope cX6_setScope 4 none :: tb) ({ frames := 0, cells := 0, slots := 0, locals := 0 }) (pcw [.ref rd, .int 0, .ref ks] (dC, dI) [(rd, .inr (6, gr))] [] sz) (va_Qv (fun (gr1 : List Value) => (True) ∧ (gr1.length = 20) ∧ (gr1[11]? = some (.ref nd))) (bw (dC, dI) (va_A [(rd, .inr (6, gr))] sz) (fun (gr1 : List Value) => [(rd, .inr (6, gr1))]) (fun (gr1 : List Value) => [])) (va_A [(rd, .inr (6, gr))] sz)) 0 0 (va_A [(rd, .inr (6, gr))] sz) := by
  refine Met.ofW (cc := cX6_setScope) (maxL := 4) (ret := none) (by decide) rfl ?_
  intro p e s m args below meth c s₁ B hml hv
  obtain ⟨rfl, hsz, hP, hK, hD0⟩ := hv
  have hx := B.exec
  have hb := B.bytes
  have hr := B.returns
  have hts := atoms_spec (ws := Cond.code yX6_setScope cX6_setScope 4 none :: tb) B.pre
  have ht : ∀ w ∈ tb, w.before _ s = true := fun w h => hts w (List.mem_cons_of_mem _ h)
  have hown : s.vm.findClass RX6 = some m.cls := findClass_of_methodNamed B.named
  have hlocks := B.notSynchronized
  subst hsz
  have hD := hD0.self (sz := s.heap.size)
  generalize hAe : va_A [(rd, .inr (6, gr))] s.heap.size = A at hD ⊢
  have hA : ∀ q : Nat, s.heap.size ≤ q → A q := fun q h => by rw [← hAe]; exact Or.inr h
  have hS : va_S A s.heap s.heap [] := va_S.rf
  have hl := lv_entry ([.ref rd, .int 0, .ref ks]) (n := 4) (Nat.le_of_ble_eq_true rfl)
  rw [lg_entry_eq]
  generalize (lg_sl ([.ref rd, .int 0, .ref ks]) ++ List.replicate (4 - (lg_sl ([.ref rd, .int 0, .ref ks])).length) Slot.unset).toArray = ls at hl ⊢
  have hl : lv_has ls 4 [(0, .ref rd), (1, .int 0), (2, .ref ks)] := hl
  have hP : va_P (dC, dI) cls [(rd, .inr (6, gr))] s.heap := hP
  refine lv_aload_n hx hb dX6_setScope_0 rfl (lv_at hl 0 rfl) ?_
  refine lv_iconst (v := 0) hx hb dX6_setScope_1 (by decide) ?_
  refine va_put (D := (dC, dI)) (ci := 6) (v := .int 0) (ty := .int) (C := RX6) (T := TX6) (N := 20) hx hb ht uX6 tyX6 tkX6 nmX6 hown hK hP hD hS 0 rfl rfl 12 (by decide) (ht _ k_1_228) (fun _ h9 => h9) rfl (by decide +kernel) rfl rfl (by rw [L_gr]; decide) dX6_setScope_2 (fun H locs hP hD hS => ?_)
  obtain ⟨F1, eF1⟩ : ∃ g : List Value, g = gr.set 12 (.int 0) := ⟨_, rfl⟩
  rw [← eF1] at hP hD
  have K11_F1 : F1[11]? = some (.ref nd) := by rw [eF1, List.getElem?_set_ne (by decide)]; exact K11_gr
  have K12_F1 : F1[12]? = some (.int 0) := by rw [eF1]; exact List.getElem?_set_self (by rw [L_gr]; decide)
  have L_F1 : F1.length = 20 := by rw [eF1, List.length_set]; exact L_gr
  have hP : va_P (dC, dI) cls [(rd, .inr (6, F1))] H := hP
  have hD : va_D A [(rd, .inr (6, F1))] := hD
  refine lv_iconst (v := 0) hx hb dX6_setScope_5 (by decide) ?_
  refine lv_istore_n (lv' := [(3, .int 0), (0, .ref rd), (1, .int 0), (2, .ref ks)]) hx hb dX6_setScope_6 rfl hl (by decide) rfl (fun ls hl => ?_)
  refine lv_iload_n hx hb dX6_setScope_7 rfl (lv_at hl 0 rfl) ?_
  refine lv_iload_n hx hb dX6_setScope_8 rfl (lv_at hl 2 rfl) ?_
  refine lv_icmp_ge (tgt := 40) hx hb dX6_setScope_9 (by decide) (fun _ => ?_) (fun c0 => absurd c0 (by decide))
  exact W.vret hx hb hr (fun t ht9 hW => ⟨⟨(F1), rfl, ⟨trivial, L_F1, K11_F1⟩, by rw [ht9]; exact hP.sub [0] rfl, va_K.moved hW.alike (hK.sub [] rfl), hD.sub [0] (by decide) rfl⟩, hS.F ht9⟩) hS.2.2 dX6_setScope_40
set_option maxHeartbeats 4000000 in
set_option maxRecDepth 100000 in
theorem x_readTold (l : Launch) (dC : Nat → ClassId) (dI : Nat → Nat → Nat) (sz : Nat) (q : Nat) (fs : List Value) (tp : Nat) (rd : Nat) (as : Nat) (sp : Nat) (lp : Nat) (wr : Nat) (ma : Nat) (dk : Nat) (gr : List Value) (nd : Nat) (gn : List Value) (cT : ClassId) (ft : Nat → Int32) (ga : List Value) (ks : Nat) (p0 : Int32) (p1 : Int32) (L_fs : fs.length = 18) (K0_fs : fs[0]? = some (.ref tp)) (K1_fs : fs[1]? = some (.int 0)) (K2_fs : fs[2]? = some (.int 0)) (K8_fs : fs[8]? = some (.ref rd)) (K9_fs : fs[9]? = some (.ref as)) (K10_fs : fs[10]? = some (.ref sp)) (K11_fs : fs[11]? = some (.int 0)) (K14_fs : fs[14]? = some (.ref lp)) (K15_fs : fs[15]? = some (.ref wr)) (K16_fs : fs[16]? = some (.ref ma)) (K17_fs : fs[17]? = some (.ref dk)) (L_gr : gr.length = 20) (K11_gr : gr[11]? = some (.ref nd)) (L_gn : gn.length = 4) (L_ga : ga.length = 16) (K1_ga : ga[1]? = some (.ref ks)) : Met l yX11_readTold (Cond.code yX11_readTold cX11_readTold 3 none :: tb) ({ frames := 4, cells := 0, slots := 0, locals := 92 }) (pcw [.ref q, .int p0, .int p1] (dC, dI) [(q, .inr (11, fs)), (rd, .inr (6, gr)), (nd, .inr (9, gn)), (tp, .inl (cT, 2000, .inl ft)), (as, .inr (1, ga))] [(cT, .byte)] sz) (va_Qv (fun (u : (List Value) × (List Value)) => match u with | (fs1, gr1) => (True) ∧ (fs1.length = 18) ∧ (fs1[0]? = some (.ref tp)) ∧ (fs1[1]? = some (.int 0)) ∧ (fs1[2]? = some (.int 0)) ∧ (fs1[8]? = some (.ref rd)) ∧ (fs1[9]? = some (.ref as)) ∧ (fs1[10]? = some (.ref sp)) ∧ (fs1[11]? = some (.int 0)) ∧ (fs1[14]? = some (.ref lp)) ∧ (fs1[15]? = some (.ref wr)) ∧ (fs1[16]? = some (.ref ma)) ∧ (fs1[17]? = some (.ref dk)) ∧ (gr1.length = 20) ∧ (gr1[9]? = some (.int 1)) ∧ (gr1[10]? = some (.int 0))) (bw (dC, dI) (va_A [(q, .inr (11, fs)), (rd, .inr (6, gr)), (nd, .inr (9, gn)), (tp, .inl (cT, 2000, .inl ft)), (as, .inr (1, ga))] sz) (fun (u : (List Value) × (List Value)) => match u with | (fs1, gr1) => [(q, .inr (11, fs1)), (rd, .inr (6, gr1))]) (fun (u : (List Value) × (List Value)) => match u with | (fs1, gr1) => [])) (va_A [(q, .inr (11, fs)), (rd, .inr (6, gr)), (nd, .inr (9, gn)), (tp, .inl (cT, 2000, .inl ft)), (as, .inr (1, ga))] sz)) 0 0 (va_A [(q, .inr (11, fs)), (rd, .inr (6, gr)), (nd, .inr (9, gn)), (tp, .inl (cT, 2000, .inl ft)), (as, .inr (1, ga))] sz) := by
  refine Met.ofW (cc := cX11_readTold) (maxL := 3) (ret := none) (by decide) rfl ?_
  intro p e s m args below meth c s₁ B hml hv
  obtain ⟨rfl, hsz, hP, hK, hD0⟩ := hv
  have hx := B.exec
  have hb := B.bytes
  have hr := B.returns
  have hts := atoms_spec (ws := Cond.code yX11_readTold cX11_readTold 3 none :: tb) B.pre
  have ht : ∀ w ∈ tb, w.before _ s = true := fun w h => hts w (List.mem_cons_of_mem _ h)
  have hown : s.vm.findClass RX11 = some m.cls := findClass_of_methodNamed B.named
  have hlocks := B.notSynchronized
  subst hsz
  have hD := hD0.self (sz := s.heap.size)
  generalize hAe : va_A [(q, .inr (11, fs)), (rd, .inr (6, gr)), (nd, .inr (9, gn)), (tp, .inl (cT, 2000, .inl ft)), (as, .inr (1, ga))] s.heap.size = A at hD ⊢
  have hA : ∀ q : Nat, s.heap.size ≤ q → A q := fun q h => by rw [← hAe]; exact Or.inr h
  have hS : va_S A s.heap s.heap [] := va_S.rf
  have hl := lv_entry ([.ref q, .int p0, .int p1]) (n := 3) (Nat.le_of_ble_eq_true rfl)
  rw [lg_entry_eq]
  generalize (lg_sl ([.ref q, .int p0, .int p1]) ++ List.replicate (3 - (lg_sl ([.ref q, .int p0, .int p1])).length) Slot.unset).toArray = ls at hl ⊢
  have hl : lv_has ls 3 [(0, .ref q), (1, .int p0), (2, .int p1)] := hl
  have hP : va_P (dC, dI) cls [(q, .inr (11, fs)), (rd, .inr (6, gr)), (nd, .inr (9, gn)), (tp, .inl (cT, 2000, .inl ft)), (as, .inr (1, ga))] s.heap := hP
  refine lv_aload_n hx hb dX11_readTold_0 rfl (lv_at hl 0 rfl) ?_
  refine va_get (D := (dC, dI)) (ci := 11) (v := .ref rd) (C := RX11) (T := TX11) (N := 18) hx hb ht uX11 hown hK hP 0 rfl rfl 8 (by decide) (ht _ k_4_99) (fun _ h9 => h9) K8_fs dX11_readTold_1 ?_
  refine lv_aload_n hx hb dX11_readTold_4 rfl (lv_at hl 0 rfl) ?_
  refine va_get (D := (dC, dI)) (ci := 11) (v := .int 0) (C := RX11) (T := TX11) (N := 18) hx hb ht uX11 hown hK hP 0 rfl rfl 11 (by decide) (ht _ k_4_102) (fun _ h9 => h9) K11_fs dX11_readTold_5 ?_
  refine lv_if_eq (tgt := 21) hx hb dX11_readTold_8 (by decide) (fun _ => ?_) (fun c0 => absurd c0 (by decide))
  refine lv_iconst (v := 0) hx hb dX11_readTold_21 (by decide) ?_
  refine lv_aload_n hx hb dX11_readTold_22 rfl (lv_at hl 0 rfl) ?_
  refine va_get (D := (dC, dI)) (ci := 11) (v := .ref as) (C := RX11) (T := TX11) (N := 18) hx hb ht uX11 hown hK hP 0 rfl rfl 9 (by decide) (ht _ k_4_100) (fun _ h9 => h9) K9_fs dX11_readTold_23 ?_
  refine va_get (D := (dC, dI)) (ci := 1) (v := .ref ks) (C := RX1) (T := TX1) (N := 16) hx hb ht uX1 hown hK hP 4 rfl rfl 1 (by decide) (ht _ k_2_60) (fun _ h9 => h9) K1_ga dX11_readTold_26 ?_
  refine ca_v (wr := [(q, .inr (11, fs)), (nd, .inr (9, gn)), (tp, .inl (cT, 2000, .inl ft)), (as, .inr (1, ga))]) (va_runV (As := [.int 0, .ref ks]) (rest := []) ⟨hx, hb, hml, hown, ht⟩ (m6_setScope l dC dI s.heap.size rd gr nd ks L_gr K11_gr ) (cwV 2 ht (gdV k_5_165 k_6_185 k_5_163 k_5_164 k_1_8) rfl rfl rfl (by decide +kernel) ⟨Nat.le_of_ble_eq_true rfl, Nat.le_of_ble_eq_true rfl⟩) ⟨pcw_blind, va_recv hK hP (ci := 6) (q0 := 1) rfl rfl, pcw_at hP hD hK [1] [] (by decide) rfl rfl rfl⟩ rfl rfl hl.1 rfl (lv_room (Nat.le_of_ble_eq_true rfl)) dX11_readTold_29 ⟨Nat.le_of_ble_eq_true rfl, Nat.le_of_ble_eq_true rfl⟩) hP hD hK hS hA [1] [0, 2, 3, 4] rfl rfl (by decide) (by decide) (fun u H locs w2 hK hP hD hS => ?_)
  obtain ⟨F3, rfl⟩ : ∃ z, z = u := ⟨_, rfl⟩
  have hK : va_K (dC, dI) cls [(cT, .byte)] s := hK
  have hP : va_P (dC, dI) cls [(q, .inr (11, fs)), (nd, .inr (9, gn)), (tp, .inl (cT, 2000, .inl ft)), (as, .inr (1, ga)), (rd, .inr (6, F3))] H := hP
  have hD : va_D A [(q, .inr (11, fs)), (nd, .inr (9, gn)), (tp, .inl (cT, 2000, .inl ft)), (as, .inr (1, ga)), (rd, .inr (6, F3))] := hD
  obtain ⟨w2, K4, K5⟩ := w2
  refine lv_aload_n hx hb dX11_readTold_32 rfl (lv_at hl 0 rfl) ?_
  refine va_get (D := (dC, dI)) (ci := 11) (v := .ref rd) (C := RX11) (T := TX11) (N := 18) hx hb ht uX11 hown hK hP 0 rfl rfl 8 (by decide) (ht _ k_4_99) (fun _ h9 => h9) K8_fs dX11_readTold_33 ?_
  refine lv_aload_n hx hb dX11_readTold_36 rfl (lv_at hl 0 rfl) ?_
  refine va_get (D := (dC, dI)) (ci := 11) (v := .ref tp) (C := RX11) (T := TX11) (N := 18) hx hb ht uX11 hown hK hP 0 rfl rfl 0 (by decide) (ht _ k_4_91) (fun _ h9 => h9) K0_fs dX11_readTold_37 ?_
  refine lv_iconst (v := 0) hx hb dX11_readTold_40 (by decide) ?_
  refine lv_aload_n hx hb dX11_readTold_41 rfl (lv_at hl 0 rfl) ?_
  refine ca_i (wr := [(nd, .inr (9, gn)), (tp, .inl (cT, 2000, .inl ft)), (as, .inr (1, ga)), (rd, .inr (6, F3))]) (va_runV (As := []) (rest := [.int 0, .ref tp, .ref rd]) ⟨hx, hb, hml, hown, ht⟩ (x_takeTape l dC dI H.size q fs tp rd as sp lp wr ma dk L_fs K0_fs K1_fs K2_fs K8_fs K9_fs K10_fs K11_fs K14_fs K15_fs K16_fs K17_fs ) (cwV 0 ht (gdV k_4_165 k_4_162 k_4_164 ks_1 k_1_1) rfl rfl rfl (by decide +kernel) ⟨Nat.le_of_ble_eq_true rfl, Nat.le_of_ble_eq_true rfl⟩) ⟨pcw_blind, va_recv hK hP (ci := 11) (q0 := 0) rfl rfl, pcw_at hP hD hK [0] [] (by decide) rfl rfl rfl⟩ rfl rfl hl.1 rfl (lv_room (Nat.le_of_ble_eq_true rfl)) dX11_readTold_42 ⟨Nat.le_of_ble_eq_true rfl, Nat.le_of_ble_eq_true rfl⟩) hP hD hK hS hA [0] [1, 2, 3, 4] rfl rfl (by decide) (by decide) (fun r6 u H locs w7 hK hP hD hS => ?_)
  obtain ⟨F8, rfl⟩ : ∃ z, z = u := ⟨_, rfl⟩
  have hK : va_K (dC, dI) cls [(cT, .byte)] s := hK
  have hP : va_P (dC, dI) cls [(nd, .inr (9, gn)), (tp, .inl (cT, 2000, .inl ft)), (as, .inr (1, ga)), (rd, .inr (6, F3)), (q, .inr (11, F8))] H := hP
  have hD : va_D A [(nd, .inr (9, gn)), (tp, .inl (cT, 2000, .inl ft)), (as, .inr (1, ga)), (rd, .inr (6, F3)), (q, .inr (11, F8))] := hD
  obtain ⟨w7, K9, K10, K11, K12, K13, K14, K15, K16, K17, K18, K19, K20⟩ := w7
  obtain rfl : r6 = 0 := w7
  refine lv_aload_n hx hb dX11_readTold_45 rfl (lv_at hl 0 rfl) ?_
  refine va_get (D := (dC, dI)) (ci := 11) (v := .int 0) (C := RX11) (T := TX11) (N := 18) hx hb ht uX11 hown hK hP 4 rfl rfl 11 (by decide) (ht _ k_4_102) (fun _ h9 => h9) K16 dX11_readTold_46 ?_
  refine lv_if_eq (tgt := 56) hx hb dX11_readTold_49 (by decide) (fun _ => ?_) (fun c0 => absurd c0 (by decide))
  refine lv_iconst (v := 0) hx hb dX11_readTold_56 (by decide) ?_
  refine lv_iload_n hx hb dX11_readTold_57 rfl (lv_at hl 2 rfl) ?_
  refine ca_v (wr := [(as, .inr (1, ga)), (q, .inr (11, F8))]) (va_runV (As := [.ref tp, .int 0, .int 0, .int 0, .int p1]) (rest := []) ⟨hx, hb, hml, hown, ht⟩ (m6_readTold l dC dI H.size rd F3 nd gn tp cT ft 0 p1 K4 K5 L_gn ) (cwV 5 ht (gdV k_6_189 k_6_186 k_6_187 k_6_188 k_1_8) rfl rfl rfl (by decide +kernel) ⟨Nat.le_of_ble_eq_true rfl, Nat.le_of_ble_eq_true rfl⟩) ⟨pcw_blind, va_recv hK hP (ci := 6) (q0 := 3) rfl rfl, pcw_at hP hD hK [3, 0, 1] [0] (by decide) rfl rfl rfl⟩ rfl rfl hl.1 rfl (lv_room (Nat.le_of_ble_eq_true rfl)) dX11_readTold_58 ⟨Nat.le_of_ble_eq_true rfl, Nat.le_of_ble_eq_true rfl⟩) hP hD hK hS hA [3, 0, 1] [2, 4] rfl rfl (by decide) (by decide) (fun u H locs w22 hK hP hD hS => ?_)
  obtain ⟨F23, rfl⟩ : ∃ z, z = u := ⟨_, rfl⟩
  have hK : va_K (dC, dI) cls [(cT, .byte)] s := hK
  have hP : va_P (dC, dI) cls [(as, .inr (1, ga)), (q, .inr (11, F8)), (rd, .inr (6, F23))] H := hP
  have hD : va_D A [(as, .inr (1, ga)), (q, .inr (11, F8)), (rd, .inr (6, F23))] := hD
  obtain ⟨w22, K24, K25, K26⟩ := w22
  exact W.vret hx hb hr (fun t ht9 hW => ⟨⟨(F8, F23), rfl, ⟨trivial, K9, K10, K11, K12, K13, K14, K15, K16, K17, K18, K19, K20, K24, K25, K26⟩, by rw [ht9]; exact hP.sub [1, 2] rfl, va_K.moved hW.alike (hK.sub [] rfl), hD.sub [1, 2] (by decide) rfl⟩, hS.F ht9⟩) hS.2.2 dX11_readTold_61
set_option maxHeartbeats 4000000 in
set_option maxRecDepth 100000 in
theorem x_refuseFault (l : Launch) (dC : Nat → ClassId) (dI : Nat → Nat → Nat) (sz : Nat) (q : Nat) (fs : List Value) (rd : Nat) (gr : List Value) (L_fs : fs.length = 18) (K8_fs : fs[8]? = some (.ref rd)) (L_gr : gr.length = 20) (K9_gr : gr[9]? = some (.int 1)) (K10_gr : gr[10]? = some (.int 0)) : Met l yX11_refuseFault (Cond.code yX11_refuseFault cX11_refuseFault 1 (some .int) :: tb) ({ frames := 0, cells := 0, slots := 0, locals := 0 }) (pcw [.ref q] (dC, dI) [(q, .inr (11, fs)), (rd, .inr (6, gr))] [] sz) (va_Qi (fun (r : Int32) => (fun (_ : Unit) => r = -11)) (bw (dC, dI) (va_A [(q, .inr (11, fs)), (rd, .inr (6, gr))] sz) (fun (_ : Unit) => []) (fun (_ : Unit) => [])) (va_A [(q, .inr (11, fs)), (rd, .inr (6, gr))] sz)) 0 0 (va_A [(q, .inr (11, fs)), (rd, .inr (6, gr))] sz) := by
  refine Met.ofW (cc := cX11_refuseFault) (maxL := 1) (ret := (some .int)) (by decide) rfl ?_
  intro p e s m args below meth c s₁ B hml hv
  obtain ⟨rfl, hsz, hP, hK, hD0⟩ := hv
  have hx := B.exec
  have hb := B.bytes
  have hr := B.returns
  have hts := atoms_spec (ws := Cond.code yX11_refuseFault cX11_refuseFault 1 (some .int) :: tb) B.pre
  have ht : ∀ w ∈ tb, w.before _ s = true := fun w h => hts w (List.mem_cons_of_mem _ h)
  have hown : s.vm.findClass RX11 = some m.cls := findClass_of_methodNamed B.named
  have hlocks := B.notSynchronized
  subst hsz
  have hD := hD0.self (sz := s.heap.size)
  generalize hAe : va_A [(q, .inr (11, fs)), (rd, .inr (6, gr))] s.heap.size = A at hD ⊢
  have hA : ∀ q : Nat, s.heap.size ≤ q → A q := fun q h => by rw [← hAe]; exact Or.inr h
  have hS : va_S A s.heap s.heap [] := va_S.rf
  have hl := lv_entry ([.ref q]) (n := 1) (Nat.le_of_ble_eq_true rfl)
  rw [lg_entry_eq]
  generalize (lg_sl ([.ref q]) ++ List.replicate (1 - (lg_sl ([.ref q])).length) Slot.unset).toArray = ls at hl ⊢
  have hl : lv_has ls 1 [(0, .ref q)] := hl
  have hP : va_P (dC, dI) cls [(q, .inr (11, fs)), (rd, .inr (6, gr))] s.heap := hP
  refine lv_aload_n hx hb dX11_refuseFault_0 rfl (lv_at hl 0 rfl) ?_
  refine lv_aload_n hx hb dX11_refuseFault_1 rfl (lv_at hl 0 rfl) ?_
  refine va_get (D := (dC, dI)) (ci := 11) (v := .ref rd) (C := RX11) (T := TX11) (N := 18) hx hb ht uX11 hown hK hP 0 rfl rfl 8 (by decide) (ht _ k_4_99) (fun _ h9 => h9) K8_fs dX11_refuseFault_2 ?_
  refine va_get (D := (dC, dI)) (ci := 6) (v := .int 0) (C := RX6) (T := TX6) (N := 20) hx hb ht uX6 hown hK hP 1 rfl rfl 10 (by decide) (ht _ k_1_224) (fun _ h9 => h9) K10_gr dX11_refuseFault_5 ?_
  refine va_put (D := (dC, dI)) (ci := 11) (v := .int 0) (ty := .int) (C := RX11) (T := TX11) (N := 18) hx hb ht uX11 tyX11 tkX11 nmX11 hown hK hP hD hS 0 rfl rfl 3 (by decide) (ht _ k_4_94) (fun _ h9 => h9) rfl (by decide +kernel) rfl rfl (by rw [L_fs]; decide) dX11_refuseFault_8 (fun H locs hP hD hS => ?_)
  obtain ⟨F1, eF1⟩ : ∃ g : List Value, g = fs.set 3 (.int 0) := ⟨_, rfl⟩
  rw [← eF1] at hP hD
  have K8_F1 : F1[8]? = some (.ref rd) := by rw [eF1, List.getElem?_set_ne (by decide)]; exact K8_fs
  have K3_F1 : F1[3]? = some (.int 0) := by rw [eF1]; exact List.getElem?_set_self (by rw [L_fs]; decide)
  have L_F1 : F1.length = 18 := by rw [eF1, List.length_set]; exact L_fs
  have hP : va_P (dC, dI) cls [(q, .inr (11, F1)), (rd, .inr (6, gr))] H := hP
  have hD : va_D A [(q, .inr (11, F1)), (rd, .inr (6, gr))] := hD
  refine lv_bipush (v := (-10)) hx hb dX11_refuseFault_11 (by decide) ?_
  refine lv_aload_n hx hb dX11_refuseFault_13 rfl (lv_at hl 0 rfl) ?_
  refine va_get (D := (dC, dI)) (ci := 11) (v := .ref rd) (C := RX11) (T := TX11) (N := 18) hx hb ht uX11 hown hK hP 0 rfl rfl 8 (by decide) (ht _ k_4_99) (fun _ h9 => h9) K8_F1 dX11_refuseFault_14 ?_
  refine va_get (D := (dC, dI)) (ci := 6) (v := .int 1) (C := RX6) (T := TX6) (N := 20) hx hb ht uX6 hown hK hP 1 rfl rfl 9 (by decide) (ht _ k_1_222) (fun _ h9 => h9) K9_gr dX11_refuseFault_17 ?_
  refine lv_isub hx hb dX11_refuseFault_20 ?_
  refine tk_i (y := (-11)) (by decide) ?_
  exact W.iret (v := (-11)) hx hb hr (fun t ht9 hW => ⟨⟨(-11), (), rfl, rfl, by rw [ht9]; exact hP.sub [] rfl, va_K.moved hW.alike (hK.sub [] rfl), hD.sub [] (by decide) rfl⟩, hS.F ht9⟩) hS.2.2 dX11_refuseFault_21
set_option maxHeartbeats 4000000 in
set_option maxRecDepth 100000 in
theorem x_cheaper (l : Launch) (dC : Nat → ClassId) (dI : Nat → Nat → Nat) (sz : Nat) (q : Nat) (fs : List Value) (tp : Nat) (rd : Nat) (as : Nat) (sp : Nat) (lp : Nat) (wr : Nat) (ma : Nat) (dk : Nat) (gr : List Value) (nd : Nat) (gn : List Value) (cT : ClassId) (ft : Nat → Int32) (ga : List Value) (ks : Nat) (L_fs : fs.length = 18) (K0_fs : fs[0]? = some (.ref tp)) (K1_fs : fs[1]? = some (.int 0)) (K2_fs : fs[2]? = some (.int 0)) (K8_fs : fs[8]? = some (.ref rd)) (K9_fs : fs[9]? = some (.ref as)) (K10_fs : fs[10]? = some (.ref sp)) (K11_fs : fs[11]? = some (.int 0)) (K14_fs : fs[14]? = some (.ref lp)) (K15_fs : fs[15]? = some (.ref wr)) (K16_fs : fs[16]? = some (.ref ma)) (K17_fs : fs[17]? = some (.ref dk)) (L_gr : gr.length = 20) (K11_gr : gr[11]? = some (.ref nd)) (L_gn : gn.length = 4) (L_ga : ga.length = 16) (K1_ga : ga[1]? = some (.ref ks)) : Met l yX11_cheaper (Cond.code yX11_cheaper cX11_cheaper 3 (some .int) :: tb) ({ frames := 5, cells := 0, slots := 0, locals := 114 }) (pcw [.ref q] (dC, dI) [(q, .inr (11, fs)), (rd, .inr (6, gr)), (nd, .inr (9, gn)), (tp, .inl (cT, 2000, .inl ft)), (as, .inr (1, ga))] [(cT, .byte)] sz) (va_Qi (fun (r : Int32) => (fun (_ : Unit) => r = -11)) (bw (dC, dI) (va_A [(q, .inr (11, fs)), (rd, .inr (6, gr)), (nd, .inr (9, gn)), (tp, .inl (cT, 2000, .inl ft)), (as, .inr (1, ga))] sz) (fun (_ : Unit) => []) (fun (_ : Unit) => [])) (va_A [(q, .inr (11, fs)), (rd, .inr (6, gr)), (nd, .inr (9, gn)), (tp, .inl (cT, 2000, .inl ft)), (as, .inr (1, ga))] sz)) 0 0 (va_A [(q, .inr (11, fs)), (rd, .inr (6, gr)), (nd, .inr (9, gn)), (tp, .inl (cT, 2000, .inl ft)), (as, .inr (1, ga))] sz) := by
  refine Met.ofW (cc := cX11_cheaper) (maxL := 3) (ret := (some .int)) (by decide) rfl ?_
  intro p e s m args below meth c s₁ B hml hv
  obtain ⟨rfl, hsz, hP, hK, hD0⟩ := hv
  have hx := B.exec
  have hb := B.bytes
  have hr := B.returns
  have hts := atoms_spec (ws := Cond.code yX11_cheaper cX11_cheaper 3 (some .int) :: tb) B.pre
  have ht : ∀ w ∈ tb, w.before _ s = true := fun w h => hts w (List.mem_cons_of_mem _ h)
  have hown : s.vm.findClass RX11 = some m.cls := findClass_of_methodNamed B.named
  have hlocks := B.notSynchronized
  subst hsz
  have hD := hD0.self (sz := s.heap.size)
  generalize hAe : va_A [(q, .inr (11, fs)), (rd, .inr (6, gr)), (nd, .inr (9, gn)), (tp, .inl (cT, 2000, .inl ft)), (as, .inr (1, ga))] s.heap.size = A at hD ⊢
  have hA : ∀ q : Nat, s.heap.size ≤ q → A q := fun q h => by rw [← hAe]; exact Or.inr h
  have hS : va_S A s.heap s.heap [] := va_S.rf
  have hl := lv_entry ([.ref q]) (n := 3) (Nat.le_of_ble_eq_true rfl)
  rw [lg_entry_eq]
  generalize (lg_sl ([.ref q]) ++ List.replicate (3 - (lg_sl ([.ref q])).length) Slot.unset).toArray = ls at hl ⊢
  have hl : lv_has ls 3 [(0, .ref q)] := hl
  have hP : va_P (dC, dI) cls [(q, .inr (11, fs)), (rd, .inr (6, gr)), (nd, .inr (9, gn)), (tp, .inl (cT, 2000, .inl ft)), (as, .inr (1, ga))] s.heap := hP
  refine lv_aload_n hx hb dX11_cheaper_0 rfl (lv_at hl 0 rfl) ?_
  refine va_get (D := (dC, dI)) (ci := 11) (v := .int 0) (C := RX11) (T := TX11) (N := 18) hx hb ht uX11 hown hK hP 0 rfl rfl 2 (by decide) (ht _ k_4_93) (fun _ h9 => h9) K2_fs dX11_cheaper_1 ?_
  refine lv_if_eq (tgt := 10) hx hb dX11_cheaper_4 (by decide) (fun _ => ?_) (fun c0 => absurd c0 (by decide))
  refine lv_aload_n hx hb dX11_cheaper_10 rfl (lv_at hl 0 rfl) ?_
  refine lv_iconst (v := 0) hx hb dX11_cheaper_11 (by decide) ?_
  refine lv_iconst (v := (-1)) hx hb dX11_cheaper_12 (by decide) ?_
  refine ca_v (wr := []) (va_runV (As := [.int 0, .int (-1)]) (rest := []) ⟨hx, hb, hml, hown, ht⟩ (x_readTold l dC dI s.heap.size q fs tp rd as sp lp wr ma dk gr nd gn cT ft ga ks 0 (-1) L_fs K0_fs K1_fs K2_fs K8_fs K9_fs K10_fs K11_fs K14_fs K15_fs K16_fs K17_fs L_gr K11_gr L_gn L_ga K1_ga ) (cwV 2 ht (gdV k_6_184 k_6_181 k_6_183 ks_59 k_1_1) rfl rfl rfl (by decide +kernel) ⟨Nat.le_of_ble_eq_true rfl, Nat.le_of_ble_eq_true rfl⟩) ⟨pcw_blind, va_recv hK hP (ci := 11) (q0 := 0) rfl rfl, pcw_at hP hD hK [0, 1, 2, 3, 4] [0] (by decide) rfl rfl rfl⟩ rfl rfl hl.1 rfl (lv_room (Nat.le_of_ble_eq_true rfl)) dX11_cheaper_13 ⟨Nat.le_of_ble_eq_true rfl, Nat.le_of_ble_eq_true rfl⟩) hP hD hK hS hA [0, 1, 2, 3, 4] [] rfl rfl (by decide) (by decide) (fun u H locs w2 hK hP hD hS => ?_)
  obtain ⟨F3, F4⟩ := u
  have hK : va_K (dC, dI) cls [(cT, .byte)] s := hK
  have hP : va_P (dC, dI) cls [(q, .inr (11, F3)), (rd, .inr (6, F4))] H := hP
  have hD : va_D A [(q, .inr (11, F3)), (rd, .inr (6, F4))] := hD
  obtain ⟨w2, K5, K6, K7, K8, K9, K10, K11, K12, K13, K14, K15, K16, K17, K18, K19⟩ := w2
  refine lv_aload_n hx hb dX11_cheaper_16 rfl (lv_at hl 0 rfl) ?_
  refine va_get (D := (dC, dI)) (ci := 11) (v := .ref rd) (C := RX11) (T := TX11) (N := 18) hx hb ht uX11 hown hK hP 0 rfl rfl 8 (by decide) (ht _ k_4_99) (fun _ h9 => h9) K9 dX11_cheaper_17 ?_
  refine va_get (D := (dC, dI)) (ci := 6) (v := .int 1) (C := RX6) (T := TX6) (N := 20) hx hb ht uX6 hown hK hP 1 rfl rfl 9 (by decide) (ht _ k_1_222) (fun _ h9 => h9) K18 dX11_cheaper_20 ?_
  refine lv_if_eq (tgt := 31) hx hb dX11_cheaper_23 (by decide) (fun c0 => absurd c0 (by decide)) (fun _ => ?_)
  refine lv_aload_n hx hb dX11_cheaper_26 rfl (lv_at hl 0 rfl) ?_
  refine ca_i (wr := []) (va_runV (As := []) (rest := []) ⟨hx, hb, hml, hown, ht⟩ (x_refuseFault l dC dI H.size q F3 rd F4 K5 K9 K17 K18 K19 ) (cwV 0 ht (gdV k_5_121 k_5_118 k_5_120 ks_32 k_1_1) rfl rfl rfl (by decide +kernel) ⟨Nat.le_of_ble_eq_true rfl, Nat.le_of_ble_eq_true rfl⟩) ⟨pcw_blind, va_recv hK hP (ci := 11) (q0 := 0) rfl rfl, pcw_at hP hD hK [0, 1] [] (by decide) rfl rfl rfl⟩ rfl rfl hl.1 rfl (lv_room (Nat.le_of_ble_eq_true rfl)) dX11_cheaper_27 ⟨Nat.le_of_ble_eq_true rfl, Nat.le_of_ble_eq_true rfl⟩) hP hD hK hS hA [0, 1] [] rfl rfl (by decide) (by decide) (fun r20 u H locs w21 hK hP hD hS => ?_)
  have hK : va_K (dC, dI) cls [(cT, .byte)] s := hK
  have hP : va_P (dC, dI) cls [] H := hP
  have hD : va_D A [] := hD
  obtain rfl : r20 = (-11) := w21
  exact W.iret (v := (-11)) hx hb hr (fun t ht9 hW => ⟨⟨(-11), (), rfl, rfl, by rw [ht9]; exact hP.sub [] rfl, va_K.moved hW.alike (hK.sub [] rfl), hD.sub [] (by decide) rfl⟩, hS.F ht9⟩) hS.2.2 dX11_cheaper_30
set_option maxHeartbeats 4000000 in
set_option maxRecDepth 100000 in
theorem x_sketch (l : Launch) (dC : Nat → ClassId) (dI : Nat → Nat → Nat) (sz : Nat) (q : Nat) (fs : List Value) (tp : Nat) (rd : Nat) (as : Nat) (sp : Nat) (lp : Nat) (wr : Nat) (ma : Nat) (dk : Nat) (gr : List Value) (nd : Nat) (gn : List Value) (cT : ClassId) (ft : Nat → Int32) (ga : List Value) (ks : Nat) (cK : ClassId) (fk : Nat → Int32) (L_fs : fs.length = 18) (K0_fs : fs[0]? = some (.ref tp)) (K1_fs : fs[1]? = some (.int 0)) (K2_fs : fs[2]? = some (.int 0)) (K8_fs : fs[8]? = some (.ref rd)) (K9_fs : fs[9]? = some (.ref as)) (K10_fs : fs[10]? = some (.ref sp)) (K11_fs : fs[11]? = some (.int 0)) (K14_fs : fs[14]? = some (.ref lp)) (K15_fs : fs[15]? = some (.ref wr)) (K16_fs : fs[16]? = some (.ref ma)) (K17_fs : fs[17]? = some (.ref dk)) (L_gr : gr.length = 20) (K11_gr : gr[11]? = some (.ref nd)) (L_gn : gn.length = 4) (L_ga : ga.length = 16) (K1_ga : ga[1]? = some (.ref ks)) : Met l yX11_sketch (Cond.code yX11_sketch cX11_sketch 4 (some .int) :: tb) ({ frames := 5, cells := 0, slots := 0, locals := 114 }) (pcw [.ref q] (dC, dI) [(q, .inr (11, fs)), (rd, .inr (6, gr)), (nd, .inr (9, gn)), (tp, .inl (cT, 2000, .inl ft)), (as, .inr (1, ga)), (ks, .inl (cK, 4, .inl fk))] [(cT, .byte), (cK, .int)] sz) (va_Qi (fun (r : Int32) => (fun (_ : Unit) => r = -11)) (bw (dC, dI) (va_A [(q, .inr (11, fs)), (rd, .inr (6, gr)), (nd, .inr (9, gn)), (tp, .inl (cT, 2000, .inl ft)), (as, .inr (1, ga)), (ks, .inl (cK, 4, .inl fk))] sz) (fun (_ : Unit) => []) (fun (_ : Unit) => [])) (va_A [(q, .inr (11, fs)), (rd, .inr (6, gr)), (nd, .inr (9, gn)), (tp, .inl (cT, 2000, .inl ft)), (as, .inr (1, ga)), (ks, .inl (cK, 4, .inl fk))] sz)) 0 0 (va_A [(q, .inr (11, fs)), (rd, .inr (6, gr)), (nd, .inr (9, gn)), (tp, .inl (cT, 2000, .inl ft)), (as, .inr (1, ga)), (ks, .inl (cK, 4, .inl fk))] sz) := by
  refine Met.ofW (cc := cX11_sketch) (maxL := 4) (ret := (some .int)) (by decide) rfl ?_
  intro p e s m args below meth c s₁ B hml hv
  obtain ⟨rfl, hsz, hP, hK, hD0⟩ := hv
  have hx := B.exec
  have hb := B.bytes
  have hr := B.returns
  have hts := atoms_spec (ws := Cond.code yX11_sketch cX11_sketch 4 (some .int) :: tb) B.pre
  have ht : ∀ w ∈ tb, w.before _ s = true := fun w h => hts w (List.mem_cons_of_mem _ h)
  have hown : s.vm.findClass RX11 = some m.cls := findClass_of_methodNamed B.named
  have hlocks := B.notSynchronized
  subst hsz
  have hD := hD0.self (sz := s.heap.size)
  generalize hAe : va_A [(q, .inr (11, fs)), (rd, .inr (6, gr)), (nd, .inr (9, gn)), (tp, .inl (cT, 2000, .inl ft)), (as, .inr (1, ga)), (ks, .inl (cK, 4, .inl fk))] s.heap.size = A at hD ⊢
  have hA : ∀ q : Nat, s.heap.size ≤ q → A q := fun q h => by rw [← hAe]; exact Or.inr h
  have hS : va_S A s.heap s.heap [] := va_S.rf
  have hl := lv_entry ([.ref q]) (n := 4) (Nat.le_of_ble_eq_true rfl)
  rw [lg_entry_eq]
  generalize (lg_sl ([.ref q]) ++ List.replicate (4 - (lg_sl ([.ref q])).length) Slot.unset).toArray = ls at hl ⊢
  have hl : lv_has ls 4 [(0, .ref q)] := hl
  have hP : va_P (dC, dI) cls [(q, .inr (11, fs)), (rd, .inr (6, gr)), (nd, .inr (9, gn)), (tp, .inl (cT, 2000, .inl ft)), (as, .inr (1, ga)), (ks, .inl (cK, 4, .inl fk))] s.heap := hP
  refine lv_aload_n hx hb dX11_sketch_0 rfl (lv_at hl 0 rfl) ?_
  refine va_get (D := (dC, dI)) (ci := 11) (v := .int 0) (C := RX11) (T := TX11) (N := 18) hx hb ht uX11 hown hK hP 0 rfl rfl 2 (by decide) (ht _ k_4_93) (fun _ h9 => h9) K2_fs dX11_sketch_1 ?_
  refine lv_if_eq (tgt := 10) hx hb dX11_sketch_4 (by decide) (fun _ => ?_) (fun c0 => absurd c0 (by decide))
  refine lv_aload_n hx hb dX11_sketch_10 rfl (lv_at hl 0 rfl) ?_
  refine lv_aload_n hx hb dX11_sketch_11 rfl (lv_at hl 0 rfl) ?_
  refine va_get (D := (dC, dI)) (ci := 11) (v := .ref as) (C := RX11) (T := TX11) (N := 18) hx hb ht uX11 hown hK hP 0 rfl rfl 9 (by decide) (ht _ k_4_100) (fun _ h9 => h9) K9_fs dX11_sketch_12 ?_
  refine va_get (D := (dC, dI)) (ci := 1) (v := .ref ks) (C := RX1) (T := TX1) (N := 16) hx hb ht uX1 hown hK hP 4 rfl rfl 1 (by decide) (ht _ k_2_60) (fun _ h9 => h9) K1_ga dX11_sketch_15 ?_
  refine lv_iconst (v := 3) hx hb dX11_sketch_18 (by decide) ?_
  refine va_iald hx hb hK hP 5 1 rfl rfl (by unfold vp_in; decide) dX11_sketch_19 ?_
  refine tk_i (y := fk 3) (by first | rfl | decide) ?_
  refine lv_topi (fun x1 ex1 => ?_)
  refine lv_iconst (v := 0) hx hb dX11_sketch_20 (by decide) ?_
  refine ca_v (wr := [(ks, .inl (cK, 4, .inl fk))]) (va_runV (As := [.int x1, .int 0]) (rest := []) ⟨hx, hb, hml, hown, ht⟩ (x_readTold l dC dI s.heap.size q fs tp rd as sp lp wr ma dk gr nd gn cT ft ga ks x1 0 L_fs K0_fs K1_fs K2_fs K8_fs K9_fs K10_fs K11_fs K14_fs K15_fs K16_fs K17_fs L_gr K11_gr L_gn L_ga K1_ga ) (cwV 2 ht (gdV k_6_184 k_6_181 k_6_183 ks_59 k_1_1) rfl rfl rfl (by decide +kernel) ⟨Nat.le_of_ble_eq_true rfl, Nat.le_of_ble_eq_true rfl⟩) ⟨pcw_blind, va_recv hK hP (ci := 11) (q0 := 0) rfl rfl, pcw_at hP hD hK [0, 1, 2, 3, 4] [0] (by decide) rfl rfl rfl⟩ rfl rfl hl.1 rfl (lv_room (Nat.le_of_ble_eq_true rfl)) dX11_sketch_21 ⟨Nat.le_of_ble_eq_true rfl, Nat.le_of_ble_eq_true rfl⟩) hP hD hK hS hA [0, 1, 2, 3, 4] [5] rfl rfl (by decide) (by decide) (fun u H locs w3 hK hP hD hS => ?_)
  obtain ⟨F4, F5⟩ := u
  have hK : va_K (dC, dI) cls [(cT, .byte), (cK, .int)] s := hK
  have hP : va_P (dC, dI) cls [(ks, .inl (cK, 4, .inl fk)), (q, .inr (11, F4)), (rd, .inr (6, F5))] H := hP
  have hD : va_D A [(ks, .inl (cK, 4, .inl fk)), (q, .inr (11, F4)), (rd, .inr (6, F5))] := hD
  obtain ⟨w3, K6, K7, K8, K9, K10, K11, K12, K13, K14, K15, K16, K17, K18, K19, K20⟩ := w3
  refine lv_aload_n hx hb dX11_sketch_24 rfl (lv_at hl 0 rfl) ?_
  refine va_get (D := (dC, dI)) (ci := 11) (v := .ref rd) (C := RX11) (T := TX11) (N := 18) hx hb ht uX11 hown hK hP 1 rfl rfl 8 (by decide) (ht _ k_4_99) (fun _ h9 => h9) K10 dX11_sketch_25 ?_
  refine va_get (D := (dC, dI)) (ci := 6) (v := .int 1) (C := RX6) (T := TX6) (N := 20) hx hb ht uX6 hown hK hP 2 rfl rfl 9 (by decide) (ht _ k_1_222) (fun _ h9 => h9) K19 dX11_sketch_28 ?_
  refine lv_if_eq (tgt := 39) hx hb dX11_sketch_31 (by decide) (fun c0 => absurd c0 (by decide)) (fun _ => ?_)
  refine lv_aload_n hx hb dX11_sketch_34 rfl (lv_at hl 0 rfl) ?_
  refine ca_i (wr := [(ks, .inl (cK, 4, .inl fk))]) (va_runV (As := []) (rest := []) ⟨hx, hb, hml, hown, ht⟩ (x_refuseFault l dC dI H.size q F4 rd F5 K6 K10 K18 K19 K20 ) (cwV 0 ht (gdV k_5_121 k_5_118 k_5_120 ks_32 k_1_1) rfl rfl rfl (by decide +kernel) ⟨Nat.le_of_ble_eq_true rfl, Nat.le_of_ble_eq_true rfl⟩) ⟨pcw_blind, va_recv hK hP (ci := 11) (q0 := 1) rfl rfl, pcw_at hP hD hK [1, 2] [] (by decide) rfl rfl rfl⟩ rfl rfl hl.1 rfl (lv_room (Nat.le_of_ble_eq_true rfl)) dX11_sketch_35 ⟨Nat.le_of_ble_eq_true rfl, Nat.le_of_ble_eq_true rfl⟩) hP hD hK hS hA [1, 2] [0] rfl rfl (by decide) (by decide) (fun r21 u H locs w22 hK hP hD hS => ?_)
  have hK : va_K (dC, dI) cls [(cT, .byte), (cK, .int)] s := hK
  have hP : va_P (dC, dI) cls [(ks, .inl (cK, 4, .inl fk))] H := hP
  have hD : va_D A [(ks, .inl (cK, 4, .inl fk))] := hD
  obtain rfl : r21 = (-11) := w22
  exact W.iret (v := (-11)) hx hb hr (fun t ht9 hW => ⟨⟨(-11), (), rfl, rfl, by rw [ht9]; exact hP.sub [] rfl, va_K.moved hW.alike (hK.sub [] rfl), hD.sub [] (by decide) rfl⟩, hS.F ht9⟩) hS.2.2 dX11_sketch_38
def sp_mend (p : Int32) : Int32 := if p < 1 then -1 else if p ≤ 12 then -11 else -1
set_option maxHeartbeats 4000000 in
set_option maxRecDepth 100000 in
theorem x_mend (l : Launch) (dC : Nat → ClassId) (dI : Nat → Nat → Nat) (sz : Nat) (q : Nat) (fs : List Value) (tp : Nat) (rd : Nat) (as : Nat) (sp : Nat) (lp : Nat) (wr : Nat) (ma : Nat) (dk : Nat) (gr : List Value) (nd : Nat) (gn : List Value) (cT : ClassId) (ft : Nat → Int32) (ga : List Value) (ks : Nat) (cK : ClassId) (fk : Nat → Int32) (p0 : Int32) (L_fs : fs.length = 18) (K0_fs : fs[0]? = some (.ref tp)) (K1_fs : fs[1]? = some (.int 0)) (K2_fs : fs[2]? = some (.int 0)) (K8_fs : fs[8]? = some (.ref rd)) (K9_fs : fs[9]? = some (.ref as)) (K10_fs : fs[10]? = some (.ref sp)) (K11_fs : fs[11]? = some (.int 0)) (K14_fs : fs[14]? = some (.ref lp)) (K15_fs : fs[15]? = some (.ref wr)) (K16_fs : fs[16]? = some (.ref ma)) (K17_fs : fs[17]? = some (.ref dk)) (L_gr : gr.length = 20) (K11_gr : gr[11]? = some (.ref nd)) (L_gn : gn.length = 4) (L_ga : ga.length = 16) (K1_ga : ga[1]? = some (.ref ks)) : Met l yX11_mend (Cond.code yX11_mend cX11_mend 8 (some .int) :: tb) ({ frames := 5, cells := 0, slots := 0, locals := 114 }) (pcw [.ref q, .int p0] (dC, dI) [(q, .inr (11, fs)), (rd, .inr (6, gr)), (nd, .inr (9, gn)), (tp, .inl (cT, 2000, .inl ft)), (as, .inr (1, ga)), (ks, .inl (cK, 4, .inl fk))] [(cT, .byte), (cK, .int)] sz) (va_Qi (fun (r : Int32) => (fun (_ : Unit) => r = sp_mend p0)) (bw (dC, dI) (va_A [(q, .inr (11, fs)), (rd, .inr (6, gr)), (nd, .inr (9, gn)), (tp, .inl (cT, 2000, .inl ft)), (as, .inr (1, ga)), (ks, .inl (cK, 4, .inl fk))] sz) (fun (_ : Unit) => []) (fun (_ : Unit) => [])) (va_A [(q, .inr (11, fs)), (rd, .inr (6, gr)), (nd, .inr (9, gn)), (tp, .inl (cT, 2000, .inl ft)), (as, .inr (1, ga)), (ks, .inl (cK, 4, .inl fk))] sz)) 0 0 (va_A [(q, .inr (11, fs)), (rd, .inr (6, gr)), (nd, .inr (9, gn)), (tp, .inl (cT, 2000, .inl ft)), (as, .inr (1, ga)), (ks, .inl (cK, 4, .inl fk))] sz) := by
  refine Met.ofW (cc := cX11_mend) (maxL := 8) (ret := (some .int)) (by decide) rfl ?_
  intro p e s m args below meth c s₁ B hml hv
  obtain ⟨rfl, hsz, hP, hK, hD0⟩ := hv
  have hx := B.exec
  have hb := B.bytes
  have hr := B.returns
  have hts := atoms_spec (ws := Cond.code yX11_mend cX11_mend 8 (some .int) :: tb) B.pre
  have ht : ∀ w ∈ tb, w.before _ s = true := fun w h => hts w (List.mem_cons_of_mem _ h)
  have hown : s.vm.findClass RX11 = some m.cls := findClass_of_methodNamed B.named
  have hlocks := B.notSynchronized
  subst hsz
  have hD := hD0.self (sz := s.heap.size)
  generalize hAe : va_A [(q, .inr (11, fs)), (rd, .inr (6, gr)), (nd, .inr (9, gn)), (tp, .inl (cT, 2000, .inl ft)), (as, .inr (1, ga)), (ks, .inl (cK, 4, .inl fk))] s.heap.size = A at hD ⊢
  have hA : ∀ q : Nat, s.heap.size ≤ q → A q := fun q h => by rw [← hAe]; exact Or.inr h
  have hS : va_S A s.heap s.heap [] := va_S.rf
  have hl := lv_entry ([.ref q, .int p0]) (n := 8) (Nat.le_of_ble_eq_true rfl)
  rw [lg_entry_eq]
  generalize (lg_sl ([.ref q, .int p0]) ++ List.replicate (8 - (lg_sl ([.ref q, .int p0])).length) Slot.unset).toArray = ls at hl ⊢
  have hl : lv_has ls 8 [(0, .ref q), (1, .int p0)] := hl
  have hP : va_P (dC, dI) cls [(q, .inr (11, fs)), (rd, .inr (6, gr)), (nd, .inr (9, gn)), (tp, .inl (cT, 2000, .inl ft)), (as, .inr (1, ga)), (ks, .inl (cK, 4, .inl fk))] s.heap := hP
  refine lv_aload_n hx hb dX11_mend_0 rfl (lv_at hl 0 rfl) ?_
  refine va_get (D := (dC, dI)) (ci := 11) (v := .int 0) (C := RX11) (T := TX11) (N := 18) hx hb ht uX11 hown hK hP 0 rfl rfl 2 (by decide) (ht _ k_4_93) (fun _ h9 => h9) K2_fs dX11_mend_1 ?_
  refine lv_if_eq (tgt := 10) hx hb dX11_mend_4 (by decide) (fun _ => ?_) (fun c0 => absurd c0 (by decide))
  refine lv_aload_n hx hb dX11_mend_10 rfl (lv_at hl 0 rfl) ?_
  refine ca_i (wr := [(rd, .inr (6, gr)), (nd, .inr (9, gn)), (tp, .inl (cT, 2000, .inl ft)), (as, .inr (1, ga)), (ks, .inl (cK, 4, .inl fk))]) (va_runV (As := []) (rest := []) ⟨hx, hb, hml, hown, ht⟩ (x_takeTape l dC dI s.heap.size q fs tp rd as sp lp wr ma dk L_fs K0_fs K1_fs K2_fs K8_fs K9_fs K10_fs K11_fs K14_fs K15_fs K16_fs K17_fs ) (cwV 0 ht (gdV k_4_165 k_4_162 k_4_164 ks_1 k_1_1) rfl rfl rfl (by decide +kernel) ⟨Nat.le_of_ble_eq_true rfl, Nat.le_of_ble_eq_true rfl⟩) ⟨pcw_blind, va_recv hK hP (ci := 11) (q0 := 0) rfl rfl, pcw_at hP hD hK [0] [] (by decide) rfl rfl rfl⟩ rfl rfl hl.1 rfl (lv_room (Nat.le_of_ble_eq_true rfl)) dX11_mend_11 ⟨Nat.le_of_ble_eq_true rfl, Nat.le_of_ble_eq_true rfl⟩) hP hD hK hS hA [0] [1, 2, 3, 4, 5] rfl rfl (by decide) (by decide) (fun r1 u H locs w2 hK hP hD hS => ?_)
  obtain ⟨F3, rfl⟩ : ∃ z, z = u := ⟨_, rfl⟩
  have hK : va_K (dC, dI) cls [(cT, .byte), (cK, .int)] s := hK
  have hP : va_P (dC, dI) cls [(rd, .inr (6, gr)), (nd, .inr (9, gn)), (tp, .inl (cT, 2000, .inl ft)), (as, .inr (1, ga)), (ks, .inl (cK, 4, .inl fk)), (q, .inr (11, F3))] H := hP
  have hD : va_D A [(rd, .inr (6, gr)), (nd, .inr (9, gn)), (tp, .inl (cT, 2000, .inl ft)), (as, .inr (1, ga)), (ks, .inl (cK, 4, .inl fk)), (q, .inr (11, F3))] := hD
  obtain ⟨w2, K4, K5, K6, K7, K8, K9, K10, K11, K12, K13, K14, K15⟩ := w2
  obtain rfl : r1 = 0 := w2
  refine lv_istore_n (lv' := [(2, .int 0), (0, .ref q), (1, .int p0)]) hx hb dX11_mend_14 rfl hl (by decide) rfl (fun ls hl => ?_)
  refine lv_iload_n hx hb dX11_mend_15 rfl (lv_at hl 2 rfl) ?_
  refine lv_iconst (v := 1) hx hb dX11_mend_16 (by decide) ?_
  refine lv_icmp_lt (tgt := 26) hx hb dX11_mend_17 (by decide) (fun b16 => ?_) (fun b16 => ?_)
  · refine lv_iconst (v := (-1)) hx hb dX11_mend_26 (by decide) ?_
    exact W.iret (v := (-1)) hx hb hr (fun t ht9 hW => ⟨⟨(-1), (), rfl, (by simp [sp_mend, b16]), by rw [ht9]; exact hP.sub [] rfl, va_K.moved hW.alike (hK.sub [] rfl), hD.sub [] (by decide) rfl⟩, hS.F ht9⟩) hS.2.2 dX11_mend_27
  · refine lv_iload_n hx hb dX11_mend_20 rfl (lv_at hl 2 rfl) ?_
    refine lv_bipush (v := 12) hx hb dX11_mend_21 (by decide) ?_
    refine lv_icmp_le (tgt := 28) hx hb dX11_mend_23 (by decide) (fun b17 => ?_) (fun b17 => ?_)
    · refine lv_aload_n hx hb dX11_mend_28 rfl (lv_at hl 1 rfl) ?_
      refine lv_iload_n hx hb dX11_mend_29 rfl (lv_at hl 0 rfl) ?_
      refine va_put (D := (dC, dI)) (ci := 11) (v := .int 0) (ty := .int) (C := RX11) (T := TX11) (N := 18) hx hb ht uX11 tyX11 tkX11 nmX11 hown hK hP hD hS 5 rfl rfl 1 (by decide) (ht _ k_4_92) (fun _ h9 => h9) rfl (by decide +kernel) rfl rfl (by rw [K4]; decide) dX11_mend_30 (fun H locs hP hD hS => ?_)
      obtain ⟨F18, eF18⟩ : ∃ g : List Value, g = F3.set 1 (.int 0) := ⟨_, rfl⟩
      rw [← eF18] at hP hD
      have K0_F18 : F18[0]? = some (.ref tp) := by rw [eF18, List.getElem?_set_ne (by decide)]; exact K5
      have K2_F18 : F18[2]? = some (.int 0) := by rw [eF18, List.getElem?_set_ne (by decide)]; exact K7
      have K8_F18 : F18[8]? = some (.ref rd) := by rw [eF18, List.getElem?_set_ne (by decide)]; exact K8
      have K9_F18 : F18[9]? = some (.ref as) := by rw [eF18, List.getElem?_set_ne (by decide)]; exact K9
      have K10_F18 : F18[10]? = some (.ref sp) := by rw [eF18, List.getElem?_set_ne (by decide)]; exact K10
      have K11_F18 : F18[11]? = some (.int 0) := by rw [eF18, List.getElem?_set_ne (by decide)]; exact K11
      have K14_F18 : F18[14]? = some (.ref lp) := by rw [eF18, List.getElem?_set_ne (by decide)]; exact K12
      have K15_F18 : F18[15]? = some (.ref wr) := by rw [eF18, List.getElem?_set_ne (by decide)]; exact K13
      have K16_F18 : F18[16]? = some (.ref ma) := by rw [eF18, List.getElem?_set_ne (by decide)]; exact K14
      have K17_F18 : F18[17]? = some (.ref dk) := by rw [eF18, List.getElem?_set_ne (by decide)]; exact K15
      have K1_F18 : F18[1]? = some (.int 0) := by rw [eF18]; exact List.getElem?_set_self (by rw [K4]; decide)
      have L_F18 : F18.length = 18 := by rw [eF18, List.length_set]; exact K4
      have hP : va_P (dC, dI) cls [(rd, .inr (6, gr)), (nd, .inr (9, gn)), (tp, .inl (cT, 2000, .inl ft)), (as, .inr (1, ga)), (ks, .inl (cK, 4, .inl fk)), (q, .inr (11, F18))] H := hP
      have hD : va_D A [(rd, .inr (6, gr)), (nd, .inr (9, gn)), (tp, .inl (cT, 2000, .inl ft)), (as, .inr (1, ga)), (ks, .inl (cK, 4, .inl fk)), (q, .inr (11, F18))] := hD
      refine lv_aload_n hx hb dX11_mend_33 rfl (lv_at hl 1 rfl) ?_
      refine lv_aload_n hx hb dX11_mend_34 rfl (lv_at hl 1 rfl) ?_
      refine va_get (D := (dC, dI)) (ci := 11) (v := .ref as) (C := RX11) (T := TX11) (N := 18) hx hb ht uX11 hown hK hP 5 rfl rfl 9 (by decide) (ht _ k_4_100) (fun _ h9 => h9) K9_F18 dX11_mend_35 ?_
      refine va_get (D := (dC, dI)) (ci := 1) (v := .ref ks) (C := RX1) (T := TX1) (N := 16) hx hb ht uX1 hown hK hP 3 rfl rfl 1 (by decide) (ht _ k_2_60) (fun _ h9 => h9) K1_ga dX11_mend_38 ?_
      refine lv_iconst (v := 3) hx hb dX11_mend_41 (by decide) ?_
      refine va_iald hx hb hK hP 4 1 rfl rfl (by unfold vp_in; decide) dX11_mend_42 ?_
      refine tk_i (y := fk 3) (by first | rfl | decide) ?_
      refine lv_topi (fun x19 ex19 => ?_)
      refine lv_iconst (v := (-1)) hx hb dX11_mend_43 (by decide) ?_
      refine ca_v (wr := [(ks, .inl (cK, 4, .inl fk))]) (va_runV (As := [.int x19, .int (-1)]) (rest := []) ⟨hx, hb, hml, hown, ht⟩ (x_readTold l dC dI H.size q F18 tp rd as sp lp wr ma dk gr nd gn cT ft ga ks x19 (-1) L_F18 K0_F18 K1_F18 K2_F18 K8_F18 K9_F18 K10_F18 K11_F18 K14_F18 K15_F18 K16_F18 K17_F18 L_gr K11_gr L_gn L_ga K1_ga ) (cwV 2 ht (gdV k_6_184 k_6_181 k_6_183 ks_59 k_1_1) rfl rfl rfl (by decide +kernel) ⟨Nat.le_of_ble_eq_true rfl, Nat.le_of_ble_eq_true rfl⟩) ⟨pcw_blind, va_recv hK hP (ci := 11) (q0 := 5) rfl rfl, pcw_at hP hD hK [5, 0, 1, 2, 3] [0] (by decide) rfl rfl rfl⟩ rfl rfl hl.1 rfl (lv_room (Nat.le_of_ble_eq_true rfl)) dX11_mend_44 ⟨Nat.le_of_ble_eq_true rfl, Nat.le_of_ble_eq_true rfl⟩) hP hD hK hS hA [5, 0, 1, 2, 3] [4] rfl rfl (by decide) (by decide) (fun u H locs w21 hK hP hD hS => ?_)
      obtain ⟨F22, F23⟩ := u
      have hK : va_K (dC, dI) cls [(cT, .byte), (cK, .int)] s := hK
      have hP : va_P (dC, dI) cls [(ks, .inl (cK, 4, .inl fk)), (q, .inr (11, F22)), (rd, .inr (6, F23))] H := hP
      have hD : va_D A [(ks, .inl (cK, 4, .inl fk)), (q, .inr (11, F22)), (rd, .inr (6, F23))] := hD
      obtain ⟨w21, K24, K25, K26, K27, K28, K29, K30, K31, K32, K33, K34, K35, K36, K37, K38⟩ := w21
      refine lv_aload_n hx hb dX11_mend_47 rfl (lv_at hl 1 rfl) ?_
      refine va_get (D := (dC, dI)) (ci := 11) (v := .ref rd) (C := RX11) (T := TX11) (N := 18) hx hb ht uX11 hown hK hP 1 rfl rfl 8 (by decide) (ht _ k_4_99) (fun _ h9 => h9) K28 dX11_mend_48 ?_
      refine va_get (D := (dC, dI)) (ci := 6) (v := .int 1) (C := RX6) (T := TX6) (N := 20) hx hb ht uX6 hown hK hP 2 rfl rfl 9 (by decide) (ht _ k_1_222) (fun _ h9 => h9) K37 dX11_mend_51 ?_
      refine lv_if_eq (tgt := 62) hx hb dX11_mend_54 (by decide) (fun c0 => absurd c0 (by decide)) (fun _ => ?_)
      refine lv_aload_n hx hb dX11_mend_57 rfl (lv_at hl 1 rfl) ?_
      refine ca_i (wr := [(ks, .inl (cK, 4, .inl fk))]) (va_runV (As := []) (rest := []) ⟨hx, hb, hml, hown, ht⟩ (x_refuseFault l dC dI H.size q F22 rd F23 K24 K28 K36 K37 K38 ) (cwV 0 ht (gdV k_5_121 k_5_118 k_5_120 ks_32 k_1_1) rfl rfl rfl (by decide +kernel) ⟨Nat.le_of_ble_eq_true rfl, Nat.le_of_ble_eq_true rfl⟩) ⟨pcw_blind, va_recv hK hP (ci := 11) (q0 := 1) rfl rfl, pcw_at hP hD hK [1, 2] [] (by decide) rfl rfl rfl⟩ rfl rfl hl.1 rfl (lv_room (Nat.le_of_ble_eq_true rfl)) dX11_mend_58 ⟨Nat.le_of_ble_eq_true rfl, Nat.le_of_ble_eq_true rfl⟩) hP hD hK hS hA [1, 2] [0] rfl rfl (by decide) (by decide) (fun r39 u H locs w40 hK hP hD hS => ?_)
      have hK : va_K (dC, dI) cls [(cT, .byte), (cK, .int)] s := hK
      have hP : va_P (dC, dI) cls [(ks, .inl (cK, 4, .inl fk))] H := hP
      have hD : va_D A [(ks, .inl (cK, 4, .inl fk))] := hD
      obtain rfl : r39 = (-11) := w40
      exact W.iret (v := (-11)) hx hb hr (fun t ht9 hW => ⟨⟨(-11), (), rfl, (by simp [sp_mend, b16, b17]), by rw [ht9]; exact hP.sub [] rfl, va_K.moved hW.alike (hK.sub [] rfl), hD.sub [] (by decide) rfl⟩, hS.F ht9⟩) hS.2.2 dX11_mend_61
    · refine lv_iconst (v := (-1)) hx hb dX11_mend_26 (by decide) ?_
      exact W.iret (v := (-1)) hx hb hr (fun t ht9 hW => ⟨⟨(-1), (), rfl, (by simp [sp_mend, b16, b17]), by rw [ht9]; exact hP.sub [] rfl, va_K.moved hW.alike (hK.sub [] rfl), hD.sub [] (by decide) rfl⟩, hS.F ht9⟩) hS.2.2 dX11_mend_27
set_option maxHeartbeats 4000000 in
set_option maxRecDepth 100000 in
theorem x_value (l : Launch) (dC : Nat → ClassId) (dI : Nat → Nat → Nat) (sz : Nat) (q : Nat) (fs : List Value) (tp : Nat) (rd : Nat) (as : Nat) (sp : Nat) (lp : Nat) (wr : Nat) (ma : Nat) (dk : Nat) (gr : List Value) (nd : Nat) (gn : List Value) (cT : ClassId) (ft : Nat → Int32) (ga : List Value) (ks : Nat) (L_fs : fs.length = 18) (K0_fs : fs[0]? = some (.ref tp)) (K1_fs : fs[1]? = some (.int 0)) (K2_fs : fs[2]? = some (.int 0)) (K8_fs : fs[8]? = some (.ref rd)) (K9_fs : fs[9]? = some (.ref as)) (K10_fs : fs[10]? = some (.ref sp)) (K11_fs : fs[11]? = some (.int 0)) (K14_fs : fs[14]? = some (.ref lp)) (K15_fs : fs[15]? = some (.ref wr)) (K16_fs : fs[16]? = some (.ref ma)) (K17_fs : fs[17]? = some (.ref dk)) (L_gr : gr.length = 20) (K11_gr : gr[11]? = some (.ref nd)) (L_gn : gn.length = 4) (L_ga : ga.length = 16) (K1_ga : ga[1]? = some (.ref ks)) : Met l yX11_value (Cond.code yX11_value cX11_value 2 (some .int) :: tb) ({ frames := 4, cells := 0, slots := 0, locals := 92 }) (pcw [.ref q] (dC, dI) [(q, .inr (11, fs)), (rd, .inr (6, gr)), (nd, .inr (9, gn)), (tp, .inl (cT, 2000, .inl ft)), (as, .inr (1, ga))] [(cT, .byte)] sz) (va_Qi (fun (r : Int32) => (fun (_ : Unit) => r = -11)) (bw (dC, dI) (va_A [(q, .inr (11, fs)), (rd, .inr (6, gr)), (nd, .inr (9, gn)), (tp, .inl (cT, 2000, .inl ft)), (as, .inr (1, ga))] sz) (fun (_ : Unit) => []) (fun (_ : Unit) => [])) (va_A [(q, .inr (11, fs)), (rd, .inr (6, gr)), (nd, .inr (9, gn)), (tp, .inl (cT, 2000, .inl ft)), (as, .inr (1, ga))] sz)) 0 0 (va_A [(q, .inr (11, fs)), (rd, .inr (6, gr)), (nd, .inr (9, gn)), (tp, .inl (cT, 2000, .inl ft)), (as, .inr (1, ga))] sz) := by
  refine Met.ofW (cc := cX11_value) (maxL := 2) (ret := (some .int)) (by decide) rfl ?_
  intro p e s m args below meth c s₁ B hml hv
  obtain ⟨rfl, hsz, hP, hK, hD0⟩ := hv
  have hx := B.exec
  have hb := B.bytes
  have hr := B.returns
  have hts := atoms_spec (ws := Cond.code yX11_value cX11_value 2 (some .int) :: tb) B.pre
  have ht : ∀ w ∈ tb, w.before _ s = true := fun w h => hts w (List.mem_cons_of_mem _ h)
  have hown : s.vm.findClass RX11 = some m.cls := findClass_of_methodNamed B.named
  have hlocks := B.notSynchronized
  subst hsz
  have hD := hD0.self (sz := s.heap.size)
  generalize hAe : va_A [(q, .inr (11, fs)), (rd, .inr (6, gr)), (nd, .inr (9, gn)), (tp, .inl (cT, 2000, .inl ft)), (as, .inr (1, ga))] s.heap.size = A at hD ⊢
  have hA : ∀ q : Nat, s.heap.size ≤ q → A q := fun q h => by rw [← hAe]; exact Or.inr h
  have hS : va_S A s.heap s.heap [] := va_S.rf
  have hl := lv_entry ([.ref q]) (n := 2) (Nat.le_of_ble_eq_true rfl)
  rw [lg_entry_eq]
  generalize (lg_sl ([.ref q]) ++ List.replicate (2 - (lg_sl ([.ref q])).length) Slot.unset).toArray = ls at hl ⊢
  have hl : lv_has ls 2 [(0, .ref q)] := hl
  have hP : va_P (dC, dI) cls [(q, .inr (11, fs)), (rd, .inr (6, gr)), (nd, .inr (9, gn)), (tp, .inl (cT, 2000, .inl ft)), (as, .inr (1, ga))] s.heap := hP
  refine lv_aload_n hx hb dX11_value_0 rfl (lv_at hl 0 rfl) ?_
  refine va_get (D := (dC, dI)) (ci := 11) (v := .int 0) (C := RX11) (T := TX11) (N := 18) hx hb ht uX11 hown hK hP 0 rfl rfl 2 (by decide) (ht _ k_4_93) (fun _ h9 => h9) K2_fs dX11_value_1 ?_
  refine lv_if_eq (tgt := 10) hx hb dX11_value_4 (by decide) (fun _ => ?_) (fun c0 => absurd c0 (by decide))
  refine lv_aload_n hx hb dX11_value_10 rfl (lv_at hl 0 rfl) ?_
  refine va_get (D := (dC, dI)) (ci := 11) (v := .ref rd) (C := RX11) (T := TX11) (N := 18) hx hb ht uX11 hown hK hP 0 rfl rfl 8 (by decide) (ht _ k_4_99) (fun _ h9 => h9) K8_fs dX11_value_11 ?_
  refine lv_iconst (v := 0) hx hb dX11_value_14 (by decide) ?_
  refine lv_aload_n hx hb dX11_value_15 rfl (lv_at hl 0 rfl) ?_
  refine va_get (D := (dC, dI)) (ci := 11) (v := .ref as) (C := RX11) (T := TX11) (N := 18) hx hb ht uX11 hown hK hP 0 rfl rfl 9 (by decide) (ht _ k_4_100) (fun _ h9 => h9) K9_fs dX11_value_16 ?_
  refine va_get (D := (dC, dI)) (ci := 1) (v := .ref ks) (C := RX1) (T := TX1) (N := 16) hx hb ht uX1 hown hK hP 4 rfl rfl 1 (by decide) (ht _ k_2_60) (fun _ h9 => h9) K1_ga dX11_value_19 ?_
  refine ca_v (wr := [(q, .inr (11, fs)), (nd, .inr (9, gn)), (tp, .inl (cT, 2000, .inl ft)), (as, .inr (1, ga))]) (va_runV (As := [.int 0, .ref ks]) (rest := []) ⟨hx, hb, hml, hown, ht⟩ (m6_setScope l dC dI s.heap.size rd gr nd ks L_gr K11_gr ) (cwV 2 ht (gdV k_5_165 k_6_185 k_5_163 k_5_164 k_1_8) rfl rfl rfl (by decide +kernel) ⟨Nat.le_of_ble_eq_true rfl, Nat.le_of_ble_eq_true rfl⟩) ⟨pcw_blind, va_recv hK hP (ci := 6) (q0 := 1) rfl rfl, pcw_at hP hD hK [1] [] (by decide) rfl rfl rfl⟩ rfl rfl hl.1 rfl (lv_room (Nat.le_of_ble_eq_true rfl)) dX11_value_22 ⟨Nat.le_of_ble_eq_true rfl, Nat.le_of_ble_eq_true rfl⟩) hP hD hK hS hA [1] [0, 2, 3, 4] rfl rfl (by decide) (by decide) (fun u H locs w2 hK hP hD hS => ?_)
  obtain ⟨F3, rfl⟩ : ∃ z, z = u := ⟨_, rfl⟩
  have hK : va_K (dC, dI) cls [(cT, .byte)] s := hK
  have hP : va_P (dC, dI) cls [(q, .inr (11, fs)), (nd, .inr (9, gn)), (tp, .inl (cT, 2000, .inl ft)), (as, .inr (1, ga)), (rd, .inr (6, F3))] H := hP
  have hD : va_D A [(q, .inr (11, fs)), (nd, .inr (9, gn)), (tp, .inl (cT, 2000, .inl ft)), (as, .inr (1, ga)), (rd, .inr (6, F3))] := hD
  obtain ⟨w2, K4, K5⟩ := w2
  refine lv_aload_n hx hb dX11_value_25 rfl (lv_at hl 0 rfl) ?_
  refine va_get (D := (dC, dI)) (ci := 11) (v := .ref rd) (C := RX11) (T := TX11) (N := 18) hx hb ht uX11 hown hK hP 0 rfl rfl 8 (by decide) (ht _ k_4_99) (fun _ h9 => h9) K8_fs dX11_value_26 ?_
  refine lv_aload_n hx hb dX11_value_29 rfl (lv_at hl 0 rfl) ?_
  refine va_get (D := (dC, dI)) (ci := 11) (v := .ref tp) (C := RX11) (T := TX11) (N := 18) hx hb ht uX11 hown hK hP 0 rfl rfl 0 (by decide) (ht _ k_4_91) (fun _ h9 => h9) K0_fs dX11_value_30 ?_
  refine lv_iconst (v := 0) hx hb dX11_value_33 (by decide) ?_
  refine lv_aload_n hx hb dX11_value_34 rfl (lv_at hl 0 rfl) ?_
  refine ca_i (wr := [(nd, .inr (9, gn)), (tp, .inl (cT, 2000, .inl ft)), (as, .inr (1, ga)), (rd, .inr (6, F3))]) (va_runV (As := []) (rest := [.int 0, .ref tp, .ref rd]) ⟨hx, hb, hml, hown, ht⟩ (x_takeTape l dC dI H.size q fs tp rd as sp lp wr ma dk L_fs K0_fs K1_fs K2_fs K8_fs K9_fs K10_fs K11_fs K14_fs K15_fs K16_fs K17_fs ) (cwV 0 ht (gdV k_4_165 k_4_162 k_4_164 ks_1 k_1_1) rfl rfl rfl (by decide +kernel) ⟨Nat.le_of_ble_eq_true rfl, Nat.le_of_ble_eq_true rfl⟩) ⟨pcw_blind, va_recv hK hP (ci := 11) (q0 := 0) rfl rfl, pcw_at hP hD hK [0] [] (by decide) rfl rfl rfl⟩ rfl rfl hl.1 rfl (lv_room (Nat.le_of_ble_eq_true rfl)) dX11_value_35 ⟨Nat.le_of_ble_eq_true rfl, Nat.le_of_ble_eq_true rfl⟩) hP hD hK hS hA [0] [1, 2, 3, 4] rfl rfl (by decide) (by decide) (fun r6 u H locs w7 hK hP hD hS => ?_)
  obtain ⟨F8, rfl⟩ : ∃ z, z = u := ⟨_, rfl⟩
  have hK : va_K (dC, dI) cls [(cT, .byte)] s := hK
  have hP : va_P (dC, dI) cls [(nd, .inr (9, gn)), (tp, .inl (cT, 2000, .inl ft)), (as, .inr (1, ga)), (rd, .inr (6, F3)), (q, .inr (11, F8))] H := hP
  have hD : va_D A [(nd, .inr (9, gn)), (tp, .inl (cT, 2000, .inl ft)), (as, .inr (1, ga)), (rd, .inr (6, F3)), (q, .inr (11, F8))] := hD
  obtain ⟨w7, K9, K10, K11, K12, K13, K14, K15, K16, K17, K18, K19, K20⟩ := w7
  obtain rfl : r6 = 0 := w7
  refine lv_iconst (v := 0) hx hb dX11_value_38 (by decide) ?_
  refine lv_iconst (v := (-1)) hx hb dX11_value_39 (by decide) ?_
  refine ca_v (wr := [(as, .inr (1, ga)), (q, .inr (11, F8))]) (va_runV (As := [.ref tp, .int 0, .int 0, .int 0, .int (-1)]) (rest := []) ⟨hx, hb, hml, hown, ht⟩ (m6_readTold l dC dI H.size rd F3 nd gn tp cT ft 0 (-1) K4 K5 L_gn ) (cwV 5 ht (gdV k_6_189 k_6_186 k_6_187 k_6_188 k_1_8) rfl rfl rfl (by decide +kernel) ⟨Nat.le_of_ble_eq_true rfl, Nat.le_of_ble_eq_true rfl⟩) ⟨pcw_blind, va_recv hK hP (ci := 6) (q0 := 3) rfl rfl, pcw_at hP hD hK [3, 0, 1] [0] (by decide) rfl rfl rfl⟩ rfl rfl hl.1 rfl (lv_room (Nat.le_of_ble_eq_true rfl)) dX11_value_40 ⟨Nat.le_of_ble_eq_true rfl, Nat.le_of_ble_eq_true rfl⟩) hP hD hK hS hA [3, 0, 1] [2, 4] rfl rfl (by decide) (by decide) (fun u H locs w22 hK hP hD hS => ?_)
  obtain ⟨F23, rfl⟩ : ∃ z, z = u := ⟨_, rfl⟩
  have hK : va_K (dC, dI) cls [(cT, .byte)] s := hK
  have hP : va_P (dC, dI) cls [(as, .inr (1, ga)), (q, .inr (11, F8)), (rd, .inr (6, F23))] H := hP
  have hD : va_D A [(as, .inr (1, ga)), (q, .inr (11, F8)), (rd, .inr (6, F23))] := hD
  obtain ⟨w22, K24, K25, K26⟩ := w22
  refine lv_aload_n hx hb dX11_value_43 rfl (lv_at hl 0 rfl) ?_
  refine va_get (D := (dC, dI)) (ci := 11) (v := .ref rd) (C := RX11) (T := TX11) (N := 18) hx hb ht uX11 hown hK hP 1 rfl rfl 8 (by decide) (ht _ k_4_99) (fun _ h9 => h9) K13 dX11_value_44 ?_
  refine va_get (D := (dC, dI)) (ci := 6) (v := .int 1) (C := RX6) (T := TX6) (N := 20) hx hb ht uX6 hown hK hP 2 rfl rfl 9 (by decide) (ht _ k_1_222) (fun _ h9 => h9) K25 dX11_value_47 ?_
  refine lv_if_eq (tgt := 58) hx hb dX11_value_50 (by decide) (fun c0 => absurd c0 (by decide)) (fun _ => ?_)
  refine lv_aload_n hx hb dX11_value_53 rfl (lv_at hl 0 rfl) ?_
  refine ca_i (wr := [(as, .inr (1, ga))]) (va_runV (As := []) (rest := []) ⟨hx, hb, hml, hown, ht⟩ (x_refuseFault l dC dI H.size q F8 rd F23 K9 K13 K24 K25 K26 ) (cwV 0 ht (gdV k_5_121 k_5_118 k_5_120 ks_32 k_1_1) rfl rfl rfl (by decide +kernel) ⟨Nat.le_of_ble_eq_true rfl, Nat.le_of_ble_eq_true rfl⟩) ⟨pcw_blind, va_recv hK hP (ci := 11) (q0 := 1) rfl rfl, pcw_at hP hD hK [1, 2] [] (by decide) rfl rfl rfl⟩ rfl rfl hl.1 rfl (lv_room (Nat.le_of_ble_eq_true rfl)) dX11_value_54 ⟨Nat.le_of_ble_eq_true rfl, Nat.le_of_ble_eq_true rfl⟩) hP hD hK hS hA [1, 2] [0] rfl rfl (by decide) (by decide) (fun r27 u H locs w28 hK hP hD hS => ?_)
  have hK : va_K (dC, dI) cls [(cT, .byte)] s := hK
  have hP : va_P (dC, dI) cls [(as, .inr (1, ga))] H := hP
  have hD : va_D A [(as, .inr (1, ga))] := hD
  obtain rfl : r27 = (-11) := w28
  exact W.iret (v := (-11)) hx hb hr (fun t ht9 hW => ⟨⟨(-11), (), rfl, rfl, by rw [ht9]; exact hP.sub [] rfl, va_K.moved hW.alike (hK.sub [] rfl), hD.sub [] (by decide) rfl⟩, hS.F ht9⟩) hS.2.2 dX11_value_57
set_option maxHeartbeats 4000000 in
set_option maxRecDepth 100000 in
theorem x_keeps (l : Launch) (dC : Nat → ClassId) (dI : Nat → Nat → Nat) (sz : Nat) (q : Nat) (fs : List Value) (tp : Nat) (rd : Nat) (as : Nat) (sp : Nat) (lp : Nat) (wr : Nat) (ma : Nat) (dk : Nat) (gr : List Value) (nd : Nat) (gn : List Value) (cT : ClassId) (ft : Nat → Int32) (gl : List Value) (vk : Nat) (L_fs : fs.length = 18) (K0_fs : fs[0]? = some (.ref tp)) (K1_fs : fs[1]? = some (.int 0)) (K2_fs : fs[2]? = some (.int 0)) (K8_fs : fs[8]? = some (.ref rd)) (K9_fs : fs[9]? = some (.ref as)) (K10_fs : fs[10]? = some (.ref sp)) (K11_fs : fs[11]? = some (.int 0)) (K14_fs : fs[14]? = some (.ref lp)) (K15_fs : fs[15]? = some (.ref wr)) (K16_fs : fs[16]? = some (.ref ma)) (K17_fs : fs[17]? = some (.ref dk)) (L_gr : gr.length = 20) (K11_gr : gr[11]? = some (.ref nd)) (L_gn : gn.length = 4) (L_gl : gl.length = 18) (K1_gl : gl[1]? = some (.int 0)) (K3_gl : gl[3]? = some (.ref vk)) : Met l yX11_keeps (Cond.code yX11_keeps cX11_keeps 1 (some .int) :: tb) ({ frames := 4, cells := 0, slots := 0, locals := 92 }) (pcw [.ref q] (dC, dI) [(q, .inr (11, fs)), (rd, .inr (6, gr)), (nd, .inr (9, gn)), (tp, .inl (cT, 2000, .inl ft)), (lp, .inr (4, gl))] [(cT, .byte)] sz) (va_Qi (fun (r : Int32) => (fun (_ : Unit) => r = -11)) (bw (dC, dI) (va_A [(q, .inr (11, fs)), (rd, .inr (6, gr)), (nd, .inr (9, gn)), (tp, .inl (cT, 2000, .inl ft)), (lp, .inr (4, gl))] sz) (fun (_ : Unit) => []) (fun (_ : Unit) => [])) (va_A [(q, .inr (11, fs)), (rd, .inr (6, gr)), (nd, .inr (9, gn)), (tp, .inl (cT, 2000, .inl ft)), (lp, .inr (4, gl))] sz)) 0 0 (va_A [(q, .inr (11, fs)), (rd, .inr (6, gr)), (nd, .inr (9, gn)), (tp, .inl (cT, 2000, .inl ft)), (lp, .inr (4, gl))] sz) := by
  refine Met.ofW (cc := cX11_keeps) (maxL := 1) (ret := (some .int)) (by decide) rfl ?_
  intro p e s m args below meth c s₁ B hml hv
  obtain ⟨rfl, hsz, hP, hK, hD0⟩ := hv
  have hx := B.exec
  have hb := B.bytes
  have hr := B.returns
  have hts := atoms_spec (ws := Cond.code yX11_keeps cX11_keeps 1 (some .int) :: tb) B.pre
  have ht : ∀ w ∈ tb, w.before _ s = true := fun w h => hts w (List.mem_cons_of_mem _ h)
  have hown : s.vm.findClass RX11 = some m.cls := findClass_of_methodNamed B.named
  have hlocks := B.notSynchronized
  subst hsz
  have hD := hD0.self (sz := s.heap.size)
  generalize hAe : va_A [(q, .inr (11, fs)), (rd, .inr (6, gr)), (nd, .inr (9, gn)), (tp, .inl (cT, 2000, .inl ft)), (lp, .inr (4, gl))] s.heap.size = A at hD ⊢
  have hA : ∀ q : Nat, s.heap.size ≤ q → A q := fun q h => by rw [← hAe]; exact Or.inr h
  have hS : va_S A s.heap s.heap [] := va_S.rf
  have hl := lv_entry ([.ref q]) (n := 1) (Nat.le_of_ble_eq_true rfl)
  rw [lg_entry_eq]
  generalize (lg_sl ([.ref q]) ++ List.replicate (1 - (lg_sl ([.ref q])).length) Slot.unset).toArray = ls at hl ⊢
  have hl : lv_has ls 1 [(0, .ref q)] := hl
  have hP : va_P (dC, dI) cls [(q, .inr (11, fs)), (rd, .inr (6, gr)), (nd, .inr (9, gn)), (tp, .inl (cT, 2000, .inl ft)), (lp, .inr (4, gl))] s.heap := hP
  refine lv_aload_n hx hb dX11_keeps_0 rfl (lv_at hl 0 rfl) ?_
  refine va_get (D := (dC, dI)) (ci := 11) (v := .int 0) (C := RX11) (T := TX11) (N := 18) hx hb ht uX11 hown hK hP 0 rfl rfl 2 (by decide) (ht _ k_4_93) (fun _ h9 => h9) K2_fs dX11_keeps_1 ?_
  refine lv_if_eq (tgt := 10) hx hb dX11_keeps_4 (by decide) (fun _ => ?_) (fun c0 => absurd c0 (by decide))
  refine lv_aload_n hx hb dX11_keeps_10 rfl (lv_at hl 0 rfl) ?_
  refine va_get (D := (dC, dI)) (ci := 11) (v := .ref rd) (C := RX11) (T := TX11) (N := 18) hx hb ht uX11 hown hK hP 0 rfl rfl 8 (by decide) (ht _ k_4_99) (fun _ h9 => h9) K8_fs dX11_keeps_11 ?_
  refine lv_aload_n hx hb dX11_keeps_14 rfl (lv_at hl 0 rfl) ?_
  refine va_get (D := (dC, dI)) (ci := 11) (v := .ref lp) (C := RX11) (T := TX11) (N := 18) hx hb ht uX11 hown hK hP 0 rfl rfl 14 (by decide) (ht _ k_4_105) (fun _ h9 => h9) K14_fs dX11_keeps_15 ?_
  refine va_get (D := (dC, dI)) (ci := 4) (v := .int 0) (C := RX4) (T := TX4) (N := 18) hx hb ht uX4 hown hK hP 4 rfl rfl 1 (by decide) (ht _ k_3_108) (fun _ h9 => h9) K1_gl dX11_keeps_18 ?_
  refine lv_if_eq (tgt := 34) hx hb dX11_keeps_21 (by decide) (fun _ => ?_) (fun c0 => absurd c0 (by decide))
  refine lv_iconst (v := 0) hx hb dX11_keeps_34 (by decide) ?_
  refine lv_aload_n hx hb dX11_keeps_35 rfl (lv_at hl 0 rfl) ?_
  refine va_get (D := (dC, dI)) (ci := 11) (v := .ref lp) (C := RX11) (T := TX11) (N := 18) hx hb ht uX11 hown hK hP 0 rfl rfl 14 (by decide) (ht _ k_4_105) (fun _ h9 => h9) K14_fs dX11_keeps_36 ?_
  refine va_get (D := (dC, dI)) (ci := 4) (v := .ref vk) (C := RX4) (T := TX4) (N := 18) hx hb ht uX4 hown hK hP 4 rfl rfl 3 (by decide) (ht _ k_3_112) (fun _ h9 => h9) K3_gl dX11_keeps_39 ?_
  refine ca_v (wr := [(q, .inr (11, fs)), (nd, .inr (9, gn)), (tp, .inl (cT, 2000, .inl ft)), (lp, .inr (4, gl))]) (va_runV (As := [.int 0, .ref vk]) (rest := []) ⟨hx, hb, hml, hown, ht⟩ (m6_setScope l dC dI s.heap.size rd gr nd vk L_gr K11_gr ) (cwV 2 ht (gdV k_5_165 k_6_185 k_5_163 k_5_164 k_1_8) rfl rfl rfl (by decide +kernel) ⟨Nat.le_of_ble_eq_true rfl, Nat.le_of_ble_eq_true rfl⟩) ⟨pcw_blind, va_recv hK hP (ci := 6) (q0 := 1) rfl rfl, pcw_at hP hD hK [1] [] (by decide) rfl rfl rfl⟩ rfl rfl hl.1 rfl (lv_room (Nat.le_of_ble_eq_true rfl)) dX11_keeps_42 ⟨Nat.le_of_ble_eq_true rfl, Nat.le_of_ble_eq_true rfl⟩) hP hD hK hS hA [1] [0, 2, 3, 4] rfl rfl (by decide) (by decide) (fun u H locs w2 hK hP hD hS => ?_)
  obtain ⟨F3, rfl⟩ : ∃ z, z = u := ⟨_, rfl⟩
  have hK : va_K (dC, dI) cls [(cT, .byte)] s := hK
  have hP : va_P (dC, dI) cls [(q, .inr (11, fs)), (nd, .inr (9, gn)), (tp, .inl (cT, 2000, .inl ft)), (lp, .inr (4, gl)), (rd, .inr (6, F3))] H := hP
  have hD : va_D A [(q, .inr (11, fs)), (nd, .inr (9, gn)), (tp, .inl (cT, 2000, .inl ft)), (lp, .inr (4, gl)), (rd, .inr (6, F3))] := hD
  obtain ⟨w2, K4, K5⟩ := w2
  refine lv_aload_n hx hb dX11_keeps_45 rfl (lv_at hl 0 rfl) ?_
  refine va_get (D := (dC, dI)) (ci := 11) (v := .ref rd) (C := RX11) (T := TX11) (N := 18) hx hb ht uX11 hown hK hP 0 rfl rfl 8 (by decide) (ht _ k_4_99) (fun _ h9 => h9) K8_fs dX11_keeps_46 ?_
  refine lv_aload_n hx hb dX11_keeps_49 rfl (lv_at hl 0 rfl) ?_
  refine va_get (D := (dC, dI)) (ci := 11) (v := .ref tp) (C := RX11) (T := TX11) (N := 18) hx hb ht uX11 hown hK hP 0 rfl rfl 0 (by decide) (ht _ k_4_91) (fun _ h9 => h9) K0_fs dX11_keeps_50 ?_
  refine lv_iconst (v := 0) hx hb dX11_keeps_53 (by decide) ?_
  refine lv_aload_n hx hb dX11_keeps_54 rfl (lv_at hl 0 rfl) ?_
  refine ca_i (wr := [(nd, .inr (9, gn)), (tp, .inl (cT, 2000, .inl ft)), (lp, .inr (4, gl)), (rd, .inr (6, F3))]) (va_runV (As := []) (rest := [.int 0, .ref tp, .ref rd]) ⟨hx, hb, hml, hown, ht⟩ (x_takeTape l dC dI H.size q fs tp rd as sp lp wr ma dk L_fs K0_fs K1_fs K2_fs K8_fs K9_fs K10_fs K11_fs K14_fs K15_fs K16_fs K17_fs ) (cwV 0 ht (gdV k_4_165 k_4_162 k_4_164 ks_1 k_1_1) rfl rfl rfl (by decide +kernel) ⟨Nat.le_of_ble_eq_true rfl, Nat.le_of_ble_eq_true rfl⟩) ⟨pcw_blind, va_recv hK hP (ci := 11) (q0 := 0) rfl rfl, pcw_at hP hD hK [0] [] (by decide) rfl rfl rfl⟩ rfl rfl hl.1 rfl (lv_room (Nat.le_of_ble_eq_true rfl)) dX11_keeps_55 ⟨Nat.le_of_ble_eq_true rfl, Nat.le_of_ble_eq_true rfl⟩) hP hD hK hS hA [0] [1, 2, 3, 4] rfl rfl (by decide) (by decide) (fun r6 u H locs w7 hK hP hD hS => ?_)
  obtain ⟨F8, rfl⟩ : ∃ z, z = u := ⟨_, rfl⟩
  have hK : va_K (dC, dI) cls [(cT, .byte)] s := hK
  have hP : va_P (dC, dI) cls [(nd, .inr (9, gn)), (tp, .inl (cT, 2000, .inl ft)), (lp, .inr (4, gl)), (rd, .inr (6, F3)), (q, .inr (11, F8))] H := hP
  have hD : va_D A [(nd, .inr (9, gn)), (tp, .inl (cT, 2000, .inl ft)), (lp, .inr (4, gl)), (rd, .inr (6, F3)), (q, .inr (11, F8))] := hD
  obtain ⟨w7, K9, K10, K11, K12, K13, K14, K15, K16, K17, K18, K19, K20⟩ := w7
  obtain rfl : r6 = 0 := w7
  refine lv_iconst (v := 2) hx hb dX11_keeps_58 (by decide) ?_
  refine lv_iconst (v := (-1)) hx hb dX11_keeps_59 (by decide) ?_
  refine ca_v (wr := [(lp, .inr (4, gl)), (q, .inr (11, F8))]) (va_runV (As := [.ref tp, .int 0, .int 0, .int 2, .int (-1)]) (rest := []) ⟨hx, hb, hml, hown, ht⟩ (m6_readTold l dC dI H.size rd F3 nd gn tp cT ft 2 (-1) K4 K5 L_gn ) (cwV 5 ht (gdV k_6_189 k_6_186 k_6_187 k_6_188 k_1_8) rfl rfl rfl (by decide +kernel) ⟨Nat.le_of_ble_eq_true rfl, Nat.le_of_ble_eq_true rfl⟩) ⟨pcw_blind, va_recv hK hP (ci := 6) (q0 := 3) rfl rfl, pcw_at hP hD hK [3, 0, 1] [0] (by decide) rfl rfl rfl⟩ rfl rfl hl.1 rfl (lv_room (Nat.le_of_ble_eq_true rfl)) dX11_keeps_60 ⟨Nat.le_of_ble_eq_true rfl, Nat.le_of_ble_eq_true rfl⟩) hP hD hK hS hA [3, 0, 1] [2, 4] rfl rfl (by decide) (by decide) (fun u H locs w22 hK hP hD hS => ?_)
  obtain ⟨F23, rfl⟩ : ∃ z, z = u := ⟨_, rfl⟩
  have hK : va_K (dC, dI) cls [(cT, .byte)] s := hK
  have hP : va_P (dC, dI) cls [(lp, .inr (4, gl)), (q, .inr (11, F8)), (rd, .inr (6, F23))] H := hP
  have hD : va_D A [(lp, .inr (4, gl)), (q, .inr (11, F8)), (rd, .inr (6, F23))] := hD
  obtain ⟨w22, K24, K25, K26⟩ := w22
  refine lv_aload_n hx hb dX11_keeps_63 rfl (lv_at hl 0 rfl) ?_
  refine va_get (D := (dC, dI)) (ci := 11) (v := .ref rd) (C := RX11) (T := TX11) (N := 18) hx hb ht uX11 hown hK hP 1 rfl rfl 8 (by decide) (ht _ k_4_99) (fun _ h9 => h9) K13 dX11_keeps_64 ?_
  refine va_get (D := (dC, dI)) (ci := 6) (v := .int 1) (C := RX6) (T := TX6) (N := 20) hx hb ht uX6 hown hK hP 2 rfl rfl 9 (by decide) (ht _ k_1_222) (fun _ h9 => h9) K25 dX11_keeps_67 ?_
  refine lv_if_eq (tgt := 78) hx hb dX11_keeps_70 (by decide) (fun c0 => absurd c0 (by decide)) (fun _ => ?_)
  refine lv_aload_n hx hb dX11_keeps_73 rfl (lv_at hl 0 rfl) ?_
  refine ca_i (wr := [(lp, .inr (4, gl))]) (va_runV (As := []) (rest := []) ⟨hx, hb, hml, hown, ht⟩ (x_refuseFault l dC dI H.size q F8 rd F23 K9 K13 K24 K25 K26 ) (cwV 0 ht (gdV k_5_121 k_5_118 k_5_120 ks_32 k_1_1) rfl rfl rfl (by decide +kernel) ⟨Nat.le_of_ble_eq_true rfl, Nat.le_of_ble_eq_true rfl⟩) ⟨pcw_blind, va_recv hK hP (ci := 11) (q0 := 1) rfl rfl, pcw_at hP hD hK [1, 2] [] (by decide) rfl rfl rfl⟩ rfl rfl hl.1 rfl (lv_room (Nat.le_of_ble_eq_true rfl)) dX11_keeps_74 ⟨Nat.le_of_ble_eq_true rfl, Nat.le_of_ble_eq_true rfl⟩) hP hD hK hS hA [1, 2] [0] rfl rfl (by decide) (by decide) (fun r27 u H locs w28 hK hP hD hS => ?_)
  have hK : va_K (dC, dI) cls [(cT, .byte)] s := hK
  have hP : va_P (dC, dI) cls [(lp, .inr (4, gl))] H := hP
  have hD : va_D A [(lp, .inr (4, gl))] := hD
  obtain rfl : r27 = (-11) := w28
  exact W.iret (v := (-11)) hx hb hr (fun t ht9 hW => ⟨⟨(-11), (), rfl, rfl, by rw [ht9]; exact hP.sub [] rfl, va_K.moved hW.alike (hK.sub [] rfl), hD.sub [] (by decide) rfl⟩, hS.F ht9⟩) hS.2.2 dX11_keeps_77
set_option maxHeartbeats 4000000 in
set_option maxRecDepth 100000 in
theorem m6_isNamed (l : Launch) (dC : Nat → ClassId) (dI : Nat → Nat → Nat) (sz : Nat) (rd : Nat) (gr : List Value) (sa : Nat) (L_gr : gr.length = 20) (K5_gr : gr[5]? = some (.int 0)) : Met l yX6_isNamed (Cond.code yX6_isNamed cX6_isNamed 2 (some .boolean) :: tb) ({ frames := 0, cells := 0, slots := 0, locals := 0 }) (pcw [.ref rd, .ref sa] (dC, dI) [(rd, .inr (6, gr))] [] sz) (va_Qi (fun (r : Int32) => (fun (_ : Unit) => r = 0)) (bw (dC, dI) (va_A [(rd, .inr (6, gr))] sz) (fun (_ : Unit) => [(rd, .inr (6, gr))]) (fun (_ : Unit) => [])) (va_A [(rd, .inr (6, gr))] sz)) 0 0 (va_A [(rd, .inr (6, gr))] sz) := by
  refine Met.ofW (cc := cX6_isNamed) (maxL := 2) (ret := (some .boolean)) (by decide) rfl ?_
  intro p e s m args below meth c s₁ B hml hv
  obtain ⟨rfl, hsz, hP, hK, hD0⟩ := hv
  have hx := B.exec
  have hb := B.bytes
  have hr := B.returns
  have hts := atoms_spec (ws := Cond.code yX6_isNamed cX6_isNamed 2 (some .boolean) :: tb) B.pre
  have ht : ∀ w ∈ tb, w.before _ s = true := fun w h => hts w (List.mem_cons_of_mem _ h)
  have hown : s.vm.findClass RX6 = some m.cls := findClass_of_methodNamed B.named
  have hlocks := B.notSynchronized
  subst hsz
  have hD := hD0.self (sz := s.heap.size)
  generalize hAe : va_A [(rd, .inr (6, gr))] s.heap.size = A at hD ⊢
  have hA : ∀ q : Nat, s.heap.size ≤ q → A q := fun q h => by rw [← hAe]; exact Or.inr h
  have hS : va_S A s.heap s.heap [] := va_S.rf
  have hl := lv_entry ([.ref rd, .ref sa]) (n := 2) (Nat.le_of_ble_eq_true rfl)
  rw [lg_entry_eq]
  generalize (lg_sl ([.ref rd, .ref sa]) ++ List.replicate (2 - (lg_sl ([.ref rd, .ref sa])).length) Slot.unset).toArray = ls at hl ⊢
  have hl : lv_has ls 2 [(0, .ref rd), (1, .ref sa)] := hl
  have hP : va_P (dC, dI) cls [(rd, .inr (6, gr))] s.heap := hP
  refine lv_aload_n hx hb dX6_isNamed_0 rfl (lv_at hl 0 rfl) ?_
  refine va_get (D := (dC, dI)) (ci := 6) (v := .int 0) (C := RX6) (T := TX6) (N := 20) hx hb ht uX6 hown hK hP 0 rfl rfl 5 (by decide) (ht _ k_1_217) (fun _ h9 => h9) K5_gr dX6_isNamed_1 ?_
  refine lv_iconst (v := 1) hx hb dX6_isNamed_4 (by decide) ?_
  refine lv_icmp_ne (tgt := 24) hx hb dX6_isNamed_5 (by decide) (fun _ => ?_) (fun c0 => absurd c0 (by decide))
  refine lv_iconst (v := 0) hx hb dX6_isNamed_24 (by decide) ?_
  exact W.zret (v := 0) hx hb hr rfl (fun t ht9 hW => ⟨⟨0, (), rfl, rfl, by rw [ht9]; exact hP.sub [0] rfl, va_K.moved hW.alike (hK.sub [] rfl), hD.sub [0] (by decide) rfl⟩, hS.F ht9⟩) hS.2.2 dX6_isNamed_25
set_option maxHeartbeats 4000000 in
set_option maxRecDepth 100000 in
theorem m6_takeNamed (l : Launch) (dC : Nat → ClassId) (dI : Nat → Nat → Nat) (sz : Nat) (rd : Nat) (gr : List Value) (sa : Nat) (L_gr : gr.length = 20) (K5_gr : gr[5]? = some (.int 0)) (K6_gr : gr[6]? = some (.int 0)) (K9_gr : gr[9]? = some (.int 0)) : Met l yX6_takeNamed (Cond.code yX6_takeNamed cX6_takeNamed 2 (some .boolean) :: tb) ({ frames := 1, cells := 0, slots := 0, locals := 21 }) (pcw [.ref rd, .ref sa] (dC, dI) [(rd, .inr (6, gr))] [] sz) (va_Qi (fun (r : Int32) => (fun (gr1 : List Value) => (r = 0) ∧ (gr1.length = 20) ∧ (gr1[9]? = some (.int 1)) ∧ (gr1[10]? = some (.int 0)))) (bw (dC, dI) (va_A [(rd, .inr (6, gr))] sz) (fun (gr1 : List Value) => [(rd, .inr (6, gr1))]) (fun (gr1 : List Value) => [])) (va_A [(rd, .inr (6, gr))] sz)) 0 0 (va_A [(rd, .inr (6, gr))] sz) := by
  refine Met.ofW (cc := cX6_takeNamed) (maxL := 2) (ret := (some .boolean)) (by decide) rfl ?_
  intro p e s m args below meth c s₁ B hml hv
  obtain ⟨rfl, hsz, hP, hK, hD0⟩ := hv
  have hx := B.exec
  have hb := B.bytes
  have hr := B.returns
  have hts := atoms_spec (ws := Cond.code yX6_takeNamed cX6_takeNamed 2 (some .boolean) :: tb) B.pre
  have ht : ∀ w ∈ tb, w.before _ s = true := fun w h => hts w (List.mem_cons_of_mem _ h)
  have hown : s.vm.findClass RX6 = some m.cls := findClass_of_methodNamed B.named
  have hlocks := B.notSynchronized
  subst hsz
  have hD := hD0.self (sz := s.heap.size)
  generalize hAe : va_A [(rd, .inr (6, gr))] s.heap.size = A at hD ⊢
  have hA : ∀ q : Nat, s.heap.size ≤ q → A q := fun q h => by rw [← hAe]; exact Or.inr h
  have hS : va_S A s.heap s.heap [] := va_S.rf
  have hl := lv_entry ([.ref rd, .ref sa]) (n := 2) (Nat.le_of_ble_eq_true rfl)
  rw [lg_entry_eq]
  generalize (lg_sl ([.ref rd, .ref sa]) ++ List.replicate (2 - (lg_sl ([.ref rd, .ref sa])).length) Slot.unset).toArray = ls at hl ⊢
  have hl : lv_has ls 2 [(0, .ref rd), (1, .ref sa)] := hl
  have hP : va_P (dC, dI) cls [(rd, .inr (6, gr))] s.heap := hP
  refine lv_aload_n hx hb dX6_takeNamed_0 rfl (lv_at hl 0 rfl) ?_
  refine lv_aload_n hx hb dX6_takeNamed_1 rfl (lv_at hl 1 rfl) ?_
  refine ca_i (wr := []) (va_runV (As := [.ref sa]) (rest := []) ⟨hx, hb, hml, hown, ht⟩ (m6_isNamed l dC dI s.heap.size rd gr sa L_gr K5_gr ) (cwV 1 ht (gdV k_4_208 k_4_205 k_4_207 ks_9 k_1_8) rfl rfl rfl (by decide +kernel) ⟨Nat.le_of_ble_eq_true rfl, Nat.le_of_ble_eq_true rfl⟩) ⟨pcw_blind, va_recv hK hP (ci := 6) (q0 := 0) rfl rfl, pcw_at hP hD hK [0] [] (by decide) rfl rfl rfl⟩ rfl rfl hl.1 rfl (lv_room (Nat.le_of_ble_eq_true rfl)) dX6_takeNamed_2 ⟨Nat.le_of_ble_eq_true rfl, Nat.le_of_ble_eq_true rfl⟩) hP hD hK hS hA [0] [] rfl rfl (by decide) (by decide) (fun r1 u H locs w2 hK hP hD hS => ?_)
  have hK : va_K (dC, dI) cls [] s := hK
  have hP : va_P (dC, dI) cls [(rd, .inr (6, gr))] H := hP
  have hD : va_D A [(rd, .inr (6, gr))] := hD
  obtain rfl : r1 = 0 := w2
  refine lv_if_ne (tgt := 13) hx hb dX6_takeNamed_5 (by decide) (fun c0 => absurd c0 (by decide)) (fun _ => ?_)
  refine lv_aload_n hx hb dX6_takeNamed_8 rfl (lv_at hl 0 rfl) ?_
  refine ca_i (wr := []) (va_runV (As := []) (rest := []) ⟨hx, hb, hml, hown, ht⟩ (m6_stop l dC dI H.size rd gr L_gr K6_gr K9_gr ) (cwV 0 ht (gdV k_4_217 k_4_214 k_4_216 ks_10 k_1_8) rfl rfl rfl (by decide +kernel) ⟨Nat.le_of_ble_eq_true rfl, Nat.le_of_ble_eq_true rfl⟩) ⟨pcw_blind, va_recv hK hP (ci := 6) (q0 := 0) rfl rfl, pcw_at hP hD hK [0] [] (by decide) rfl rfl rfl⟩ rfl rfl hl.1 rfl (lv_room (Nat.le_of_ble_eq_true rfl)) dX6_takeNamed_9 ⟨Nat.le_of_ble_eq_true rfl, Nat.le_of_ble_eq_true rfl⟩) hP hD hK hS hA [0] [] rfl rfl (by decide) (by decide) (fun r3 u H locs w4 hK hP hD hS => ?_)
  obtain ⟨F5, rfl⟩ : ∃ z, z = u := ⟨_, rfl⟩
  have hK : va_K (dC, dI) cls [] s := hK
  have hP : va_P (dC, dI) cls [(rd, .inr (6, F5))] H := hP
  have hD : va_D A [(rd, .inr (6, F5))] := hD
  obtain ⟨w4, K6, K7, K8⟩ := w4
  obtain rfl : r3 = 0 := w4
  exact W.zret (v := 0) hx hb hr rfl (fun t ht9 hW => ⟨⟨0, (F5), rfl, ⟨rfl, K6, K7, K8⟩, by rw [ht9]; exact hP.sub [0] rfl, va_K.moved hW.alike (hK.sub [] rfl), hD.sub [0] (by decide) rfl⟩, hS.F ht9⟩) hS.2.2 dX6_takeNamed_12
set_option maxHeartbeats 4000000 in
set_option maxRecDepth 100000 in
theorem m1_empty (l : Launch) (dC : Nat → ClassId) (dI : Nat → Nat → Nat) (sz : Nat) (sp : Nat) (gp : List Value) (L_gp : gp.length = 16) : Met l yX1_empty (Cond.code yX1_empty cX1_empty 1 none :: tb) ({ frames := 0, cells := 0, slots := 0, locals := 0 }) (pcw [.ref sp] (dC, dI) [(sp, .inr (1, gp))] [] sz) (va_Qv (fun (_ : Unit) => True) (bw (dC, dI) (va_A [(sp, .inr (1, gp))] sz) (fun (_ : Unit) => []) (fun (_ : Unit) => [])) (va_A [(sp, .inr (1, gp))] sz)) 0 0 (va_A [(sp, .inr (1, gp))] sz) := by
  refine Met.ofW (cc := cX1_empty) (maxL := 1) (ret := none) (by decide) rfl ?_
  intro p e s m args below meth c s₁ B hml hv
  obtain ⟨rfl, hsz, hP, hK, hD0⟩ := hv
  have hx := B.exec
  have hb := B.bytes
  have hr := B.returns
  have hts := atoms_spec (ws := Cond.code yX1_empty cX1_empty 1 none :: tb) B.pre
  have ht : ∀ w ∈ tb, w.before _ s = true := fun w h => hts w (List.mem_cons_of_mem _ h)
  have hown : s.vm.findClass RX1 = some m.cls := findClass_of_methodNamed B.named
  have hlocks := B.notSynchronized
  subst hsz
  have hD := hD0.self (sz := s.heap.size)
  generalize hAe : va_A [(sp, .inr (1, gp))] s.heap.size = A at hD ⊢
  have hA : ∀ q : Nat, s.heap.size ≤ q → A q := fun q h => by rw [← hAe]; exact Or.inr h
  have hS : va_S A s.heap s.heap [] := va_S.rf
  have hl := lv_entry ([.ref sp]) (n := 1) (Nat.le_of_ble_eq_true rfl)
  rw [lg_entry_eq]
  generalize (lg_sl ([.ref sp]) ++ List.replicate (1 - (lg_sl ([.ref sp])).length) Slot.unset).toArray = ls at hl ⊢
  have hl : lv_has ls 1 [(0, .ref sp)] := hl
  have hP : va_P (dC, dI) cls [(sp, .inr (1, gp))] s.heap := hP
  refine lv_aload_n hx hb dX1_empty_0 rfl (lv_at hl 0 rfl) ?_
  refine lv_iconst (v := 0) hx hb dX1_empty_1 (by decide) ?_
  refine va_put (D := (dC, dI)) (ci := 1) (v := .int 0) (ty := .int) (C := RX1) (T := TX1) (N := 16) hx hb ht uX1 tyX1 tkX1 nmX1 hown hK hP hD hS 0 rfl rfl 0 (by decide) (ht _ k_2_49) (fun _ h9 => h9) rfl (by decide +kernel) rfl rfl (by rw [L_gp]; decide) dX1_empty_2 (fun H locs hP hD hS => ?_)
  obtain ⟨F1, eF1⟩ : ∃ g : List Value, g = gp.set 0 (.int 0) := ⟨_, rfl⟩
  rw [← eF1] at hP hD
  have K0_F1 : F1[0]? = some (.int 0) := by rw [eF1]; exact List.getElem?_set_self (by rw [L_gp]; decide)
  have L_F1 : F1.length = 16 := by rw [eF1, List.length_set]; exact L_gp
  have hP : va_P (dC, dI) cls [(sp, .inr (1, F1))] H := hP
  have hD : va_D A [(sp, .inr (1, F1))] := hD
  refine lv_aload_n hx hb dX1_empty_5 rfl (lv_at hl 0 rfl) ?_
  refine lv_iconst (v := 0) hx hb dX1_empty_6 (by decide) ?_
  refine va_put (D := (dC, dI)) (ci := 1) (v := .int 0) (ty := .int) (C := RX1) (T := TX1) (N := 16) hx hb ht uX1 tyX1 tkX1 nmX1 hown hK hP hD hS 0 rfl rfl 2 (by decide) (ht _ k_2_62) (fun _ h9 => h9) rfl (by decide +kernel) rfl rfl (by rw [L_F1]; decide) dX1_empty_7 (fun H locs hP hD hS => ?_)
  obtain ⟨F2, eF2⟩ : ∃ g : List Value, g = F1.set 2 (.int 0) := ⟨_, rfl⟩
  rw [← eF2] at hP hD
  have K0_F2 : F2[0]? = some (.int 0) := by rw [eF2, List.getElem?_set_ne (by decide)]; exact K0_F1
  have K2_F2 : F2[2]? = some (.int 0) := by rw [eF2]; exact List.getElem?_set_self (by rw [L_F1]; decide)
  have L_F2 : F2.length = 16 := by rw [eF2, List.length_set]; exact L_F1
  have hP : va_P (dC, dI) cls [(sp, .inr (1, F2))] H := hP
  have hD : va_D A [(sp, .inr (1, F2))] := hD
  refine lv_aload_n hx hb dX1_empty_10 rfl (lv_at hl 0 rfl) ?_
  refine lv_iconst (v := 0) hx hb dX1_empty_11 (by decide) ?_
  refine va_put (D := (dC, dI)) (ci := 1) (v := .int 0) (ty := .int) (C := RX1) (T := TX1) (N := 16) hx hb ht uX1 tyX1 tkX1 nmX1 hown hK hP hD hS 0 rfl rfl 6 (by decide) (ht _ k_2_74) (fun _ h9 => h9) rfl (by decide +kernel) rfl rfl (by rw [L_F2]; decide) dX1_empty_12 (fun H locs hP hD hS => ?_)
  obtain ⟨F3, eF3⟩ : ∃ g : List Value, g = F2.set 6 (.int 0) := ⟨_, rfl⟩
  rw [← eF3] at hP hD
  have K0_F3 : F3[0]? = some (.int 0) := by rw [eF3, List.getElem?_set_ne (by decide)]; exact K0_F2
  have K2_F3 : F3[2]? = some (.int 0) := by rw [eF3, List.getElem?_set_ne (by decide)]; exact K2_F2
  have K6_F3 : F3[6]? = some (.int 0) := by rw [eF3]; exact List.getElem?_set_self (by rw [L_F2]; decide)
  have L_F3 : F3.length = 16 := by rw [eF3, List.length_set]; exact L_F2
  have hP : va_P (dC, dI) cls [(sp, .inr (1, F3))] H := hP
  have hD : va_D A [(sp, .inr (1, F3))] := hD
  refine lv_aload_n hx hb dX1_empty_15 rfl (lv_at hl 0 rfl) ?_
  refine lv_iconst (v := 0) hx hb dX1_empty_16 (by decide) ?_
  refine va_put (D := (dC, dI)) (ci := 1) (v := .int 0) (ty := .int) (C := RX1) (T := TX1) (N := 16) hx hb ht uX1 tyX1 tkX1 nmX1 hown hK hP hD hS 0 rfl rfl 10 (by decide) (ht _ k_2_82) (fun _ h9 => h9) rfl (by decide +kernel) rfl rfl (by rw [L_F3]; decide) dX1_empty_17 (fun H locs hP hD hS => ?_)
  obtain ⟨F4, eF4⟩ : ∃ g : List Value, g = F3.set 10 (.int 0) := ⟨_, rfl⟩
  rw [← eF4] at hP hD
  have K0_F4 : F4[0]? = some (.int 0) := by rw [eF4, List.getElem?_set_ne (by decide)]; exact K0_F3
  have K2_F4 : F4[2]? = some (.int 0) := by rw [eF4, List.getElem?_set_ne (by decide)]; exact K2_F3
  have K6_F4 : F4[6]? = some (.int 0) := by rw [eF4, List.getElem?_set_ne (by decide)]; exact K6_F3
  have K10_F4 : F4[10]? = some (.int 0) := by rw [eF4]; exact List.getElem?_set_self (by rw [L_F3]; decide)
  have L_F4 : F4.length = 16 := by rw [eF4, List.length_set]; exact L_F3
  have hP : va_P (dC, dI) cls [(sp, .inr (1, F4))] H := hP
  have hD : va_D A [(sp, .inr (1, F4))] := hD
  refine lv_aload_n hx hb dX1_empty_20 rfl (lv_at hl 0 rfl) ?_
  refine lv_iconst (v := 0) hx hb dX1_empty_21 (by decide) ?_
  refine va_put (D := (dC, dI)) (ci := 1) (v := .int 0) (ty := .int) (C := RX1) (T := TX1) (N := 16) hx hb ht uX1 tyX1 tkX1 nmX1 hown hK hP hD hS 0 rfl rfl 14 (by decide) (ht _ k_2_87) (fun _ h9 => h9) rfl (by decide +kernel) rfl rfl (by rw [L_F4]; decide) dX1_empty_22 (fun H locs hP hD hS => ?_)
  obtain ⟨F5, eF5⟩ : ∃ g : List Value, g = F4.set 14 (.int 0) := ⟨_, rfl⟩
  rw [← eF5] at hP hD
  have K0_F5 : F5[0]? = some (.int 0) := by rw [eF5, List.getElem?_set_ne (by decide)]; exact K0_F4
  have K2_F5 : F5[2]? = some (.int 0) := by rw [eF5, List.getElem?_set_ne (by decide)]; exact K2_F4
  have K6_F5 : F5[6]? = some (.int 0) := by rw [eF5, List.getElem?_set_ne (by decide)]; exact K6_F4
  have K10_F5 : F5[10]? = some (.int 0) := by rw [eF5, List.getElem?_set_ne (by decide)]; exact K10_F4
  have K14_F5 : F5[14]? = some (.int 0) := by rw [eF5]; exact List.getElem?_set_self (by rw [L_F4]; decide)
  have L_F5 : F5.length = 16 := by rw [eF5, List.length_set]; exact L_F4
  have hP : va_P (dC, dI) cls [(sp, .inr (1, F5))] H := hP
  have hD : va_D A [(sp, .inr (1, F5))] := hD
  exact W.vret hx hb hr (fun t ht9 hW => ⟨⟨(), rfl, trivial, by rw [ht9]; exact hP.sub [] rfl, va_K.moved hW.alike (hK.sub [] rfl), hD.sub [] (by decide) rfl⟩, hS.F ht9⟩) hS.2.2 dX1_empty_25
set_option maxHeartbeats 4000000 in
set_option maxRecDepth 100000 in
theorem m6_readAsk (l : Launch) (dC : Nat → ClassId) (dI : Nat → Nat → Nat) (sz : Nat) (rd : Nat) (gr : List Value) (nd : Nat) (gn : List Value) (tp : Nat) (cT : ClassId) (ft : Nat → Int32) (sp : Nat) (gp : List Value) (sa : Nat) (L_gr : gr.length = 20) (K11_gr : gr[11]? = some (.ref nd)) (L_gn : gn.length = 4) (L_gp : gp.length = 16) : Met l yX6_readAsk (Cond.code yX6_readAsk cX6_readAsk 8 none :: tb) ({ frames := 2, cells := 0, slots := 0, locals := 45 }) (pcx [.inr (.inl ("FinderHouse$Reader", 209, "find", sa))] [.ref rd, .ref tp, .int 0, .ref sp] (dC, dI) [(rd, .inr (6, gr)), (nd, .inr (9, gn)), (tp, .inl (cT, 2000, .inl ft)), (sp, .inr (1, gp))] [(cT, .byte)] sz) (va_Qv (fun (gr1 : List Value) => (True) ∧ (gr1.length = 20) ∧ (gr1[9]? = some (.int 1)) ∧ (gr1[10]? = some (.int 0))) (bw (dC, dI) (va_A [(rd, .inr (6, gr)), (nd, .inr (9, gn)), (tp, .inl (cT, 2000, .inl ft)), (sp, .inr (1, gp))] sz) (fun (gr1 : List Value) => [(rd, .inr (6, gr1))]) (fun (gr1 : List Value) => [])) (va_A [(rd, .inr (6, gr)), (nd, .inr (9, gn)), (tp, .inl (cT, 2000, .inl ft)), (sp, .inr (1, gp))] sz)) 0 0 (va_A [(rd, .inr (6, gr)), (nd, .inr (9, gn)), (tp, .inl (cT, 2000, .inl ft)), (sp, .inr (1, gp))] sz) := by
  refine Met.ofW (cc := cX6_readAsk) (maxL := 8) (ret := none) (by decide) rfl ?_
  intro p e s m args below meth c s₁ B hml hv
  obtain ⟨rfl, hsz, hP, hK, hD0, hE⟩ := hv
  have hx := B.exec
  have hb := B.bytes
  have hr := B.returns
  have hts := atoms_spec (ws := Cond.code yX6_readAsk cX6_readAsk 8 none :: tb) B.pre
  have ht : ∀ w ∈ tb, w.before _ s = true := fun w h => hts w (List.mem_cons_of_mem _ h)
  have hown : s.vm.findClass RX6 = some m.cls := findClass_of_methodNamed B.named
  have hlocks := B.notSynchronized
  subst hsz
  have hD := hD0.self (sz := s.heap.size)
  generalize hAe : va_A [(rd, .inr (6, gr)), (nd, .inr (9, gn)), (tp, .inl (cT, 2000, .inl ft)), (sp, .inr (1, gp))] s.heap.size = A at hD hE ⊢
  have hA : ∀ q : Nat, s.heap.size ≤ q → A q := fun q h => by rw [← hAe]; exact Or.inr h
  have hS : va_S A s.heap s.heap [] := va_S.rf
  have hl := lv_entry ([.ref rd, .ref tp, .int 0, .ref sp]) (n := 8) (Nat.le_of_ble_eq_true rfl)
  rw [lg_entry_eq]
  generalize (lg_sl ([.ref rd, .ref tp, .int 0, .ref sp]) ++ List.replicate (8 - (lg_sl ([.ref rd, .ref tp, .int 0, .ref sp])).length) Slot.unset).toArray = ls at hl ⊢
  have hl : lv_has ls 8 [(0, .ref rd), (1, .ref tp), (2, .int 0), (3, .ref sp)] := hl
  have hP : va_P (dC, dI) cls [(rd, .inr (6, gr)), (nd, .inr (9, gn)), (tp, .inl (cT, 2000, .inl ft)), (sp, .inr (1, gp))] s.heap := hP
  refine lv_aload_n hx hb dX6_readAsk_0 rfl (lv_at hl 0 rfl) ?_
  refine lv_aload_n hx hb dX6_readAsk_1 rfl (lv_at hl 1 rfl) ?_
  refine lv_iconst (v := 0) hx hb dX6_readAsk_2 (by decide) ?_
  refine lv_iload_n hx hb dX6_readAsk_3 rfl (lv_at hl 2 rfl) ?_
  refine ca_v (wr := [(sp, .inr (1, gp))]) (va_runV (As := [.ref tp, .int 0, .int 0]) (rest := []) ⟨hx, hb, hml, hown, ht⟩ (m6_begin l dC dI s.heap.size rd gr nd gn tp cT ft L_gr K11_gr L_gn ) (cwV 3 ht (gdV k_4_173 k_4_170 k_4_172 ks_2 k_1_8) rfl rfl rfl (by decide +kernel) ⟨Nat.le_of_ble_eq_true rfl, Nat.le_of_ble_eq_true rfl⟩) ⟨pcw_blind, va_recv hK hP (ci := 6) (q0 := 0) rfl rfl, pcw_at hP hD hK [0, 1, 2] [0] (by decide) rfl rfl rfl⟩ rfl rfl hl.1 rfl (lv_room (Nat.le_of_ble_eq_true rfl)) dX6_readAsk_4 ⟨Nat.le_of_ble_eq_true rfl, Nat.le_of_ble_eq_true rfl⟩) hP hD hK hS hA [0, 1, 2] [3] rfl rfl (by decide) (by decide) (fun u H locs w2 hK hP hD hS => ?_)
  obtain ⟨F3, rfl⟩ : ∃ z, z = u := ⟨_, rfl⟩
  have hK : va_K (dC, dI) cls [(cT, .byte)] s := hK
  have hP : va_P (dC, dI) cls [(sp, .inr (1, gp)), (rd, .inr (6, F3))] H := hP
  have hD : va_D A [(sp, .inr (1, gp)), (rd, .inr (6, F3))] := hD
  obtain ⟨w2, K4, K5, K6, K7, K8⟩ := w2
  refine lv_aload_n hx hb dX6_readAsk_7 rfl (lv_at hl 3 rfl) ?_
  refine ca_v (wr := [(rd, .inr (6, F3))]) (va_runV (As := []) (rest := []) ⟨hx, hb, hml, hown, ht⟩ (m1_empty l dC dI H.size sp gp L_gp ) (cwV 0 ht (gdV k_4_199 k_4_196 k_4_197 k_4_198 k_1_9) rfl rfl rfl (by decide +kernel) ⟨Nat.le_of_ble_eq_true rfl, Nat.le_of_ble_eq_true rfl⟩) ⟨pcw_blind, va_recv hK hP (ci := 1) (q0 := 0) rfl rfl, pcw_at hP hD hK [0] [] (by decide) rfl rfl rfl⟩ rfl rfl hl.1 rfl (lv_room (Nat.le_of_ble_eq_true rfl)) dX6_readAsk_8 ⟨Nat.le_of_ble_eq_true rfl, Nat.le_of_ble_eq_true rfl⟩) hP hD hK hS hA [0] [1] rfl rfl (by decide) (by decide) (fun u H locs w10 hK hP hD hS => ?_)
  have hK : va_K (dC, dI) cls [(cT, .byte)] s := hK
  have hP : va_P (dC, dI) cls [(rd, .inr (6, F3))] H := hP
  have hD : va_D A [(rd, .inr (6, F3))] := hD
  refine lv_aload_n hx hb dX6_readAsk_11 rfl (lv_at hl 0 rfl) ?_
  refine va_ldcS hx hb hown (xf_r hE 0 rfl) dX6_readAsk_12 ?_
  refine ca_i (wr := []) (va_runV (As := [.ref sa]) (rest := []) ⟨hx, hb, hml, hown, ht⟩ (m6_takeNamed l dC dI H.size rd F3 sa K4 K5 K6 K7 ) (cwV 1 ht (gdV k_4_204 k_4_201 k_4_203 ks_8 k_1_8) rfl rfl rfl (by decide +kernel) ⟨Nat.le_of_ble_eq_true rfl, Nat.le_of_ble_eq_true rfl⟩) ⟨pcw_blind, va_recv hK hP (ci := 6) (q0 := 0) rfl rfl, pcw_at hP hD hK [0] [] (by decide) rfl rfl rfl⟩ rfl rfl hl.1 rfl (lv_room (Nat.le_of_ble_eq_true rfl)) dX6_readAsk_14 ⟨Nat.le_of_ble_eq_true rfl, Nat.le_of_ble_eq_true rfl⟩) hP hD hK hS hA [0] [] rfl rfl (by decide) (by decide) (fun r11 u H locs w12 hK hP hD hS => ?_)
  obtain ⟨F13, rfl⟩ : ∃ z, z = u := ⟨_, rfl⟩
  have hK : va_K (dC, dI) cls [(cT, .byte)] s := hK
  have hP : va_P (dC, dI) cls [(rd, .inr (6, F13))] H := hP
  have hD : va_D A [(rd, .inr (6, F13))] := hD
  obtain ⟨w12, K14, K15, K16⟩ := w12
  obtain rfl : r11 = 0 := w12
  refine lv_if_ne (tgt := 21) hx hb dX6_readAsk_17 (by decide) (fun c0 => absurd c0 (by decide)) (fun _ => ?_)
  exact W.vret hx hb hr (fun t ht9 hW => ⟨⟨(F13), rfl, ⟨trivial, K14, K15, K16⟩, by rw [ht9]; exact hP.sub [0] rfl, va_K.moved hW.alike (hK.sub [] rfl), hD.sub [0] (by decide) rfl⟩, hS.F ht9⟩) hS.2.2 dX6_readAsk_20
set_option maxHeartbeats 4000000 in
set_option maxRecDepth 100000 in
theorem x_ask (l : Launch) (dC : Nat → ClassId) (dI : Nat → Nat → Nat) (sz : Nat) (q : Nat) (fs : List Value) (tp : Nat) (rd : Nat) (as : Nat) (sp : Nat) (lp : Nat) (wr : Nat) (ma : Nat) (dk : Nat) (gr : List Value) (nd : Nat) (gn : List Value) (cT : ClassId) (ft : Nat → Int32) (gp : List Value) (sa : Nat) (L_fs : fs.length = 18) (K0_fs : fs[0]? = some (.ref tp)) (K1_fs : fs[1]? = some (.int 0)) (K2_fs : fs[2]? = some (.int 0)) (K8_fs : fs[8]? = some (.ref rd)) (K9_fs : fs[9]? = some (.ref as)) (K10_fs : fs[10]? = some (.ref sp)) (K11_fs : fs[11]? = some (.int 0)) (K14_fs : fs[14]? = some (.ref lp)) (K15_fs : fs[15]? = some (.ref wr)) (K16_fs : fs[16]? = some (.ref ma)) (K17_fs : fs[17]? = some (.ref dk)) (L_gr : gr.length = 20) (K11_gr : gr[11]? = some (.ref nd)) (L_gn : gn.length = 4) (L_gp : gp.length = 16) : Met l yX11_ask (Cond.code yX11_ask cX11_ask 2 (some .int) :: tb) ({ frames := 3, cells := 0, slots := 0, locals := 72 }) (pcx [.inr (.inl ("FinderHouse$Reader", 209, "find", sa))] [.ref q] (dC, dI) [(q, .inr (11, fs)), (rd, .inr (6, gr)), (nd, .inr (9, gn)), (tp, .inl (cT, 2000, .inl ft)), (sp, .inr (1, gp))] [(cT, .byte)] sz) (va_Qi (fun (r : Int32) => (fun (_ : Unit) => r = -11)) (bw (dC, dI) (va_A [(q, .inr (11, fs)), (rd, .inr (6, gr)), (nd, .inr (9, gn)), (tp, .inl (cT, 2000, .inl ft)), (sp, .inr (1, gp))] sz) (fun (_ : Unit) => []) (fun (_ : Unit) => [])) (va_A [(q, .inr (11, fs)), (rd, .inr (6, gr)), (nd, .inr (9, gn)), (tp, .inl (cT, 2000, .inl ft)), (sp, .inr (1, gp))] sz)) 0 0 (va_A [(q, .inr (11, fs)), (rd, .inr (6, gr)), (nd, .inr (9, gn)), (tp, .inl (cT, 2000, .inl ft)), (sp, .inr (1, gp))] sz) := by
  refine Met.ofW (cc := cX11_ask) (maxL := 2) (ret := (some .int)) (by decide) rfl ?_
  intro p e s m args below meth c s₁ B hml hv
  obtain ⟨rfl, hsz, hP, hK, hD0, hE⟩ := hv
  have hx := B.exec
  have hb := B.bytes
  have hr := B.returns
  have hts := atoms_spec (ws := Cond.code yX11_ask cX11_ask 2 (some .int) :: tb) B.pre
  have ht : ∀ w ∈ tb, w.before _ s = true := fun w h => hts w (List.mem_cons_of_mem _ h)
  have hown : s.vm.findClass RX11 = some m.cls := findClass_of_methodNamed B.named
  have hlocks := B.notSynchronized
  subst hsz
  have hD := hD0.self (sz := s.heap.size)
  generalize hAe : va_A [(q, .inr (11, fs)), (rd, .inr (6, gr)), (nd, .inr (9, gn)), (tp, .inl (cT, 2000, .inl ft)), (sp, .inr (1, gp))] s.heap.size = A at hD hE ⊢
  have hA : ∀ q : Nat, s.heap.size ≤ q → A q := fun q h => by rw [← hAe]; exact Or.inr h
  have hS : va_S A s.heap s.heap [] := va_S.rf
  have hl := lv_entry ([.ref q]) (n := 2) (Nat.le_of_ble_eq_true rfl)
  rw [lg_entry_eq]
  generalize (lg_sl ([.ref q]) ++ List.replicate (2 - (lg_sl ([.ref q])).length) Slot.unset).toArray = ls at hl ⊢
  have hl : lv_has ls 2 [(0, .ref q)] := hl
  have hP : va_P (dC, dI) cls [(q, .inr (11, fs)), (rd, .inr (6, gr)), (nd, .inr (9, gn)), (tp, .inl (cT, 2000, .inl ft)), (sp, .inr (1, gp))] s.heap := hP
  refine lv_aload_n hx hb dX11_ask_0 rfl (lv_at hl 0 rfl) ?_
  refine va_get (D := (dC, dI)) (ci := 11) (v := .int 0) (C := RX11) (T := TX11) (N := 18) hx hb ht uX11 hown hK hP 0 rfl rfl 2 (by decide) (ht _ k_4_93) (fun _ h9 => h9) K2_fs dX11_ask_1 ?_
  refine lv_if_eq (tgt := 10) hx hb dX11_ask_4 (by decide) (fun _ => ?_) (fun c0 => absurd c0 (by decide))
  refine lv_aload_n hx hb dX11_ask_10 rfl (lv_at hl 0 rfl) ?_
  refine va_get (D := (dC, dI)) (ci := 11) (v := .ref rd) (C := RX11) (T := TX11) (N := 18) hx hb ht uX11 hown hK hP 0 rfl rfl 8 (by decide) (ht _ k_4_99) (fun _ h9 => h9) K8_fs dX11_ask_11 ?_
  refine lv_aload_n hx hb dX11_ask_14 rfl (lv_at hl 0 rfl) ?_
  refine va_get (D := (dC, dI)) (ci := 11) (v := .ref tp) (C := RX11) (T := TX11) (N := 18) hx hb ht uX11 hown hK hP 0 rfl rfl 0 (by decide) (ht _ k_4_91) (fun _ h9 => h9) K0_fs dX11_ask_15 ?_
  refine lv_aload_n hx hb dX11_ask_18 rfl (lv_at hl 0 rfl) ?_
  refine ca_i (wr := [(rd, .inr (6, gr)), (nd, .inr (9, gn)), (tp, .inl (cT, 2000, .inl ft)), (sp, .inr (1, gp))]) (va_runV (As := []) (rest := [.ref tp, .ref rd]) ⟨hx, hb, hml, hown, ht⟩ (x_takeTape l dC dI s.heap.size q fs tp rd as sp lp wr ma dk L_fs K0_fs K1_fs K2_fs K8_fs K9_fs K10_fs K11_fs K14_fs K15_fs K16_fs K17_fs ) (cwV 0 ht (gdV k_4_165 k_4_162 k_4_164 ks_1 k_1_1) rfl rfl rfl (by decide +kernel) ⟨Nat.le_of_ble_eq_true rfl, Nat.le_of_ble_eq_true rfl⟩) ⟨pcw_blind, va_recv hK hP (ci := 11) (q0 := 0) rfl rfl, pcw_at hP hD hK [0] [] (by decide) rfl rfl rfl⟩ rfl rfl hl.1 rfl (lv_room (Nat.le_of_ble_eq_true rfl)) dX11_ask_19 ⟨Nat.le_of_ble_eq_true rfl, Nat.le_of_ble_eq_true rfl⟩) hP hD hK hS hA [0] [1, 2, 3, 4] rfl rfl (by decide) (by decide) (fun r1 u H locs w2 hK hP hD hS => ?_)
  obtain ⟨F3, rfl⟩ : ∃ z, z = u := ⟨_, rfl⟩
  have hK : va_K (dC, dI) cls [(cT, .byte)] s := hK
  have hP : va_P (dC, dI) cls [(rd, .inr (6, gr)), (nd, .inr (9, gn)), (tp, .inl (cT, 2000, .inl ft)), (sp, .inr (1, gp)), (q, .inr (11, F3))] H := hP
  have hD : va_D A [(rd, .inr (6, gr)), (nd, .inr (9, gn)), (tp, .inl (cT, 2000, .inl ft)), (sp, .inr (1, gp)), (q, .inr (11, F3))] := hD
  obtain ⟨w2, K4, K5, K6, K7, K8, K9, K10, K11, K12, K13, K14, K15⟩ := w2
  obtain rfl : r1 = 0 := w2
  refine lv_aload_n hx hb dX11_ask_22 rfl (lv_at hl 0 rfl) ?_
  refine va_get (D := (dC, dI)) (ci := 11) (v := .ref sp) (C := RX11) (T := TX11) (N := 18) hx hb ht uX11 hown hK hP 4 rfl rfl 10 (by decide) (ht _ k_4_101) (fun _ h9 => h9) K10 dX11_ask_23 ?_
  refine ca_v (wr := [(q, .inr (11, F3))]) (va_runV (As := [.ref tp, .int 0, .ref sp]) (rest := []) ⟨hx, hb, hml, hown, ht⟩ (m6_readAsk l dC dI H.size rd gr nd gn tp cT ft sp gp sa L_gr K11_gr L_gn L_gp ) (cwV 3 ht (gdV k_4_169 k_4_166 k_4_167 k_4_168 k_1_8) rfl rfl rfl (by decide +kernel) ⟨Nat.le_of_ble_eq_true rfl, Nat.le_of_ble_eq_true rfl⟩) ⟨pcx_blind, va_recv hK hP (ci := 6) (q0 := 0) rfl rfl, pcx_at hP hD hK hS hA hE [0, 1, 2, 3] [0] [0] (by decide) rfl rfl rfl rfl⟩ rfl rfl hl.1 rfl (lv_room (Nat.le_of_ble_eq_true rfl)) dX11_ask_26 ⟨Nat.le_of_ble_eq_true rfl, Nat.le_of_ble_eq_true rfl⟩) hP hD hK hS hA [0, 1, 2, 3] [4] rfl rfl (by decide) (by decide) (fun u H locs w17 hK hP hD hS => ?_)
  obtain ⟨F18, rfl⟩ : ∃ z, z = u := ⟨_, rfl⟩
  have hK : va_K (dC, dI) cls [(cT, .byte)] s := hK
  have hP : va_P (dC, dI) cls [(q, .inr (11, F3)), (rd, .inr (6, F18))] H := hP
  have hD : va_D A [(q, .inr (11, F3)), (rd, .inr (6, F18))] := hD
  obtain ⟨w17, K19, K20, K21⟩ := w17
  refine lv_aload_n hx hb dX11_ask_29 rfl (lv_at hl 0 rfl) ?_
  refine va_get (D := (dC, dI)) (ci := 11) (v := .ref rd) (C := RX11) (T := TX11) (N := 18) hx hb ht uX11 hown hK hP 0 rfl rfl 8 (by decide) (ht _ k_4_99) (fun _ h9 => h9) K8 dX11_ask_30 ?_
  refine va_get (D := (dC, dI)) (ci := 6) (v := .int 1) (C := RX6) (T := TX6) (N := 20) hx hb ht uX6 hown hK hP 1 rfl rfl 9 (by decide) (ht _ k_1_222) (fun _ h9 => h9) K20 dX11_ask_33 ?_
  refine lv_if_eq (tgt := 44) hx hb dX11_ask_36 (by decide) (fun c0 => absurd c0 (by decide)) (fun _ => ?_)
  refine lv_aload_n hx hb dX11_ask_39 rfl (lv_at hl 0 rfl) ?_
  refine ca_i (wr := []) (va_runV (As := []) (rest := []) ⟨hx, hb, hml, hown, ht⟩ (x_refuseFault l dC dI H.size q F3 rd F18 K4 K8 K19 K20 K21 ) (cwV 0 ht (gdV k_5_121 k_5_118 k_5_120 ks_32 k_1_1) rfl rfl rfl (by decide +kernel) ⟨Nat.le_of_ble_eq_true rfl, Nat.le_of_ble_eq_true rfl⟩) ⟨pcw_blind, va_recv hK hP (ci := 11) (q0 := 0) rfl rfl, pcw_at hP hD hK [0, 1] [] (by decide) rfl rfl rfl⟩ rfl rfl hl.1 rfl (lv_room (Nat.le_of_ble_eq_true rfl)) dX11_ask_40 ⟨Nat.le_of_ble_eq_true rfl, Nat.le_of_ble_eq_true rfl⟩) hP hD hK hS hA [0, 1] [] rfl rfl (by decide) (by decide) (fun r22 u H locs w23 hK hP hD hS => ?_)
  have hK : va_K (dC, dI) cls [(cT, .byte)] s := hK
  have hP : va_P (dC, dI) cls [] H := hP
  have hD : va_D A [] := hD
  obtain rfl : r22 = (-11) := w23
  exact W.iret (v := (-11)) hx hb hr (fun t ht9 hW => ⟨⟨(-11), (), rfl, rfl, by rw [ht9]; exact hP.sub [] rfl, va_K.moved hW.alike (hK.sub [] rfl), hD.sub [] (by decide) rfl⟩, hS.F ht9⟩) hS.2.2 dX11_ask_43
set_option maxHeartbeats 4000000 in
set_option maxRecDepth 100000 in
theorem m6_readAct (l : Launch) (dC : Nat → ClassId) (dI : Nat → Nat → Nat) (sz : Nat) (rd : Nat) (gr : List Value) (nd : Nat) (gn : List Value) (tp : Nat) (cT : ClassId) (ft : Nat → Int32) (sa : Nat) (L_gr : gr.length = 20) (K11_gr : gr[11]? = some (.ref nd)) (L_gn : gn.length = 4) : Met l yX6_readAct (Cond.code yX6_readAct cX6_readAct 5 none :: tb) ({ frames := 2, cells := 0, slots := 0, locals := 45 }) (pcx [.inr (.inl ("FinderHouse$Reader", 271, "act", sa))] [.ref rd, .ref tp, .int 0, .int 0] (dC, dI) [(rd, .inr (6, gr)), (nd, .inr (9, gn)), (tp, .inl (cT, 2000, .inl ft))] [(cT, .byte)] sz) (va_Qv (fun (gr1 : List Value) => (True) ∧ (gr1.length = 20) ∧ (gr1[9]? = some (.int 1)) ∧ (gr1[10]? = some (.int 0))) (bw (dC, dI) (va_A [(rd, .inr (6, gr)), (nd, .inr (9, gn)), (tp, .inl (cT, 2000, .inl ft))] sz) (fun (gr1 : List Value) => [(rd, .inr (6, gr1))]) (fun (gr1 : List Value) => [])) (va_A [(rd, .inr (6, gr)), (nd, .inr (9, gn)), (tp, .inl (cT, 2000, .inl ft))] sz)) 0 0 (va_A [(rd, .inr (6, gr)), (nd, .inr (9, gn)), (tp, .inl (cT, 2000, .inl ft))] sz) := by
  refine Met.ofW (cc := cX6_readAct) (maxL := 5) (ret := none) (by decide) rfl ?_
  intro p e s m args below meth c s₁ B hml hv
  obtain ⟨rfl, hsz, hP, hK, hD0, hE⟩ := hv
  have hx := B.exec
  have hb := B.bytes
  have hr := B.returns
  have hts := atoms_spec (ws := Cond.code yX6_readAct cX6_readAct 5 none :: tb) B.pre
  have ht : ∀ w ∈ tb, w.before _ s = true := fun w h => hts w (List.mem_cons_of_mem _ h)
  have hown : s.vm.findClass RX6 = some m.cls := findClass_of_methodNamed B.named
  have hlocks := B.notSynchronized
  subst hsz
  have hD := hD0.self (sz := s.heap.size)
  generalize hAe : va_A [(rd, .inr (6, gr)), (nd, .inr (9, gn)), (tp, .inl (cT, 2000, .inl ft))] s.heap.size = A at hD hE ⊢
  have hA : ∀ q : Nat, s.heap.size ≤ q → A q := fun q h => by rw [← hAe]; exact Or.inr h
  have hS : va_S A s.heap s.heap [] := va_S.rf
  have hl := lv_entry ([.ref rd, .ref tp, .int 0, .int 0]) (n := 5) (Nat.le_of_ble_eq_true rfl)
  rw [lg_entry_eq]
  generalize (lg_sl ([.ref rd, .ref tp, .int 0, .int 0]) ++ List.replicate (5 - (lg_sl ([.ref rd, .ref tp, .int 0, .int 0])).length) Slot.unset).toArray = ls at hl ⊢
  have hl : lv_has ls 5 [(0, .ref rd), (1, .ref tp), (2, .int 0), (3, .int 0)] := hl
  have hP : va_P (dC, dI) cls [(rd, .inr (6, gr)), (nd, .inr (9, gn)), (tp, .inl (cT, 2000, .inl ft))] s.heap := hP
  refine lv_aload_n hx hb dX6_readAct_0 rfl (lv_at hl 0 rfl) ?_
  refine lv_aload_n hx hb dX6_readAct_1 rfl (lv_at hl 1 rfl) ?_
  refine lv_iload_n hx hb dX6_readAct_2 rfl (lv_at hl 2 rfl) ?_
  refine lv_iload_n hx hb dX6_readAct_3 rfl (lv_at hl 3 rfl) ?_
  refine ca_v (wr := []) (va_runV (As := [.ref tp, .int 0, .int 0]) (rest := []) ⟨hx, hb, hml, hown, ht⟩ (m6_begin l dC dI s.heap.size rd gr nd gn tp cT ft L_gr K11_gr L_gn ) (cwV 3 ht (gdV k_4_173 k_4_170 k_4_172 ks_2 k_1_8) rfl rfl rfl (by decide +kernel) ⟨Nat.le_of_ble_eq_true rfl, Nat.le_of_ble_eq_true rfl⟩) ⟨pcw_blind, va_recv hK hP (ci := 6) (q0 := 0) rfl rfl, pcw_at hP hD hK [0, 1, 2] [0] (by decide) rfl rfl rfl⟩ rfl rfl hl.1 rfl (lv_room (Nat.le_of_ble_eq_true rfl)) dX6_readAct_4 ⟨Nat.le_of_ble_eq_true rfl, Nat.le_of_ble_eq_true rfl⟩) hP hD hK hS hA [0, 1, 2] [] rfl rfl (by decide) (by decide) (fun u H locs w2 hK hP hD hS => ?_)
  obtain ⟨F3, rfl⟩ : ∃ z, z = u := ⟨_, rfl⟩
  have hK : va_K (dC, dI) cls [(cT, .byte)] s := hK
  have hP : va_P (dC, dI) cls [(rd, .inr (6, F3))] H := hP
  have hD : va_D A [(rd, .inr (6, F3))] := hD
  obtain ⟨w2, K4, K5, K6, K7, K8⟩ := w2
  refine lv_aload_n hx hb dX6_readAct_7 rfl (lv_at hl 0 rfl) ?_
  refine va_ldcSW hx hb hown (xf_r hE 0 rfl) dX6_readAct_8 ?_
  refine ca_i (wr := []) (va_runV (As := [.ref sa]) (rest := []) ⟨hx, hb, hml, hown, ht⟩ (m6_takeNamed l dC dI H.size rd F3 sa K4 K5 K6 K7 ) (cwV 1 ht (gdV k_4_204 k_4_201 k_4_203 ks_8 k_1_8) rfl rfl rfl (by decide +kernel) ⟨Nat.le_of_ble_eq_true rfl, Nat.le_of_ble_eq_true rfl⟩) ⟨pcw_blind, va_recv hK hP (ci := 6) (q0 := 0) rfl rfl, pcw_at hP hD hK [0] [] (by decide) rfl rfl rfl⟩ rfl rfl hl.1 rfl (lv_room (Nat.le_of_ble_eq_true rfl)) dX6_readAct_11 ⟨Nat.le_of_ble_eq_true rfl, Nat.le_of_ble_eq_true rfl⟩) hP hD hK hS hA [0] [] rfl rfl (by decide) (by decide) (fun r9 u H locs w10 hK hP hD hS => ?_)
  obtain ⟨F11, rfl⟩ : ∃ z, z = u := ⟨_, rfl⟩
  have hK : va_K (dC, dI) cls [(cT, .byte)] s := hK
  have hP : va_P (dC, dI) cls [(rd, .inr (6, F11))] H := hP
  have hD : va_D A [(rd, .inr (6, F11))] := hD
  obtain ⟨w10, K12, K13, K14⟩ := w10
  obtain rfl : r9 = 0 := w10
  refine lv_if_ne (tgt := 18) hx hb dX6_readAct_14 (by decide) (fun c0 => absurd c0 (by decide)) (fun _ => ?_)
  exact W.vret hx hb hr (fun t ht9 hW => ⟨⟨(F11), rfl, ⟨trivial, K12, K13, K14⟩, by rw [ht9]; exact hP.sub [0] rfl, va_K.moved hW.alike (hK.sub [] rfl), hD.sub [0] (by decide) rfl⟩, hS.F ht9⟩) hS.2.2 dX6_readAct_17
set_option maxHeartbeats 4000000 in
set_option maxRecDepth 100000 in
theorem x_makeAct (l : Launch) (dC : Nat → ClassId) (dI : Nat → Nat → Nat) (sz : Nat) (q : Nat) (fs : List Value) (rd : Nat) (gr : List Value) (nd : Nat) (gn : List Value) (tp : Nat) (cT : ClassId) (ft : Nat → Int32) (sa : Nat) (L_fs : fs.length = 18) (K8_fs : fs[8]? = some (.ref rd)) (L_gr : gr.length = 20) (K11_gr : gr[11]? = some (.ref nd)) (L_gn : gn.length = 4) : Met l yX11_makeAct (Cond.code yX11_makeAct cX11_makeAct 5 (some .int) :: tb) ({ frames := 3, cells := 0, slots := 0, locals := 69 }) (pcx [.inr (.inl ("FinderHouse$Reader", 271, "act", sa))] [.ref q, .ref tp, .int 0, .int 0, .int 1] (dC, dI) [(q, .inr (11, fs)), (rd, .inr (6, gr)), (nd, .inr (9, gn)), (tp, .inl (cT, 2000, .inl ft))] [(cT, .byte)] sz) (va_Qi (fun (r : Int32) => (fun (gr1 : List Value) => (r = -11) ∧ (gr1.length = 20) ∧ (gr1[9]? = some (.int 1)) ∧ (gr1[10]? = some (.int 0)))) (bw (dC, dI) (va_A [(q, .inr (11, fs)), (rd, .inr (6, gr)), (nd, .inr (9, gn)), (tp, .inl (cT, 2000, .inl ft))] sz) (fun (gr1 : List Value) => [(q, .inr (11, fs)), (rd, .inr (6, gr1))]) (fun (gr1 : List Value) => [])) (va_A [(q, .inr (11, fs)), (rd, .inr (6, gr)), (nd, .inr (9, gn)), (tp, .inl (cT, 2000, .inl ft))] sz)) 0 0 (va_A [(q, .inr (11, fs)), (rd, .inr (6, gr)), (nd, .inr (9, gn)), (tp, .inl (cT, 2000, .inl ft))] sz) := by
  refine Met.ofW (cc := cX11_makeAct) (maxL := 5) (ret := (some .int)) (by decide) rfl ?_
  intro p e s m args below meth c s₁ B hml hv
  obtain ⟨rfl, hsz, hP, hK, hD0, hE⟩ := hv
  have hx := B.exec
  have hb := B.bytes
  have hr := B.returns
  have hts := atoms_spec (ws := Cond.code yX11_makeAct cX11_makeAct 5 (some .int) :: tb) B.pre
  have ht : ∀ w ∈ tb, w.before _ s = true := fun w h => hts w (List.mem_cons_of_mem _ h)
  have hown : s.vm.findClass RX11 = some m.cls := findClass_of_methodNamed B.named
  have hlocks := B.notSynchronized
  subst hsz
  have hD := hD0.self (sz := s.heap.size)
  generalize hAe : va_A [(q, .inr (11, fs)), (rd, .inr (6, gr)), (nd, .inr (9, gn)), (tp, .inl (cT, 2000, .inl ft))] s.heap.size = A at hD hE ⊢
  have hA : ∀ q : Nat, s.heap.size ≤ q → A q := fun q h => by rw [← hAe]; exact Or.inr h
  have hS : va_S A s.heap s.heap [] := va_S.rf
  have hl := lv_entry ([.ref q, .ref tp, .int 0, .int 0, .int 1]) (n := 5) (Nat.le_of_ble_eq_true rfl)
  rw [lg_entry_eq]
  generalize (lg_sl ([.ref q, .ref tp, .int 0, .int 0, .int 1]) ++ List.replicate (5 - (lg_sl ([.ref q, .ref tp, .int 0, .int 0, .int 1])).length) Slot.unset).toArray = ls at hl ⊢
  have hl : lv_has ls 5 [(0, .ref q), (1, .ref tp), (2, .int 0), (3, .int 0), (4, .int 1)] := hl
  have hP : va_P (dC, dI) cls [(q, .inr (11, fs)), (rd, .inr (6, gr)), (nd, .inr (9, gn)), (tp, .inl (cT, 2000, .inl ft))] s.heap := hP
  refine lv_aload_n hx hb dX11_makeAct_0 rfl (lv_at hl 0 rfl) ?_
  refine va_get (D := (dC, dI)) (ci := 11) (v := .ref rd) (C := RX11) (T := TX11) (N := 18) hx hb ht uX11 hown hK hP 0 rfl rfl 8 (by decide) (ht _ k_4_99) (fun _ h9 => h9) K8_fs dX11_makeAct_1 ?_
  refine lv_aload_n hx hb dX11_makeAct_4 rfl (lv_at hl 1 rfl) ?_
  refine lv_iload_n hx hb dX11_makeAct_5 rfl (lv_at hl 2 rfl) ?_
  refine lv_iload_n hx hb dX11_makeAct_6 rfl (lv_at hl 3 rfl) ?_
  refine ca_v (wr := [(q, .inr (11, fs))]) (va_runV (As := [.ref tp, .int 0, .int 0]) (rest := []) ⟨hx, hb, hml, hown, ht⟩ (m6_readAct l dC dI s.heap.size rd gr nd gn tp cT ft sa L_gr K11_gr L_gn ) (cwV 3 ht (gdV k_5_153 k_5_150 k_5_151 k_5_152 k_1_8) rfl rfl rfl (by decide +kernel) ⟨Nat.le_of_ble_eq_true rfl, Nat.le_of_ble_eq_true rfl⟩) ⟨pcx_blind, va_recv hK hP (ci := 6) (q0 := 1) rfl rfl, pcx_at hP hD hK hS hA hE [1, 2, 3] [0] [0] (by decide) rfl rfl rfl rfl⟩ rfl rfl hl.1 rfl (lv_room (Nat.le_of_ble_eq_true rfl)) dX11_makeAct_7 ⟨Nat.le_of_ble_eq_true rfl, Nat.le_of_ble_eq_true rfl⟩) hP hD hK hS hA [1, 2, 3] [0] rfl rfl (by decide) (by decide) (fun u H locs w2 hK hP hD hS => ?_)
  obtain ⟨F3, rfl⟩ : ∃ z, z = u := ⟨_, rfl⟩
  have hK : va_K (dC, dI) cls [(cT, .byte)] s := hK
  have hP : va_P (dC, dI) cls [(q, .inr (11, fs)), (rd, .inr (6, F3))] H := hP
  have hD : va_D A [(q, .inr (11, fs)), (rd, .inr (6, F3))] := hD
  obtain ⟨w2, K4, K5, K6⟩ := w2
  refine lv_aload_n hx hb dX11_makeAct_10 rfl (lv_at hl 0 rfl) ?_
  refine va_get (D := (dC, dI)) (ci := 11) (v := .ref rd) (C := RX11) (T := TX11) (N := 18) hx hb ht uX11 hown hK hP 0 rfl rfl 8 (by decide) (ht _ k_4_99) (fun _ h9 => h9) K8_fs dX11_makeAct_11 ?_
  refine va_get (D := (dC, dI)) (ci := 6) (v := .int 1) (C := RX6) (T := TX6) (N := 20) hx hb ht uX6 hown hK hP 1 rfl rfl 9 (by decide) (ht _ k_1_222) (fun _ h9 => h9) K5 dX11_makeAct_14 ?_
  refine lv_if_eq (tgt := 31) hx hb dX11_makeAct_17 (by decide) (fun c0 => absurd c0 (by decide)) (fun _ => ?_)
  refine lv_bipush (v := (-10)) hx hb dX11_makeAct_20 (by decide) ?_
  refine lv_aload_n hx hb dX11_makeAct_22 rfl (lv_at hl 0 rfl) ?_
  refine va_get (D := (dC, dI)) (ci := 11) (v := .ref rd) (C := RX11) (T := TX11) (N := 18) hx hb ht uX11 hown hK hP 0 rfl rfl 8 (by decide) (ht _ k_4_99) (fun _ h9 => h9) K8_fs dX11_makeAct_23 ?_
  refine va_get (D := (dC, dI)) (ci := 6) (v := .int 1) (C := RX6) (T := TX6) (N := 20) hx hb ht uX6 hown hK hP 1 rfl rfl 9 (by decide) (ht _ k_1_222) (fun _ h9 => h9) K5 dX11_makeAct_26 ?_
  refine lv_isub hx hb dX11_makeAct_29 ?_
  refine tk_i (y := (-11)) (by decide) ?_
  exact W.iret (v := (-11)) hx hb hr (fun t ht9 hW => ⟨⟨(-11), (F3), rfl, ⟨rfl, K4, K5, K6⟩, by rw [ht9]; exact hP.sub [0, 1] rfl, va_K.moved hW.alike (hK.sub [] rfl), hD.sub [0, 1] (by decide) rfl⟩, hS.F ht9⟩) hS.2.2 dX11_makeAct_30
set_option maxHeartbeats 4000000 in
set_option maxRecDepth 100000 in
theorem x_act (l : Launch) (dC : Nat → ClassId) (dI : Nat → Nat → Nat) (sz : Nat) (q : Nat) (fs : List Value) (tp : Nat) (rd : Nat) (as : Nat) (sp : Nat) (lp : Nat) (wr : Nat) (ma : Nat) (dk : Nat) (gr : List Value) (nd : Nat) (gn : List Value) (cT : ClassId) (ft : Nat → Int32) (sa : Nat) (L_fs : fs.length = 18) (K0_fs : fs[0]? = some (.ref tp)) (K1_fs : fs[1]? = some (.int 0)) (K2_fs : fs[2]? = some (.int 0)) (K8_fs : fs[8]? = some (.ref rd)) (K9_fs : fs[9]? = some (.ref as)) (K10_fs : fs[10]? = some (.ref sp)) (K11_fs : fs[11]? = some (.int 0)) (K14_fs : fs[14]? = some (.ref lp)) (K15_fs : fs[15]? = some (.ref wr)) (K16_fs : fs[16]? = some (.ref ma)) (K17_fs : fs[17]? = some (.ref dk)) (L_gr : gr.length = 20) (K11_gr : gr[11]? = some (.ref nd)) (L_gn : gn.length = 4) : Met l yX11_act (Cond.code yX11_act cX11_act 2 (some .int) :: tb) ({ frames := 4, cells := 0, slots := 0, locals := 93 }) (pcx [.inr (.inl ("FinderHouse$Reader", 271, "act", sa))] [.ref q] (dC, dI) [(q, .inr (11, fs)), (rd, .inr (6, gr)), (nd, .inr (9, gn)), (tp, .inl (cT, 2000, .inl ft))] [(cT, .byte)] sz) (va_Qi (fun (r : Int32) => (fun (_ : Unit) => r = -11)) (bw (dC, dI) (va_A [(q, .inr (11, fs)), (rd, .inr (6, gr)), (nd, .inr (9, gn)), (tp, .inl (cT, 2000, .inl ft))] sz) (fun (_ : Unit) => []) (fun (_ : Unit) => [])) (va_A [(q, .inr (11, fs)), (rd, .inr (6, gr)), (nd, .inr (9, gn)), (tp, .inl (cT, 2000, .inl ft))] sz)) 0 0 (va_A [(q, .inr (11, fs)), (rd, .inr (6, gr)), (nd, .inr (9, gn)), (tp, .inl (cT, 2000, .inl ft))] sz) := by
  refine Met.ofW (cc := cX11_act) (maxL := 2) (ret := (some .int)) (by decide) rfl ?_
  intro p e s m args below meth c s₁ B hml hv
  obtain ⟨rfl, hsz, hP, hK, hD0, hE⟩ := hv
  have hx := B.exec
  have hb := B.bytes
  have hr := B.returns
  have hts := atoms_spec (ws := Cond.code yX11_act cX11_act 2 (some .int) :: tb) B.pre
  have ht : ∀ w ∈ tb, w.before _ s = true := fun w h => hts w (List.mem_cons_of_mem _ h)
  have hown : s.vm.findClass RX11 = some m.cls := findClass_of_methodNamed B.named
  have hlocks := B.notSynchronized
  subst hsz
  have hD := hD0.self (sz := s.heap.size)
  generalize hAe : va_A [(q, .inr (11, fs)), (rd, .inr (6, gr)), (nd, .inr (9, gn)), (tp, .inl (cT, 2000, .inl ft))] s.heap.size = A at hD hE ⊢
  have hA : ∀ q : Nat, s.heap.size ≤ q → A q := fun q h => by rw [← hAe]; exact Or.inr h
  have hS : va_S A s.heap s.heap [] := va_S.rf
  have hl := lv_entry ([.ref q]) (n := 2) (Nat.le_of_ble_eq_true rfl)
  rw [lg_entry_eq]
  generalize (lg_sl ([.ref q]) ++ List.replicate (2 - (lg_sl ([.ref q])).length) Slot.unset).toArray = ls at hl ⊢
  have hl : lv_has ls 2 [(0, .ref q)] := hl
  have hP : va_P (dC, dI) cls [(q, .inr (11, fs)), (rd, .inr (6, gr)), (nd, .inr (9, gn)), (tp, .inl (cT, 2000, .inl ft))] s.heap := hP
  refine lv_aload_n hx hb dX11_act_0 rfl (lv_at hl 0 rfl) ?_
  refine va_get (D := (dC, dI)) (ci := 11) (v := .int 0) (C := RX11) (T := TX11) (N := 18) hx hb ht uX11 hown hK hP 0 rfl rfl 2 (by decide) (ht _ k_4_93) (fun _ h9 => h9) K2_fs dX11_act_1 ?_
  refine lv_if_eq (tgt := 10) hx hb dX11_act_4 (by decide) (fun _ => ?_) (fun c0 => absurd c0 (by decide))
  refine lv_aload_n hx hb dX11_act_10 rfl (lv_at hl 0 rfl) ?_
  refine lv_aload_n hx hb dX11_act_11 rfl (lv_at hl 0 rfl) ?_
  refine va_get (D := (dC, dI)) (ci := 11) (v := .ref tp) (C := RX11) (T := TX11) (N := 18) hx hb ht uX11 hown hK hP 0 rfl rfl 0 (by decide) (ht _ k_4_91) (fun _ h9 => h9) K0_fs dX11_act_12 ?_
  refine lv_iconst (v := 0) hx hb dX11_act_15 (by decide) ?_
  refine lv_aload_n hx hb dX11_act_16 rfl (lv_at hl 0 rfl) ?_
  refine ca_i (wr := [(rd, .inr (6, gr)), (nd, .inr (9, gn)), (tp, .inl (cT, 2000, .inl ft))]) (va_runV (As := []) (rest := [.int 0, .ref tp, .ref q]) ⟨hx, hb, hml, hown, ht⟩ (x_takeTape l dC dI s.heap.size q fs tp rd as sp lp wr ma dk L_fs K0_fs K1_fs K2_fs K8_fs K9_fs K10_fs K11_fs K14_fs K15_fs K16_fs K17_fs ) (cwV 0 ht (gdV k_4_165 k_4_162 k_4_164 ks_1 k_1_1) rfl rfl rfl (by decide +kernel) ⟨Nat.le_of_ble_eq_true rfl, Nat.le_of_ble_eq_true rfl⟩) ⟨pcw_blind, va_recv hK hP (ci := 11) (q0 := 0) rfl rfl, pcw_at hP hD hK [0] [] (by decide) rfl rfl rfl⟩ rfl rfl hl.1 rfl (lv_room (Nat.le_of_ble_eq_true rfl)) dX11_act_17 ⟨Nat.le_of_ble_eq_true rfl, Nat.le_of_ble_eq_true rfl⟩) hP hD hK hS hA [0] [1, 2, 3] rfl rfl (by decide) (by decide) (fun r1 u H locs w2 hK hP hD hS => ?_)
  obtain ⟨F3, rfl⟩ : ∃ z, z = u := ⟨_, rfl⟩
  have hK : va_K (dC, dI) cls [(cT, .byte)] s := hK
  have hP : va_P (dC, dI) cls [(rd, .inr (6, gr)), (nd, .inr (9, gn)), (tp, .inl (cT, 2000, .inl ft)), (q, .inr (11, F3))] H := hP
  have hD : va_D A [(rd, .inr (6, gr)), (nd, .inr (9, gn)), (tp, .inl (cT, 2000, .inl ft)), (q, .inr (11, F3))] := hD
  obtain ⟨w2, K4, K5, K6, K7, K8, K9, K10, K11, K12, K13, K14, K15⟩ := w2
  obtain rfl : r1 = 0 := w2
  refine lv_iconst (v := 1) hx hb dX11_act_20 (by decide) ?_
  refine ca_i (wr := []) (va_runV (As := [.ref tp, .int 0, .int 0, .int 1]) (rest := []) ⟨hx, hb, hml, hown, ht⟩ (x_makeAct l dC dI H.size q F3 rd gr nd gn tp cT ft sa K4 K8 L_gr K11_gr L_gn ) (cwV 4 ht (gdV k_5_149 k_5_146 k_5_148 ks_33 k_1_1) rfl rfl rfl (by decide +kernel) ⟨Nat.le_of_ble_eq_true rfl, Nat.le_of_ble_eq_true rfl⟩) ⟨pcx_blind, va_recv hK hP (ci := 11) (q0 := 3) rfl rfl, pcx_at hP hD hK hS hA hE [3, 0, 1, 2] [0] [0] (by decide) rfl rfl rfl rfl⟩ rfl rfl hl.1 rfl (lv_room (Nat.le_of_ble_eq_true rfl)) dX11_act_21 ⟨Nat.le_of_ble_eq_true rfl, Nat.le_of_ble_eq_true rfl⟩) hP hD hK hS hA [3, 0, 1, 2] [] rfl rfl (by decide) (by decide) (fun r16 u H locs w17 hK hP hD hS => ?_)
  obtain ⟨F18, rfl⟩ : ∃ z, z = u := ⟨_, rfl⟩
  have hK : va_K (dC, dI) cls [(cT, .byte)] s := hK
  have hP : va_P (dC, dI) cls [(q, .inr (11, F3)), (rd, .inr (6, F18))] H := hP
  have hD : va_D A [(q, .inr (11, F3)), (rd, .inr (6, F18))] := hD
  obtain ⟨w17, K19, K20, K21⟩ := w17
  obtain rfl : r16 = (-11) := w17
  refine lv_istore_n (lv' := [(1, .int (-11)), (0, .ref q)]) hx hb dX11_act_24 rfl hl (by decide) rfl (fun ls hl => ?_)
  refine lv_iload_n hx hb dX11_act_25 rfl (lv_at hl 0 rfl) ?_
  refine lv_bipush (v := (-10)) hx hb dX11_act_26 (by decide) ?_
  refine lv_icmp_ge (tgt := 38) hx hb dX11_act_28 (by decide) (fun c0 => absurd c0 (by decide)) (fun _ => ?_)
  refine lv_aload_n hx hb dX11_act_31 rfl (lv_at hl 1 rfl) ?_
  refine ca_i (wr := []) (va_runV (As := []) (rest := []) ⟨hx, hb, hml, hown, ht⟩ (x_refuseFault l dC dI H.size q F3 rd F18 K4 K8 K19 K20 K21 ) (cwV 0 ht (gdV k_5_121 k_5_118 k_5_120 ks_32 k_1_1) rfl rfl rfl (by decide +kernel) ⟨Nat.le_of_ble_eq_true rfl, Nat.le_of_ble_eq_true rfl⟩) ⟨pcw_blind, va_recv hK hP (ci := 11) (q0 := 0) rfl rfl, pcw_at hP hD hK [0, 1] [] (by decide) rfl rfl rfl⟩ rfl rfl hl.1 rfl (lv_room (Nat.le_of_ble_eq_true rfl)) dX11_act_32 ⟨Nat.le_of_ble_eq_true rfl, Nat.le_of_ble_eq_true rfl⟩) hP hD hK hS hA [0, 1] [] rfl rfl (by decide) (by decide) (fun r22 u H locs w23 hK hP hD hS => ?_)
  have hK : va_K (dC, dI) cls [(cT, .byte)] s := hK
  have hP : va_P (dC, dI) cls [] H := hP
  have hD : va_D A [] := hD
  obtain rfl : r22 = (-11) := w23
  refine lv_goto (tgt := 39) hx hb dX11_act_35 (by decide) ?_
  exact W.iret (v := (-11)) hx hb hr (fun t ht9 hW => ⟨⟨(-11), (), rfl, rfl, by rw [ht9]; exact hP.sub [] rfl, va_K.moved hW.alike (hK.sub [] rfl), hD.sub [] (by decide) rfl⟩, hS.F ht9⟩) hS.2.2 dX11_act_39
set_option maxHeartbeats 4000000 in
set_option maxRecDepth 100000 in
theorem m4_beginReading (l : Launch) (dC : Nat → ClassId) (dI : Nat → Nat → Nat) (sz : Nat) (lp : Nat) (gl : List Value) (L_gl : gl.length = 18) : Met l yX4_beginReading (Cond.code yX4_beginReading cX4_beginReading 1 none :: tb) ({ frames := 0, cells := 0, slots := 0, locals := 0 }) (pcw [.ref lp] (dC, dI) [(lp, .inr (4, gl))] [] sz) (va_Qv (fun (_ : Unit) => True) (bw (dC, dI) (va_A [(lp, .inr (4, gl))] sz) (fun (_ : Unit) => []) (fun (_ : Unit) => [])) (va_A [(lp, .inr (4, gl))] sz)) 0 0 (va_A [(lp, .inr (4, gl))] sz) := by
  refine Met.ofW (cc := cX4_beginReading) (maxL := 1) (ret := none) (by decide) rfl ?_
  intro p e s m args below meth c s₁ B hml hv
  obtain ⟨rfl, hsz, hP, hK, hD0⟩ := hv
  have hx := B.exec
  have hb := B.bytes
  have hr := B.returns
  have hts := atoms_spec (ws := Cond.code yX4_beginReading cX4_beginReading 1 none :: tb) B.pre
  have ht : ∀ w ∈ tb, w.before _ s = true := fun w h => hts w (List.mem_cons_of_mem _ h)
  have hown : s.vm.findClass RX4 = some m.cls := findClass_of_methodNamed B.named
  have hlocks := B.notSynchronized
  subst hsz
  have hD := hD0.self (sz := s.heap.size)
  generalize hAe : va_A [(lp, .inr (4, gl))] s.heap.size = A at hD ⊢
  have hA : ∀ q : Nat, s.heap.size ≤ q → A q := fun q h => by rw [← hAe]; exact Or.inr h
  have hS : va_S A s.heap s.heap [] := va_S.rf
  have hl := lv_entry ([.ref lp]) (n := 1) (Nat.le_of_ble_eq_true rfl)
  rw [lg_entry_eq]
  generalize (lg_sl ([.ref lp]) ++ List.replicate (1 - (lg_sl ([.ref lp])).length) Slot.unset).toArray = ls at hl ⊢
  have hl : lv_has ls 1 [(0, .ref lp)] := hl
  have hP : va_P (dC, dI) cls [(lp, .inr (4, gl))] s.heap := hP
  refine lv_aload_n hx hb dX4_beginReading_0 rfl (lv_at hl 0 rfl) ?_
  refine lv_iconst (v := 0) hx hb dX4_beginReading_1 (by decide) ?_
  refine va_put (D := (dC, dI)) (ci := 4) (v := .int 0) (ty := .int) (C := RX4) (T := TX4) (N := 18) hx hb ht uX4 tyX4 tkX4 nmX4 hown hK hP hD hS 0 rfl rfl 5 (by decide) (ht _ k_3_115) (fun _ h9 => h9) rfl (by decide +kernel) rfl rfl (by rw [L_gl]; decide) dX4_beginReading_2 (fun H locs hP hD hS => ?_)
  obtain ⟨F1, eF1⟩ : ∃ g : List Value, g = gl.set 5 (.int 0) := ⟨_, rfl⟩
  rw [← eF1] at hP hD
  have K5_F1 : F1[5]? = some (.int 0) := by rw [eF1]; exact List.getElem?_set_self (by rw [L_gl]; decide)
  have L_F1 : F1.length = 18 := by rw [eF1, List.length_set]; exact L_gl
  have hP : va_P (dC, dI) cls [(lp, .inr (4, F1))] H := hP
  have hD : va_D A [(lp, .inr (4, F1))] := hD
  refine lv_aload_n hx hb dX4_beginReading_5 rfl (lv_at hl 0 rfl) ?_
  refine lv_iconst (v := 0) hx hb dX4_beginReading_6 (by decide) ?_
  refine va_put (D := (dC, dI)) (ci := 4) (v := .int 0) (ty := .int) (C := RX4) (T := TX4) (N := 18) hx hb ht uX4 tyX4 tkX4 nmX4 hown hK hP hD hS 0 rfl rfl 7 (by decide) (ht _ k_3_119) (fun _ h9 => h9) rfl (by decide +kernel) rfl rfl (by rw [L_F1]; decide) dX4_beginReading_7 (fun H locs hP hD hS => ?_)
  obtain ⟨F2, eF2⟩ : ∃ g : List Value, g = F1.set 7 (.int 0) := ⟨_, rfl⟩
  rw [← eF2] at hP hD
  have K5_F2 : F2[5]? = some (.int 0) := by rw [eF2, List.getElem?_set_ne (by decide)]; exact K5_F1
  have K7_F2 : F2[7]? = some (.int 0) := by rw [eF2]; exact List.getElem?_set_self (by rw [L_F1]; decide)
  have L_F2 : F2.length = 18 := by rw [eF2, List.length_set]; exact L_F1
  have hP : va_P (dC, dI) cls [(lp, .inr (4, F2))] H := hP
  have hD : va_D A [(lp, .inr (4, F2))] := hD
  exact W.vret hx hb hr (fun t ht9 hW => ⟨⟨(), rfl, trivial, by rw [ht9]; exact hP.sub [] rfl, va_K.moved hW.alike (hK.sub [] rfl), hD.sub [] (by decide) rfl⟩, hS.F ht9⟩) hS.2.2 dX4_beginReading_10
set_option maxHeartbeats 4000000 in
set_option maxRecDepth 100000 in
theorem m6_readLoop (l : Launch) (dC : Nat → ClassId) (dI : Nat → Nat → Nat) (sz : Nat) (rd : Nat) (gr : List Value) (nd : Nat) (gn : List Value) (tp : Nat) (cT : ClassId) (ft : Nat → Int32) (lp : Nat) (gl : List Value) (sa : Nat) (L_gr : gr.length = 20) (K11_gr : gr[11]? = some (.ref nd)) (L_gn : gn.length = 4) (L_gl : gl.length = 18) : Met l yX6_readLoop (Cond.code yX6_readLoop cX6_readLoop 5 none :: tb) ({ frames := 2, cells := 0, slots := 0, locals := 45 }) (pcx [.inr (.inl ("FinderHouse$Reader", 291, "loop", sa))] [.ref rd, .ref tp, .int 0, .ref lp] (dC, dI) [(rd, .inr (6, gr)), (nd, .inr (9, gn)), (tp, .inl (cT, 2000, .inl ft)), (lp, .inr (4, gl))] [(cT, .byte)] sz) (va_Qv (fun (gr1 : List Value) => (True) ∧ (gr1.length = 20) ∧ (gr1[9]? = some (.int 1)) ∧ (gr1[10]? = some (.int 0))) (bw (dC, dI) (va_A [(rd, .inr (6, gr)), (nd, .inr (9, gn)), (tp, .inl (cT, 2000, .inl ft)), (lp, .inr (4, gl))] sz) (fun (gr1 : List Value) => [(rd, .inr (6, gr1))]) (fun (gr1 : List Value) => [])) (va_A [(rd, .inr (6, gr)), (nd, .inr (9, gn)), (tp, .inl (cT, 2000, .inl ft)), (lp, .inr (4, gl))] sz)) 0 0 (va_A [(rd, .inr (6, gr)), (nd, .inr (9, gn)), (tp, .inl (cT, 2000, .inl ft)), (lp, .inr (4, gl))] sz) := by
  refine Met.ofW (cc := cX6_readLoop) (maxL := 5) (ret := none) (by decide) rfl ?_
  intro p e s m args below meth c s₁ B hml hv
  obtain ⟨rfl, hsz, hP, hK, hD0, hE⟩ := hv
  have hx := B.exec
  have hb := B.bytes
  have hr := B.returns
  have hts := atoms_spec (ws := Cond.code yX6_readLoop cX6_readLoop 5 none :: tb) B.pre
  have ht : ∀ w ∈ tb, w.before _ s = true := fun w h => hts w (List.mem_cons_of_mem _ h)
  have hown : s.vm.findClass RX6 = some m.cls := findClass_of_methodNamed B.named
  have hlocks := B.notSynchronized
  subst hsz
  have hD := hD0.self (sz := s.heap.size)
  generalize hAe : va_A [(rd, .inr (6, gr)), (nd, .inr (9, gn)), (tp, .inl (cT, 2000, .inl ft)), (lp, .inr (4, gl))] s.heap.size = A at hD hE ⊢
  have hA : ∀ q : Nat, s.heap.size ≤ q → A q := fun q h => by rw [← hAe]; exact Or.inr h
  have hS : va_S A s.heap s.heap [] := va_S.rf
  have hl := lv_entry ([.ref rd, .ref tp, .int 0, .ref lp]) (n := 5) (Nat.le_of_ble_eq_true rfl)
  rw [lg_entry_eq]
  generalize (lg_sl ([.ref rd, .ref tp, .int 0, .ref lp]) ++ List.replicate (5 - (lg_sl ([.ref rd, .ref tp, .int 0, .ref lp])).length) Slot.unset).toArray = ls at hl ⊢
  have hl : lv_has ls 5 [(0, .ref rd), (1, .ref tp), (2, .int 0), (3, .ref lp)] := hl
  have hP : va_P (dC, dI) cls [(rd, .inr (6, gr)), (nd, .inr (9, gn)), (tp, .inl (cT, 2000, .inl ft)), (lp, .inr (4, gl))] s.heap := hP
  refine lv_aload_n hx hb dX6_readLoop_0 rfl (lv_at hl 0 rfl) ?_
  refine lv_aload_n hx hb dX6_readLoop_1 rfl (lv_at hl 1 rfl) ?_
  refine lv_iconst (v := 0) hx hb dX6_readLoop_2 (by decide) ?_
  refine lv_iload_n hx hb dX6_readLoop_3 rfl (lv_at hl 2 rfl) ?_
  refine ca_v (wr := [(lp, .inr (4, gl))]) (va_runV (As := [.ref tp, .int 0, .int 0]) (rest := []) ⟨hx, hb, hml, hown, ht⟩ (m6_begin l dC dI s.heap.size rd gr nd gn tp cT ft L_gr K11_gr L_gn ) (cwV 3 ht (gdV k_4_173 k_4_170 k_4_172 ks_2 k_1_8) rfl rfl rfl (by decide +kernel) ⟨Nat.le_of_ble_eq_true rfl, Nat.le_of_ble_eq_true rfl⟩) ⟨pcw_blind, va_recv hK hP (ci := 6) (q0 := 0) rfl rfl, pcw_at hP hD hK [0, 1, 2] [0] (by decide) rfl rfl rfl⟩ rfl rfl hl.1 rfl (lv_room (Nat.le_of_ble_eq_true rfl)) dX6_readLoop_4 ⟨Nat.le_of_ble_eq_true rfl, Nat.le_of_ble_eq_true rfl⟩) hP hD hK hS hA [0, 1, 2] [3] rfl rfl (by decide) (by decide) (fun u H locs w2 hK hP hD hS => ?_)
  obtain ⟨F3, rfl⟩ : ∃ z, z = u := ⟨_, rfl⟩
  have hK : va_K (dC, dI) cls [(cT, .byte)] s := hK
  have hP : va_P (dC, dI) cls [(lp, .inr (4, gl)), (rd, .inr (6, F3))] H := hP
  have hD : va_D A [(lp, .inr (4, gl)), (rd, .inr (6, F3))] := hD
  obtain ⟨w2, K4, K5, K6, K7, K8⟩ := w2
  refine lv_aload_n hx hb dX6_readLoop_7 rfl (lv_at hl 3 rfl) ?_
  refine ca_v (wr := [(rd, .inr (6, F3))]) (va_runV (As := []) (rest := []) ⟨hx, hb, hml, hown, ht⟩ (m4_beginReading l dC dI H.size lp gl L_gl ) (cwV 0 ht (gdV k_7_179 k_7_176 k_7_177 k_7_178 k_1_13) rfl rfl rfl (by decide +kernel) ⟨Nat.le_of_ble_eq_true rfl, Nat.le_of_ble_eq_true rfl⟩) ⟨pcw_blind, va_recv hK hP (ci := 4) (q0 := 0) rfl rfl, pcw_at hP hD hK [0] [] (by decide) rfl rfl rfl⟩ rfl rfl hl.1 rfl (lv_room (Nat.le_of_ble_eq_true rfl)) dX6_readLoop_8 ⟨Nat.le_of_ble_eq_true rfl, Nat.le_of_ble_eq_true rfl⟩) hP hD hK hS hA [0] [1] rfl rfl (by decide) (by decide) (fun u H locs w10 hK hP hD hS => ?_)
  have hK : va_K (dC, dI) cls [(cT, .byte)] s := hK
  have hP : va_P (dC, dI) cls [(rd, .inr (6, F3))] H := hP
  have hD : va_D A [(rd, .inr (6, F3))] := hD
  refine lv_aload_n hx hb dX6_readLoop_11 rfl (lv_at hl 0 rfl) ?_
  refine va_ldcSW hx hb hown (xf_r hE 0 rfl) dX6_readLoop_12 ?_
  refine ca_i (wr := []) (va_runV (As := [.ref sa]) (rest := []) ⟨hx, hb, hml, hown, ht⟩ (m6_takeNamed l dC dI H.size rd F3 sa K4 K5 K6 K7 ) (cwV 1 ht (gdV k_4_204 k_4_201 k_4_203 ks_8 k_1_8) rfl rfl rfl (by decide +kernel) ⟨Nat.le_of_ble_eq_true rfl, Nat.le_of_ble_eq_true rfl⟩) ⟨pcw_blind, va_recv hK hP (ci := 6) (q0 := 0) rfl rfl, pcw_at hP hD hK [0] [] (by decide) rfl rfl rfl⟩ rfl rfl hl.1 rfl (lv_room (Nat.le_of_ble_eq_true rfl)) dX6_readLoop_15 ⟨Nat.le_of_ble_eq_true rfl, Nat.le_of_ble_eq_true rfl⟩) hP hD hK hS hA [0] [] rfl rfl (by decide) (by decide) (fun r11 u H locs w12 hK hP hD hS => ?_)
  obtain ⟨F13, rfl⟩ : ∃ z, z = u := ⟨_, rfl⟩
  have hK : va_K (dC, dI) cls [(cT, .byte)] s := hK
  have hP : va_P (dC, dI) cls [(rd, .inr (6, F13))] H := hP
  have hD : va_D A [(rd, .inr (6, F13))] := hD
  obtain ⟨w12, K14, K15, K16⟩ := w12
  obtain rfl : r11 = 0 := w12
  refine lv_if_eq (tgt := 47) hx hb dX6_readLoop_18 (by decide) (fun _ => ?_) (fun c0 => absurd c0 (by decide))
  exact W.vret hx hb hr (fun t ht9 hW => ⟨⟨(F13), rfl, ⟨trivial, K14, K15, K16⟩, by rw [ht9]; exact hP.sub [0] rfl, va_K.moved hW.alike (hK.sub [] rfl), hD.sub [0] (by decide) rfl⟩, hS.F ht9⟩) hS.2.2 dX6_readLoop_47
set_option maxHeartbeats 4000000 in
set_option maxRecDepth 100000 in
theorem x_loop (l : Launch) (dC : Nat → ClassId) (dI : Nat → Nat → Nat) (sz : Nat) (q : Nat) (fs : List Value) (tp : Nat) (rd : Nat) (as : Nat) (sp : Nat) (lp : Nat) (wr : Nat) (ma : Nat) (dk : Nat) (gr : List Value) (nd : Nat) (gn : List Value) (cT : ClassId) (ft : Nat → Int32) (gl : List Value) (sa : Nat) (L_fs : fs.length = 18) (K0_fs : fs[0]? = some (.ref tp)) (K1_fs : fs[1]? = some (.int 0)) (K2_fs : fs[2]? = some (.int 0)) (K8_fs : fs[8]? = some (.ref rd)) (K9_fs : fs[9]? = some (.ref as)) (K10_fs : fs[10]? = some (.ref sp)) (K11_fs : fs[11]? = some (.int 0)) (K14_fs : fs[14]? = some (.ref lp)) (K15_fs : fs[15]? = some (.ref wr)) (K16_fs : fs[16]? = some (.ref ma)) (K17_fs : fs[17]? = some (.ref dk)) (L_gr : gr.length = 20) (K11_gr : gr[11]? = some (.ref nd)) (L_gn : gn.length = 4) (L_gl : gl.length = 18) : Met l yX11_loop (Cond.code yX11_loop cX11_loop 1 (some .int) :: tb) ({ frames := 3, cells := 0, slots := 0, locals := 69 }) (pcx [.inr (.inl ("FinderHouse$Reader", 291, "loop", sa))] [.ref q] (dC, dI) [(q, .inr (11, fs)), (rd, .inr (6, gr)), (nd, .inr (9, gn)), (tp, .inl (cT, 2000, .inl ft)), (lp, .inr (4, gl))] [(cT, .byte)] sz) (va_Qi (fun (r : Int32) => (fun (_ : Unit) => r = -11)) (bw (dC, dI) (va_A [(q, .inr (11, fs)), (rd, .inr (6, gr)), (nd, .inr (9, gn)), (tp, .inl (cT, 2000, .inl ft)), (lp, .inr (4, gl))] sz) (fun (_ : Unit) => []) (fun (_ : Unit) => [])) (va_A [(q, .inr (11, fs)), (rd, .inr (6, gr)), (nd, .inr (9, gn)), (tp, .inl (cT, 2000, .inl ft)), (lp, .inr (4, gl))] sz)) 0 0 (va_A [(q, .inr (11, fs)), (rd, .inr (6, gr)), (nd, .inr (9, gn)), (tp, .inl (cT, 2000, .inl ft)), (lp, .inr (4, gl))] sz) := by
  refine Met.ofW (cc := cX11_loop) (maxL := 1) (ret := (some .int)) (by decide) rfl ?_
  intro p e s m args below meth c s₁ B hml hv
  obtain ⟨rfl, hsz, hP, hK, hD0, hE⟩ := hv
  have hx := B.exec
  have hb := B.bytes
  have hr := B.returns
  have hts := atoms_spec (ws := Cond.code yX11_loop cX11_loop 1 (some .int) :: tb) B.pre
  have ht : ∀ w ∈ tb, w.before _ s = true := fun w h => hts w (List.mem_cons_of_mem _ h)
  have hown : s.vm.findClass RX11 = some m.cls := findClass_of_methodNamed B.named
  have hlocks := B.notSynchronized
  subst hsz
  have hD := hD0.self (sz := s.heap.size)
  generalize hAe : va_A [(q, .inr (11, fs)), (rd, .inr (6, gr)), (nd, .inr (9, gn)), (tp, .inl (cT, 2000, .inl ft)), (lp, .inr (4, gl))] s.heap.size = A at hD hE ⊢
  have hA : ∀ q : Nat, s.heap.size ≤ q → A q := fun q h => by rw [← hAe]; exact Or.inr h
  have hS : va_S A s.heap s.heap [] := va_S.rf
  have hl := lv_entry ([.ref q]) (n := 1) (Nat.le_of_ble_eq_true rfl)
  rw [lg_entry_eq]
  generalize (lg_sl ([.ref q]) ++ List.replicate (1 - (lg_sl ([.ref q])).length) Slot.unset).toArray = ls at hl ⊢
  have hl : lv_has ls 1 [(0, .ref q)] := hl
  have hP : va_P (dC, dI) cls [(q, .inr (11, fs)), (rd, .inr (6, gr)), (nd, .inr (9, gn)), (tp, .inl (cT, 2000, .inl ft)), (lp, .inr (4, gl))] s.heap := hP
  refine lv_aload_n hx hb dX11_loop_0 rfl (lv_at hl 0 rfl) ?_
  refine va_get (D := (dC, dI)) (ci := 11) (v := .int 0) (C := RX11) (T := TX11) (N := 18) hx hb ht uX11 hown hK hP 0 rfl rfl 2 (by decide) (ht _ k_4_93) (fun _ h9 => h9) K2_fs dX11_loop_1 ?_
  refine lv_if_eq (tgt := 10) hx hb dX11_loop_4 (by decide) (fun _ => ?_) (fun c0 => absurd c0 (by decide))
  refine lv_aload_n hx hb dX11_loop_10 rfl (lv_at hl 0 rfl) ?_
  refine va_get (D := (dC, dI)) (ci := 11) (v := .ref rd) (C := RX11) (T := TX11) (N := 18) hx hb ht uX11 hown hK hP 0 rfl rfl 8 (by decide) (ht _ k_4_99) (fun _ h9 => h9) K8_fs dX11_loop_11 ?_
  refine lv_aload_n hx hb dX11_loop_14 rfl (lv_at hl 0 rfl) ?_
  refine va_get (D := (dC, dI)) (ci := 11) (v := .ref tp) (C := RX11) (T := TX11) (N := 18) hx hb ht uX11 hown hK hP 0 rfl rfl 0 (by decide) (ht _ k_4_91) (fun _ h9 => h9) K0_fs dX11_loop_15 ?_
  refine lv_aload_n hx hb dX11_loop_18 rfl (lv_at hl 0 rfl) ?_
  refine ca_i (wr := [(rd, .inr (6, gr)), (nd, .inr (9, gn)), (tp, .inl (cT, 2000, .inl ft)), (lp, .inr (4, gl))]) (va_runV (As := []) (rest := [.ref tp, .ref rd]) ⟨hx, hb, hml, hown, ht⟩ (x_takeTape l dC dI s.heap.size q fs tp rd as sp lp wr ma dk L_fs K0_fs K1_fs K2_fs K8_fs K9_fs K10_fs K11_fs K14_fs K15_fs K16_fs K17_fs ) (cwV 0 ht (gdV k_4_165 k_4_162 k_4_164 ks_1 k_1_1) rfl rfl rfl (by decide +kernel) ⟨Nat.le_of_ble_eq_true rfl, Nat.le_of_ble_eq_true rfl⟩) ⟨pcw_blind, va_recv hK hP (ci := 11) (q0 := 0) rfl rfl, pcw_at hP hD hK [0] [] (by decide) rfl rfl rfl⟩ rfl rfl hl.1 rfl (lv_room (Nat.le_of_ble_eq_true rfl)) dX11_loop_19 ⟨Nat.le_of_ble_eq_true rfl, Nat.le_of_ble_eq_true rfl⟩) hP hD hK hS hA [0] [1, 2, 3, 4] rfl rfl (by decide) (by decide) (fun r1 u H locs w2 hK hP hD hS => ?_)
  obtain ⟨F3, rfl⟩ : ∃ z, z = u := ⟨_, rfl⟩
  have hK : va_K (dC, dI) cls [(cT, .byte)] s := hK
  have hP : va_P (dC, dI) cls [(rd, .inr (6, gr)), (nd, .inr (9, gn)), (tp, .inl (cT, 2000, .inl ft)), (lp, .inr (4, gl)), (q, .inr (11, F3))] H := hP
  have hD : va_D A [(rd, .inr (6, gr)), (nd, .inr (9, gn)), (tp, .inl (cT, 2000, .inl ft)), (lp, .inr (4, gl)), (q, .inr (11, F3))] := hD
  obtain ⟨w2, K4, K5, K6, K7, K8, K9, K10, K11, K12, K13, K14, K15⟩ := w2
  obtain rfl : r1 = 0 := w2
  refine lv_aload_n hx hb dX11_loop_22 rfl (lv_at hl 0 rfl) ?_
  refine va_get (D := (dC, dI)) (ci := 11) (v := .ref lp) (C := RX11) (T := TX11) (N := 18) hx hb ht uX11 hown hK hP 4 rfl rfl 14 (by decide) (ht _ k_4_105) (fun _ h9 => h9) K12 dX11_loop_23 ?_
  refine ca_v (wr := [(q, .inr (11, F3))]) (va_runV (As := [.ref tp, .int 0, .ref lp]) (rest := []) ⟨hx, hb, hml, hown, ht⟩ (m6_readLoop l dC dI H.size rd gr nd gn tp cT ft lp gl sa L_gr K11_gr L_gn L_gl ) (cwV 3 ht (gdV k_7_175 k_7_172 k_7_173 k_7_174 k_1_8) rfl rfl rfl (by decide +kernel) ⟨Nat.le_of_ble_eq_true rfl, Nat.le_of_ble_eq_true rfl⟩) ⟨pcx_blind, va_recv hK hP (ci := 6) (q0 := 0) rfl rfl, pcx_at hP hD hK hS hA hE [0, 1, 2, 3] [0] [0] (by decide) rfl rfl rfl rfl⟩ rfl rfl hl.1 rfl (lv_room (Nat.le_of_ble_eq_true rfl)) dX11_loop_26 ⟨Nat.le_of_ble_eq_true rfl, Nat.le_of_ble_eq_true rfl⟩) hP hD hK hS hA [0, 1, 2, 3] [4] rfl rfl (by decide) (by decide) (fun u H locs w17 hK hP hD hS => ?_)
  obtain ⟨F18, rfl⟩ : ∃ z, z = u := ⟨_, rfl⟩
  have hK : va_K (dC, dI) cls [(cT, .byte)] s := hK
  have hP : va_P (dC, dI) cls [(q, .inr (11, F3)), (rd, .inr (6, F18))] H := hP
  have hD : va_D A [(q, .inr (11, F3)), (rd, .inr (6, F18))] := hD
  obtain ⟨w17, K19, K20, K21⟩ := w17
  refine lv_aload_n hx hb dX11_loop_29 rfl (lv_at hl 0 rfl) ?_
  refine va_get (D := (dC, dI)) (ci := 11) (v := .ref rd) (C := RX11) (T := TX11) (N := 18) hx hb ht uX11 hown hK hP 0 rfl rfl 8 (by decide) (ht _ k_4_99) (fun _ h9 => h9) K8 dX11_loop_30 ?_
  refine va_get (D := (dC, dI)) (ci := 6) (v := .int 1) (C := RX6) (T := TX6) (N := 20) hx hb ht uX6 hown hK hP 1 rfl rfl 9 (by decide) (ht _ k_1_222) (fun _ h9 => h9) K20 dX11_loop_33 ?_
  refine lv_if_eq (tgt := 44) hx hb dX11_loop_36 (by decide) (fun c0 => absurd c0 (by decide)) (fun _ => ?_)
  refine lv_aload_n hx hb dX11_loop_39 rfl (lv_at hl 0 rfl) ?_
  refine ca_i (wr := []) (va_runV (As := []) (rest := []) ⟨hx, hb, hml, hown, ht⟩ (x_refuseFault l dC dI H.size q F3 rd F18 K4 K8 K19 K20 K21 ) (cwV 0 ht (gdV k_5_121 k_5_118 k_5_120 ks_32 k_1_1) rfl rfl rfl (by decide +kernel) ⟨Nat.le_of_ble_eq_true rfl, Nat.le_of_ble_eq_true rfl⟩) ⟨pcw_blind, va_recv hK hP (ci := 11) (q0 := 0) rfl rfl, pcw_at hP hD hK [0, 1] [] (by decide) rfl rfl rfl⟩ rfl rfl hl.1 rfl (lv_room (Nat.le_of_ble_eq_true rfl)) dX11_loop_40 ⟨Nat.le_of_ble_eq_true rfl, Nat.le_of_ble_eq_true rfl⟩) hP hD hK hS hA [0, 1] [] rfl rfl (by decide) (by decide) (fun r22 u H locs w23 hK hP hD hS => ?_)
  have hK : va_K (dC, dI) cls [(cT, .byte)] s := hK
  have hP : va_P (dC, dI) cls [] H := hP
  have hD : va_D A [] := hD
  obtain rfl : r22 = (-11) := w23
  exact W.iret (v := (-11)) hx hb hr (fun t ht9 hW => ⟨⟨(-11), (), rfl, rfl, by rw [ht9]; exact hP.sub [] rfl, va_K.moved hW.alike (hK.sub [] rfl), hD.sub [] (by decide) rfl⟩, hS.F ht9⟩) hS.2.2 dX11_loop_43
