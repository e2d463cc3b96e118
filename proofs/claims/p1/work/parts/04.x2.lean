theorem dX11_cut_0 : decode cX11_cut 0 = .ok (.aload_n 0, 1) := by decide +kernel
theorem dX11_cut_1 : decode cX11_cut 1 = .ok (.getfield 107, 3) := by decide +kernel
theorem dX11_cut_4 : decode cX11_cut 4 = .ok (.ifCond .eq 6, 3) := by decide +kernel
theorem dX11_cut_10 : decode cX11_cut 10 = .ok (.iload_n 1, 1) := by decide +kernel
theorem dX11_cut_11 : decode cX11_cut 11 = .ok (.iconst (-1), 1) := by decide +kernel
theorem dX11_cut_12 : decode cX11_cut 12 = .ok (.if_icmp .lt 20, 3) := by decide +kernel
theorem dX11_cut_32 : decode cX11_cut 32 = .ok (.iconst (-1), 1) := by decide +kernel
theorem dX11_cut_33 : decode cX11_cut 33 = .ok (.ireturn, 1) := by decide +kernel
theorem dX11_cut_15 : decode cX11_cut 15 = .ok (.iload_n 1, 1) := by decide +kernel
theorem dX11_cut_16 : decode cX11_cut 16 = .ok (.sipush 400, 3) := by decide +kernel
theorem dX11_cut_19 : decode cX11_cut 19 = .ok (.if_icmp .gt 13, 3) := by decide +kernel
theorem dX11_cut_22 : decode cX11_cut 22 = .ok (.iload_n 2, 1) := by decide +kernel
theorem dX11_cut_23 : decode cX11_cut 23 = .ok (.ifCond .lt 9, 3) := by decide +kernel
theorem dX11_cut_26 : decode cX11_cut 26 = .ok (.iload_n 2, 1) := by decide +kernel
theorem dX11_cut_27 : decode cX11_cut 27 = .ok (.bipush 127, 2) := by decide +kernel
theorem dX11_cut_29 : decode cX11_cut 29 = .ok (.if_icmp .le 5, 3) := by decide +kernel
theorem dX11_cut_34 : decode cX11_cut 34 = .ok (.aload_n 0, 1) := by decide +kernel
theorem dX11_cut_35 : decode cX11_cut 35 = .ok (.getfield 84, 3) := by decide +kernel
theorem dX11_cut_38 : decode cX11_cut 38 = .ok (.iload_n 1, 1) := by decide +kernel
theorem k_4_73 : Jvm.Cond.fieldLink "FinderHouse" (495 : Nat) "FinderHouse$Disk" "cutAt" "I" ∈ tb := tb4 73 (by decide +kernel) (by decide +kernel)
theorem dX11_cut_39 : decode cX11_cut 39 = .ok (.putfield 495, 3) := by decide +kernel
theorem dX11_cut_42 : decode cX11_cut 42 = .ok (.aload_n 0, 1) := by decide +kernel
theorem dX11_cut_43 : decode cX11_cut 43 = .ok (.getfield 84, 3) := by decide +kernel
theorem dX11_cut_46 : decode cX11_cut 46 = .ok (.iload_n 2, 1) := by decide +kernel
theorem k_4_75 : Jvm.Cond.fieldLink "FinderHouse" (498 : Nat) "FinderHouse$Disk" "tear" "I" ∈ tb := tb4 75 (by decide +kernel) (by decide +kernel)
theorem dX11_cut_47 : decode cX11_cut 47 = .ok (.putfield 498, 3) := by decide +kernel
theorem dX11_cut_50 : decode cX11_cut 50 = .ok (.iconst 1, 1) := by decide +kernel
theorem dX11_cut_51 : decode cX11_cut 51 = .ok (.ireturn, 1) := by decide +kernel
theorem dX5_tellState_0 : decode cX5_tellState 0 = .ok (.iload_n 1, 1) := by decide +kernel
theorem dX5_tellState_1 : decode cX5_tellState 1 = .ok (.ifCond .lt 20, 3) := by decide +kernel
theorem dX5_tellState_21 : decode cX5_tellState 21 = .ok (.iconst (-1), 1) := by decide +kernel
theorem dX5_tellState_22 : decode cX5_tellState 22 = .ok (.ireturn, 1) := by decide +kernel
theorem dX5_tellState_4 : decode cX5_tellState 4 = .ok (.iload_n 1, 1) := by decide +kernel
theorem dX5_tellState_5 : decode cX5_tellState 5 = .ok (.aload_n 0, 1) := by decide +kernel
theorem k_4_12 : Jvm.Cond.fieldLink "FinderHouse$Machines" (63 : Nat) "FinderHouse$Machines" "states" "I" ∈ tb := tb4 12 (by decide +kernel) (by decide +kernel)
theorem dX5_tellState_6 : decode cX5_tellState 6 = .ok (.getfield 63, 3) := by decide +kernel
theorem dX5_tellState_9 : decode cX5_tellState 9 = .ok (.if_icmp .ge 12, 3) := by decide +kernel
theorem dX11_state_0 : decode cX11_state 0 = .ok (.aload_n 0, 1) := by decide +kernel
theorem dX11_state_1 : decode cX11_state 1 = .ok (.getfield 77, 3) := by decide +kernel
theorem dX11_state_4 : decode cX11_state 4 = .ok (.iload_n 1, 1) := by decide +kernel
theorem dX11_state_5 : decode cX11_state 5 = .ok (.iload_n 2, 1) := by decide +kernel
theorem k_8_217 : Jvm.Cond.code ({ cls := "FinderHouse$Machines", name := "tellState", desc := "(II)I" } : Jvm.MethodName) prog_7_method_11_code (3 : Nat) (Option.some Jvm.ClassFile.FieldType.int) ∈ tb := tb8 217 (by decide +kernel) (by decide +kernel)
theorem k_8_214 : Jvm.Cond.methodLink "FinderHouse" (475 : Nat) ({ cls := "FinderHouse$Machines", name := "tellState", desc := "(II)I" } : Jvm.MethodName) ∈ tb := tb8 214 (by decide +kernel) (by decide +kernel)
theorem k_8_215 : Jvm.Cond.instanceMethod ({ cls := "FinderHouse$Machines", name := "tellState", desc := "(II)I" } : Jvm.MethodName) ∈ tb := tb8 215 (by decide +kernel) (by decide +kernel)
theorem k_8_216 : Jvm.Cond.selects "FinderHouse$Machines" ({ cls := "FinderHouse$Machines", name := "tellState", desc := "(II)I" } : Jvm.MethodName) ({ cls := "FinderHouse$Machines", name := "tellState", desc := "(II)I" } : Jvm.MethodName) ∈ tb := tb8 216 (by decide +kernel) (by decide +kernel)
theorem k_1_15 : Jvm.Cond.initialized "FinderHouse$Machines" ∈ tb := tb1 15 (by decide +kernel) (by decide +kernel)
theorem dX11_state_6 : decode cX11_state 6 = .ok (.invokevirtual 475, 3) := by decide +kernel
theorem dX11_state_9 : decode cX11_state 9 = .ok (.ireturn, 1) := by decide +kernel
theorem dX11_step_0 : decode cX11_step 0 = .ok (.iload_n 1, 1) := by decide +kernel
theorem dX11_step_1 : decode cX11_step 1 = .ok (.ifCond .lt 26, 3) := by decide +kernel
theorem dX11_step_27 : decode cX11_step 27 = .ok (.iconst (-1), 1) := by decide +kernel
theorem dX11_step_28 : decode cX11_step 28 = .ok (.ireturn, 1) := by decide +kernel
theorem dX11_step_4 : decode cX11_step 4 = .ok (.iload_n 1, 1) := by decide +kernel
theorem dX11_step_5 : decode cX11_step 5 = .ok (.aload_n 0, 1) := by decide +kernel
theorem dX11_step_6 : decode cX11_step 6 = .ok (.getfield 77, 3) := by decide +kernel
theorem k_4_21 : Jvm.Cond.fieldLink "FinderHouse" (482 : Nat) "FinderHouse$Machines" "rowSize" "I" ∈ tb := tb4 21 (by decide +kernel) (by decide +kernel)
theorem dX11_step_9 : decode cX11_step 9 = .ok (.getfield 482, 3) := by decide +kernel
theorem dX11_step_12 : decode cX11_step 12 = .ok (.if_icmp .ge 15, 3) := by decide +kernel
theorem dX11_own_0 : decode cX11_own 0 = .ok (.aload_n 0, 1) := by decide +kernel
theorem dX11_own_1 : decode cX11_own 1 = .ok (.getfield 107, 3) := by decide +kernel
theorem dX11_own_4 : decode cX11_own 4 = .ok (.ifCond .eq 6, 3) := by decide +kernel
theorem dX11_own_10 : decode cX11_own 10 = .ok (.iload_n 1, 1) := by decide +kernel
theorem dX11_own_11 : decode cX11_own 11 = .ok (.ifCond .lt 20, 3) := by decide +kernel
theorem dX11_own_31 : decode cX11_own 31 = .ok (.iconst (-1), 1) := by decide +kernel
theorem dX11_own_32 : decode cX11_own 32 = .ok (.ireturn, 1) := by decide +kernel
theorem dX11_own_14 : decode cX11_own 14 = .ok (.iload_n 1, 1) := by decide +kernel
theorem dX11_own_15 : decode cX11_own 15 = .ok (.aload_n 0, 1) := by decide +kernel
theorem dX11_own_16 : decode cX11_own 16 = .ok (.getfield 23, 3) := by decide +kernel
theorem dX11_own_19 : decode cX11_own 19 = .ok (.getfield 111, 3) := by decide +kernel
theorem dX11_own_22 : decode cX11_own 22 = .ok (.if_icmp .ge 9, 3) := by decide +kernel
theorem dX11_kept_0 : decode cX11_kept 0 = .ok (.aload_n 0, 1) := by decide +kernel
theorem dX11_kept_1 : decode cX11_kept 1 = .ok (.getfield 107, 3) := by decide +kernel
theorem dX11_kept_4 : decode cX11_kept 4 = .ok (.ifCond .eq 6, 3) := by decide +kernel
theorem dX11_kept_10 : decode cX11_kept 10 = .ok (.iload_n 1, 1) := by decide +kernel
theorem dX11_kept_11 : decode cX11_kept 11 = .ok (.ifCond .lt 14, 3) := by decide +kernel
theorem dX11_kept_25 : decode cX11_kept 25 = .ok (.iconst (-1), 1) := by decide +kernel
theorem dX11_kept_26 : decode cX11_kept 26 = .ok (.ireturn, 1) := by decide +kernel
theorem dX11_kept_14 : decode cX11_kept 14 = .ok (.iload_n 1, 1) := by decide +kernel
theorem dX11_kept_15 : decode cX11_kept 15 = .ok (.aload_n 0, 1) := by decide +kernel
theorem dX11_kept_16 : decode cX11_kept 16 = .ok (.getfield 56, 3) := by decide +kernel
theorem dX11_kept_19 : decode cX11_kept 19 = .ok (.getfield 114, 3) := by decide +kernel
theorem dX11_kept_22 : decode cX11_kept 22 = .ok (.if_icmp .lt 5, 3) := by decide +kernel
theorem dX11_runs_0 : decode cX11_runs 0 = .ok (.aload_n 0, 1) := by decide +kernel
theorem dX11_runs_1 : decode cX11_runs 1 = .ok (.getfield 107, 3) := by decide +kernel
theorem dX11_runs_4 : decode cX11_runs 4 = .ok (.ifCond .eq 6, 3) := by decide +kernel
theorem dX11_runs_10 : decode cX11_runs 10 = .ok (.aload_n 0, 1) := by decide +kernel
theorem k_4_105 : Jvm.Cond.fieldLink "FinderHouse" (63 : Nat) "FinderHouse" "loops" "LFinderHouse$Loops;" ∈ tb := tb4 105 (by decide +kernel) (by decide +kernel)
theorem dX11_runs_11 : decode cX11_runs 11 = .ok (.getfield 63, 3) := by decide +kernel
theorem k_3_108 : Jvm.Cond.fieldLink "FinderHouse" (401 : Nat) "FinderHouse$Loops" "there" "Z" ∈ tb := tb3 108 (by decide +kernel) (by decide +kernel)
theorem dX11_runs_14 : decode cX11_runs 14 = .ok (.getfield 401, 3) := by decide +kernel
theorem dX11_runs_17 : decode cX11_runs 17 = .ok (.ifCond .ne 6, 3) := by decide +kernel
theorem dX11_runs_20 : decode cX11_runs 20 = .ok (.bipush (-2), 2) := by decide +kernel
theorem dX11_runs_22 : decode cX11_runs 22 = .ok (.ireturn, 1) := by decide +kernel
theorem dX11_span_0 : decode cX11_span 0 = .ok (.aload_n 0, 1) := by decide +kernel
theorem dX11_span_1 : decode cX11_span 1 = .ok (.getfield 107, 3) := by decide +kernel
theorem dX11_span_4 : decode cX11_span 4 = .ok (.ifCond .eq 6, 3) := by decide +kernel
theorem dX11_span_10 : decode cX11_span 10 = .ok (.aload_n 0, 1) := by decide +kernel
theorem dX11_span_11 : decode cX11_span 11 = .ok (.getfield 63, 3) := by decide +kernel
theorem dX11_span_14 : decode cX11_span 14 = .ok (.getfield 401, 3) := by decide +kernel
theorem dX11_span_17 : decode cX11_span 17 = .ok (.ifCond .ne 6, 3) := by decide +kernel
theorem dX11_span_20 : decode cX11_span 20 = .ok (.bipush (-2), 2) := by decide +kernel
theorem dX11_span_22 : decode cX11_span 22 = .ok (.ireturn, 1) := by decide +kernel
theorem dX11_byteOf_0 : decode cX11_byteOf 0 = .ok (.iload_n 1, 1) := by decide +kernel
theorem dX11_byteOf_1 : decode cX11_byteOf 1 = .ok (.ifCond .lt 26, 3) := by decide +kernel
theorem dX11_byteOf_27 : decode cX11_byteOf 27 = .ok (.iconst (-1), 1) := by decide +kernel
theorem dX11_byteOf_28 : decode cX11_byteOf 28 = .ok (.ireturn, 1) := by decide +kernel
theorem dX11_byteOf_4 : decode cX11_byteOf 4 = .ok (.iload_n 1, 1) := by decide +kernel
theorem dX11_byteOf_5 : decode cX11_byteOf 5 = .ok (.aload_n 0, 1) := by decide +kernel
theorem dX11_byteOf_6 : decode cX11_byteOf 6 = .ok (.getfield 56, 3) := by decide +kernel
theorem k_3_28 : Jvm.Cond.fieldLink "FinderHouse" (262 : Nat) "FinderHouse$Shelf" "textSize" "I" ∈ tb := tb3 28 (by decide +kernel) (by decide +kernel)
theorem dX11_byteOf_9 : decode cX11_byteOf 9 = .ok (.getfield 262, 3) := by decide +kernel
theorem dX11_byteOf_12 : decode cX11_byteOf 12 = .ok (.if_icmp .ge 15, 3) := by decide +kernel
theorem dX11_answer_0 : decode cX11_answer 0 = .ok (.iload_n 1, 1) := by decide +kernel
theorem dX11_answer_1 : decode cX11_answer 1 = .ok (.ifCond .lt 26, 3) := by decide +kernel
theorem dX11_answer_27 : decode cX11_answer 27 = .ok (.bipush (-2), 2) := by decide +kernel
theorem dX11_answer_29 : decode cX11_answer 29 = .ok (.ireturn, 1) := by decide +kernel
theorem dX11_answer_4 : decode cX11_answer 4 = .ok (.iload_n 1, 1) := by decide +kernel
theorem dX11_answer_5 : decode cX11_answer 5 = .ok (.aload_n 0, 1) := by decide +kernel
theorem dX11_answer_6 : decode cX11_answer 6 = .ok (.getfield 56, 3) := by decide +kernel
theorem k_3_36 : Jvm.Cond.fieldLink "FinderHouse" (327 : Nat) "FinderHouse$Shelf" "points" "I" ∈ tb := tb3 36 (by decide +kernel) (by decide +kernel)
theorem dX11_answer_9 : decode cX11_answer 9 = .ok (.getfield 327, 3) := by decide +kernel
theorem dX11_answer_12 : decode cX11_answer 12 = .ok (.if_icmp .ge 15, 3) := by decide +kernel
theorem dX11_point_0 : decode cX11_point 0 = .ok (.aload_n 0, 1) := by decide +kernel
theorem dX11_point_1 : decode cX11_point 1 = .ok (.getfield 136, 3) := by decide +kernel
theorem dX11_point_4 : decode cX11_point 4 = .ok (.ifCond .eq 33, 3) := by decide +kernel
theorem dX11_point_37 : decode cX11_point 37 = .ok (.bipush (-2), 2) := by decide +kernel
theorem dX11_point_39 : decode cX11_point 39 = .ok (.ireturn, 1) := by decide +kernel
theorem dX8_canBeKept_0 : decode cX8_canBeKept 0 = .ok (.aload_n 0, 1) := by decide +kernel
theorem k_3_23 : Jvm.Cond.fieldLink "FinderHouse$Shelf" (14 : Nat) "FinderHouse$Shelf" "term" "LFinderHouse$Term;" ∈ tb := tb3 23 (by decide +kernel) (by decide +kernel)
theorem dX8_canBeKept_1 : decode cX8_canBeKept 1 = .ok (.getfield 14, 3) := by decide +kernel
theorem k_1_121 : Jvm.Cond.fieldLink "FinderHouse$Shelf" (73 : Nat) "FinderHouse$Term" "size" "I" ∈ tb := tb1 121 (by decide +kernel) (by decide +kernel)
theorem dX8_canBeKept_4 : decode cX8_canBeKept 4 = .ok (.getfield 73, 3) := by decide +kernel
theorem dX8_canBeKept_7 : decode cX8_canBeKept 7 = .ok (.ifCond .le 47, 3) := by decide +kernel
theorem dX8_canBeKept_54 : decode cX8_canBeKept 54 = .ok (.iconst 0, 1) := by decide +kernel
theorem dX8_canBeKept_55 : decode cX8_canBeKept 55 = .ok (.ireturn, 1) := by decide +kernel
theorem dX11_keep_0 : decode cX11_keep 0 = .ok (.aload_n 0, 1) := by decide +kernel
theorem dX11_keep_1 : decode cX11_keep 1 = .ok (.getfield 107, 3) := by decide +kernel
theorem dX11_keep_4 : decode cX11_keep 4 = .ok (.ifCond .eq 6, 3) := by decide +kernel
theorem dX11_keep_10 : decode cX11_keep 10 = .ok (.aload_n 0, 1) := by decide +kernel
theorem dX11_keep_11 : decode cX11_keep 11 = .ok (.getfield 56, 3) := by decide +kernel
theorem k_7_74 : Jvm.Cond.code ({ cls := "FinderHouse$Shelf", name := "canBeKept", desc := "()Z" } : Jvm.MethodName) prog_10_method_4_code (1 : Nat) (Option.some Jvm.ClassFile.FieldType.boolean) ∈ tb := tb7 74 (by decide +kernel) (by decide +kernel)
theorem k_7_71 : Jvm.Cond.methodLink "FinderHouse" (343 : Nat) ({ cls := "FinderHouse$Shelf", name := "canBeKept", desc := "()Z" } : Jvm.MethodName) ∈ tb := tb7 71 (by decide +kernel) (by decide +kernel)
theorem k_7_72 : Jvm.Cond.instanceMethod ({ cls := "FinderHouse$Shelf", name := "canBeKept", desc := "()Z" } : Jvm.MethodName) ∈ tb := tb7 72 (by decide +kernel) (by decide +kernel)
theorem k_7_73 : Jvm.Cond.selects "FinderHouse$Shelf" ({ cls := "FinderHouse$Shelf", name := "canBeKept", desc := "()Z" } : Jvm.MethodName) ({ cls := "FinderHouse$Shelf", name := "canBeKept", desc := "()Z" } : Jvm.MethodName) ∈ tb := tb7 73 (by decide +kernel) (by decide +kernel)
theorem k_1_12 : Jvm.Cond.initialized "FinderHouse$Shelf" ∈ tb := tb1 12 (by decide +kernel) (by decide +kernel)
theorem dX11_keep_14 : decode cX11_keep 14 = .ok (.invokevirtual 343, 3) := by decide +kernel
theorem dX11_keep_17 : decode cX11_keep 17 = .ok (.ifCond .ne 6, 3) := by decide +kernel
theorem dX11_keep_20 : decode cX11_keep 20 = .ok (.bipush (-2), 2) := by decide +kernel
theorem dX11_keep_22 : decode cX11_keep 22 = .ok (.ireturn, 1) := by decide +kernel
theorem dX11_takeTape_0 : decode cX11_takeTape 0 = .ok (.aload_n 0, 1) := by decide +kernel
theorem dX11_takeTape_1 : decode cX11_takeTape 1 = .ok (.getfield 88, 3) := by decide +kernel
theorem dX11_takeTape_4 : decode cX11_takeTape 4 = .ok (.istore_n 1, 1) := by decide +kernel
theorem dX11_takeTape_5 : decode cX11_takeTape 5 = .ok (.aload_n 0, 1) := by decide +kernel
theorem dX11_takeTape_6 : decode cX11_takeTape 6 = .ok (.iconst 0, 1) := by decide +kernel
theorem dX11_takeTape_7 : decode cX11_takeTape 7 = .ok (.putfield 88, 3) := by decide +kernel
theorem dX11_takeTape_10 : decode cX11_takeTape 10 = .ok (.iload_n 1, 1) := by decide +kernel
theorem dX11_takeTape_11 : decode cX11_takeTape 11 = .ok (.ireturn, 1) := by decide +kernel
theorem dX6_nameIn_0 : decode cX6_nameIn 0 = .ok (.iload_n 2, 1) := by decide +kernel
theorem dX6_nameIn_1 : decode cX6_nameIn 1 = .ok (.iconst 1, 1) := by decide +kernel
theorem dX6_nameIn_2 : decode cX6_nameIn 2 = .ok (.if_icmp .lt 21, 3) := by decide +kernel
theorem dX6_nameIn_23 : decode cX6_nameIn 23 = .ok (.lconst 0, 1) := by decide +kernel
theorem dX6_nameIn_24 : decode cX6_nameIn 24 = .ok (.lreturn, 1) := by decide +kernel
theorem dX11_learnName_0 : decode cX11_learnName 0 = .ok (.aload_n 1, 1) := by decide +kernel
theorem dX11_learnName_1 : decode cX11_learnName 1 = .ok (.iload_n 2, 1) := by decide +kernel
theorem dX11_learnName_2 : decode cX11_learnName 2 = .ok (.iload_n 3, 1) := by decide +kernel
theorem k_7_111 : Jvm.Cond.code ({ cls := "FinderHouse$Reader", name := "nameIn", desc := "([BII)J" } : Jvm.MethodName) prog_8_method_4_code (6 : Nat) (Option.some Jvm.ClassFile.FieldType.long) ∈ tb := tb7 111 (by decide +kernel) (by decide +kernel)
theorem k_1_8 : Jvm.Cond.initialized "FinderHouse$Reader" ∈ tb := tb1 8 (by decide +kernel) (by decide +kernel)
theorem k_7_109 : Jvm.Cond.methodLink "FinderHouse" (372 : Nat) ({ cls := "FinderHouse$Reader", name := "nameIn", desc := "([BII)J" } : Jvm.MethodName) ∈ tb := tb7 109 (by decide +kernel) (by decide +kernel)
theorem k_7_110 : Jvm.Cond.static ({ cls := "FinderHouse$Reader", name := "nameIn", desc := "([BII)J" } : Jvm.MethodName) ∈ tb := tb7 110 (by decide +kernel) (by decide +kernel)
theorem dX11_learnName_3 : decode cX11_learnName 3 = .ok (.invokestatic 372, 3) := by decide +kernel
theorem dX11_learnName_6 : decode cX11_learnName 6 = .ok (.lstore 5, 2) := by decide +kernel
theorem dX11_learnName_8 : decode cX11_learnName 8 = .ok (.lload 5, 2) := by decide +kernel
theorem dX11_learnName_10 : decode cX11_learnName 10 = .ok (.lconst 0, 1) := by decide +kernel
theorem dX11_learnName_11 : decode cX11_learnName 11 = .ok (.lcmp, 1) := by decide +kernel
theorem dX11_learnName_12 : decode cX11_learnName 12 = .ok (.ifCond .eq 15, 3) := by decide +kernel
theorem dX11_learnName_27 : decode cX11_learnName 27 = .ok (.iconst (-1), 1) := by decide +kernel
theorem dX11_learnName_28 : decode cX11_learnName 28 = .ok (.ireturn, 1) := by decide +kernel
theorem dX11_learn_0 : decode cX11_learn 0 = .ok (.aload_n 0, 1) := by decide +kernel
theorem dX11_learn_1 : decode cX11_learn 1 = .ok (.getfield 107, 3) := by decide +kernel
theorem dX11_learn_4 : decode cX11_learn 4 = .ok (.ifCond .eq 6, 3) := by decide +kernel
theorem dX11_learn_10 : decode cX11_learn 10 = .ok (.aload_n 0, 1) := by decide +kernel
theorem dX11_learn_11 : decode cX11_learn 11 = .ok (.aload_n 0, 1) := by decide +kernel
theorem k_4_91 : Jvm.Cond.fieldLink "FinderHouse" (9 : Nat) "FinderHouse" "tape" "[B" ∈ tb := tb4 91 (by decide +kernel) (by decide +kernel)
theorem dX11_learn_12 : decode cX11_learn 12 = .ok (.getfield 9, 3) := by decide +kernel
theorem dX11_learn_15 : decode cX11_learn 15 = .ok (.iconst 0, 1) := by decide +kernel
theorem dX11_learn_16 : decode cX11_learn 16 = .ok (.aload_n 0, 1) := by decide +kernel
theorem k_4_165 : Jvm.Cond.code ({ cls := "FinderHouse", name := "takeTape", desc := "()I" } : Jvm.MethodName) prog_1_method_5_code (2 : Nat) (Option.some Jvm.ClassFile.FieldType.int) ∈ tb := tb4 165 (by decide +kernel) (by decide +kernel)
theorem k_4_162 : Jvm.Cond.methodLink "FinderHouse" (158 : Nat) ({ cls := "FinderHouse", name := "takeTape", desc := "()I" } : Jvm.MethodName) ∈ tb := tb4 162 (by decide +kernel) (by decide +kernel)
theorem k_4_164 : Jvm.Cond.instanceMethod ({ cls := "FinderHouse", name := "takeTape", desc := "()I" } : Jvm.MethodName) ∈ tb := tb4 164 (by decide +kernel) (by decide +kernel)
theorem ks_1 : Jvm.Cond.selects "FinderHouse" ({ cls := "FinderHouse", name := "takeTape", desc := "()I" } : Jvm.MethodName) ({ cls := "FinderHouse", name := "takeTape", desc := "()I" } : Jvm.MethodName) ∈ tb := tbp 1 (by decide +kernel) (by decide +kernel)
theorem dX11_learn_17 : decode cX11_learn 17 = .ok (.invokevirtual 158, 3) := by decide +kernel
theorem dX11_learn_20 : decode cX11_learn 20 = .ok (.iconst 1, 1) := by decide +kernel
theorem k_7_108 : Jvm.Cond.code ({ cls := "FinderHouse", name := "learnName", desc := "([BIIZ)I" } : Jvm.MethodName) prog_1_method_35_code (8 : Nat) (Option.some Jvm.ClassFile.FieldType.int) ∈ tb := tb7 108 (by decide +kernel) (by decide +kernel)
theorem k_7_105 : Jvm.Cond.methodLink "FinderHouse" (369 : Nat) ({ cls := "FinderHouse", name := "learnName", desc := "([BIIZ)I" } : Jvm.MethodName) ∈ tb := tb7 105 (by decide +kernel) (by decide +kernel)
theorem k_7_107 : Jvm.Cond.instanceMethod ({ cls := "FinderHouse", name := "learnName", desc := "([BIIZ)I" } : Jvm.MethodName) ∈ tb := tb7 107 (by decide +kernel) (by decide +kernel)
theorem ks_67 : Jvm.Cond.selects "FinderHouse" ({ cls := "FinderHouse", name := "learnName", desc := "([BIIZ)I" } : Jvm.MethodName) ({ cls := "FinderHouse", name := "learnName", desc := "([BIIZ)I" } : Jvm.MethodName) ∈ tb := tbp 67 (by decide +kernel) (by decide +kernel)
theorem dX11_learn_21 : decode cX11_learn 21 = .ok (.invokevirtual 369, 3) := by decide +kernel
theorem dX11_learn_24 : decode cX11_learn 24 = .ok (.ireturn, 1) := by decide +kernel
theorem dX11_addRow_0 : decode cX11_addRow 0 = .ok (.iload 4, 2) := by decide +kernel
theorem dX11_addRow_2 : decode cX11_addRow 2 = .ok (.ifCond .lt 38, 3) := by decide +kernel
theorem dX11_addRow_40 : decode cX11_addRow 40 = .ok (.iconst (-1), 1) := by decide +kernel
theorem dX11_addRow_41 : decode cX11_addRow 41 = .ok (.ireturn, 1) := by decide +kernel
theorem dX11_addRow_5 : decode cX11_addRow 5 = .ok (.iload 4, 2) := by decide +kernel
theorem dX11_addRow_7 : decode cX11_addRow 7 = .ok (.bipush 10, 2) := by decide +kernel
theorem dX11_addRow_9 : decode cX11_addRow 9 = .ok (.if_icmp .gt 31, 3) := by decide +kernel
theorem dX11_addRow_12 : decode cX11_addRow 12 = .ok (.iload_n 3, 1) := by decide +kernel
theorem dX11_addRow_13 : decode cX11_addRow 13 = .ok (.iload 4, 2) := by decide +kernel
theorem dX11_addRow_15 : decode cX11_addRow 15 = .ok (.isub, 1) := by decide +kernel
theorem dX11_addRow_16 : decode cX11_addRow 16 = .ok (.iconst 1, 1) := by decide +kernel
theorem dX11_addRow_17 : decode cX11_addRow 17 = .ok (.if_icmp .lt 23, 3) := by decide +kernel
theorem dX11_example_0 : decode cX11_example 0 = .ok (.aload_n 0, 1) := by decide +kernel
theorem dX11_example_1 : decode cX11_example 1 = .ok (.getfield 107, 3) := by decide +kernel
theorem dX11_example_4 : decode cX11_example 4 = .ok (.ifCond .eq 6, 3) := by decide +kernel
theorem dX11_example_10 : decode cX11_example 10 = .ok (.aload_n 0, 1) := by decide +kernel
theorem dX11_example_11 : decode cX11_example 11 = .ok (.invokevirtual 158, 3) := by decide +kernel
theorem dX11_example_14 : decode cX11_example 14 = .ok (.istore_n 2, 1) := by decide +kernel
theorem dX11_example_15 : decode cX11_example 15 = .ok (.aload_n 0, 1) := by decide +kernel
theorem dX11_example_16 : decode cX11_example 16 = .ok (.aload_n 0, 1) := by decide +kernel
theorem dX11_example_17 : decode cX11_example 17 = .ok (.getfield 9, 3) := by decide +kernel
theorem dX11_example_20 : decode cX11_example 20 = .ok (.iconst 0, 1) := by decide +kernel
theorem dX11_example_21 : decode cX11_example 21 = .ok (.iload_n 2, 1) := by decide +kernel
theorem dX11_example_22 : decode cX11_example 22 = .ok (.iload_n 1, 1) := by decide +kernel
theorem dX11_example_23 : decode cX11_example 23 = .ok (.iconst 1, 1) := by decide +kernel
theorem k_8_28 : Jvm.Cond.code ({ cls := "FinderHouse", name := "addRow", desc := "([BIIIZ)I" } : Jvm.MethodName) prog_1_method_42_code (6 : Nat) (Option.some Jvm.ClassFile.FieldType.int) ∈ tb := tb8 28 (by decide +kernel) (by decide +kernel)
theorem k_8_25 : Jvm.Cond.methodLink "FinderHouse" (420 : Nat) ({ cls := "FinderHouse", name := "addRow", desc := "([BIIIZ)I" } : Jvm.MethodName) ∈ tb := tb8 25 (by decide +kernel) (by decide +kernel)
theorem k_8_27 : Jvm.Cond.instanceMethod ({ cls := "FinderHouse", name := "addRow", desc := "([BIIIZ)I" } : Jvm.MethodName) ∈ tb := tb8 27 (by decide +kernel) (by decide +kernel)
theorem ks_83 : Jvm.Cond.selects "FinderHouse" ({ cls := "FinderHouse", name := "addRow", desc := "([BIIIZ)I" } : Jvm.MethodName) ({ cls := "FinderHouse", name := "addRow", desc := "([BIIIZ)I" } : Jvm.MethodName) ∈ tb := tbp 83 (by decide +kernel) (by decide +kernel)
theorem dX11_example_24 : decode cX11_example 24 = .ok (.invokevirtual 420, 3) := by decide +kernel
theorem dX11_example_27 : decode cX11_example 27 = .ok (.ireturn, 1) := by decide +kernel
theorem dX11_lettersIn_0 : decode cX11_lettersIn 0 = .ok (.iload_n 1, 1) := by decide +kernel
theorem dX11_lettersIn_1 : decode cX11_lettersIn 1 = .ok (.ifCond .lt 15, 3) := by decide +kernel
theorem dX11_lettersIn_4 : decode cX11_lettersIn 4 = .ok (.iload_n 2, 1) := by decide +kernel
theorem dX11_lettersIn_5 : decode cX11_lettersIn 5 = .ok (.ifCond .lt 11, 3) := by decide +kernel
theorem dX11_lettersIn_8 : decode cX11_lettersIn 8 = .ok (.iload_n 1, 1) := by decide +kernel
theorem dX11_lettersIn_9 : decode cX11_lettersIn 9 = .ok (.iload_n 2, 1) := by decide +kernel
theorem dX11_lettersIn_10 : decode cX11_lettersIn 10 = .ok (.iadd, 1) := by decide +kernel
theorem dX11_lettersIn_11 : decode cX11_lettersIn 11 = .ok (.aload_n 0, 1) := by decide +kernel
theorem dX11_lettersIn_12 : decode cX11_lettersIn 12 = .ok (.arraylength, 1) := by decide +kernel
theorem dX11_lettersIn_13 : decode cX11_lettersIn 13 = .ok (.if_icmp .le 5, 3) := by decide +kernel
theorem dX11_lettersIn_18 : decode cX11_lettersIn 18 = .ok (.iload_n 1, 1) := by decide +kernel
theorem dX11_lettersIn_19 : decode cX11_lettersIn 19 = .ok (.istore 4, 2) := by decide +kernel
theorem dX11_lettersIn_21 : decode cX11_lettersIn 21 = .ok (.iload 4, 2) := by decide +kernel
theorem dX11_lettersIn_23 : decode cX11_lettersIn 23 = .ok (.iload_n 1, 1) := by decide +kernel
theorem dX11_lettersIn_24 : decode cX11_lettersIn 24 = .ok (.iload_n 2, 1) := by decide +kernel
theorem dX11_lettersIn_25 : decode cX11_lettersIn 25 = .ok (.iadd, 1) := by decide +kernel
theorem dX11_lettersIn_26 : decode cX11_lettersIn 26 = .ok (.if_icmp .ge 28, 3) := by decide +kernel
theorem dX11_lettersIn_54 : decode cX11_lettersIn 54 = .ok (.iconst 1, 1) := by decide +kernel
theorem dX11_lettersIn_55 : decode cX11_lettersIn 55 = .ok (.ireturn, 1) := by decide +kernel
theorem dX11_clear_0 : decode cX11_clear 0 = .ok (.aload_n 0, 1) := by decide +kernel
theorem dX11_clear_1 : decode cX11_clear 1 = .ok (.getfield 107, 3) := by decide +kernel
theorem dX11_clear_4 : decode cX11_clear 4 = .ok (.ifCond .eq 6, 3) := by decide +kernel
theorem dX11_clear_10 : decode cX11_clear 10 = .ok (.aload_n 0, 1) := by decide +kernel
theorem dX11_clear_11 : decode cX11_clear 11 = .ok (.getfield 70, 3) := by decide +kernel
theorem dX11_clear_14 : decode cX11_clear 14 = .ok (.getfield 117, 3) := by decide +kernel
theorem dX11_clear_17 : decode cX11_clear 17 = .ok (.istore_n 1, 1) := by decide +kernel
theorem dX11_clear_18 : decode cX11_clear 18 = .ok (.iload_n 1, 1) := by decide +kernel
theorem dX11_clear_19 : decode cX11_clear 19 = .ok (.ifCond .le 34, 3) := by decide +kernel
theorem dX11_clear_53 : decode cX11_clear 53 = .ok (.iload_n 1, 1) := by decide +kernel
theorem dX11_clear_54 : decode cX11_clear 54 = .ok (.ireturn, 1) := by decide +kernel
theorem dX11_fit_0 : decode cX11_fit 0 = .ok (.aload_n 0, 1) := by decide +kernel
theorem dX11_fit_1 : decode cX11_fit 1 = .ok (.getfield 107, 3) := by decide +kernel
theorem dX11_fit_4 : decode cX11_fit 4 = .ok (.ifCond .eq 6, 3) := by decide +kernel
theorem dX11_fit_10 : decode cX11_fit 10 = .ok (.aload_n 0, 1) := by decide +kernel
theorem dX11_fit_11 : decode cX11_fit 11 = .ok (.getfield 70, 3) := by decide +kernel
theorem dX11_fit_14 : decode cX11_fit 14 = .ok (.getfield 117, 3) := by decide +kernel
theorem dX11_fit_17 : decode cX11_fit 17 = .ok (.ifCond .ne 6, 3) := by decide +kernel
theorem dX11_fit_20 : decode cX11_fit 20 = .ok (.bipush (-2), 2) := by decide +kernel
theorem dX11_fit_22 : decode cX11_fit 22 = .ok (.ireturn, 1) := by decide +kernel
theorem dX11_fitting_0 : decode cX11_fitting 0 = .ok (.aload_n 0, 1) := by decide +kernel
theorem dX11_fitting_1 : decode cX11_fitting 1 = .ok (.getfield 107, 3) := by decide +kernel
theorem dX11_fitting_4 : decode cX11_fitting 4 = .ok (.ifCond .eq 7, 3) := by decide +kernel
theorem dX11_fitting_11 : decode cX11_fitting 11 = .ok (.iload_n 1, 1) := by decide +kernel
theorem dX11_fitting_12 : decode cX11_fitting 12 = .ok (.iconst 1, 1) := by decide +kernel
theorem dX11_fitting_13 : decode cX11_fitting 13 = .ok (.if_icmp .lt 8, 3) := by decide +kernel
theorem k_8_127 : Jvm.Cond.constantLong "FinderHouse" (443 : Nat) (-1 : Int64) ∈ tb := tb8 127 (by decide +kernel) (by decide +kernel)
theorem dX11_fitting_21 : decode cX11_fitting 21 = .ok (.ldc2_w 443, 3) := by decide +kernel
theorem dX11_fitting_24 : decode cX11_fitting 24 = .ok (.lreturn, 1) := by decide +kernel
theorem dX11_fitting_16 : decode cX11_fitting 16 = .ok (.iload_n 1, 1) := by decide +kernel
theorem dX11_fitting_17 : decode cX11_fitting 17 = .ok (.iconst 4, 1) := by decide +kernel
theorem dX11_fitting_18 : decode cX11_fitting 18 = .ok (.if_icmp .le 7, 3) := by decide +kernel
theorem dX11_fitting_25 : decode cX11_fitting 25 = .ok (.aload_n 0, 1) := by decide +kernel
theorem dX11_fitting_26 : decode cX11_fitting 26 = .ok (.getfield 70, 3) := by decide +kernel
theorem dX11_fitting_29 : decode cX11_fitting 29 = .ok (.getfield 117, 3) := by decide +kernel
theorem dX11_fitting_32 : decode cX11_fitting 32 = .ok (.ifCond .ne 7, 3) := by decide +kernel
theorem k_8_128 : Jvm.Cond.constantLong "FinderHouse" (445 : Nat) (-2 : Int64) ∈ tb := tb8 128 (by decide +kernel) (by decide +kernel)
theorem dX11_fitting_35 : decode cX11_fitting 35 = .ok (.ldc2_w 445, 3) := by decide +kernel
theorem dX11_fitting_38 : decode cX11_fitting 38 = .ok (.lreturn, 1) := by decide +kernel
theorem dX10_tellPart_0 : decode cX10_tellPart 0 = .ok (.aload_n 0, 1) := by decide +kernel
theorem k_3_194 : Jvm.Cond.fieldLink "FinderHouse$WordRows" (152 : Nat) "FinderHouse$WordRows" "parts" "I" ∈ tb := tb3 194 (by decide +kernel) (by decide +kernel)
theorem dX10_tellPart_1 : decode cX10_tellPart 1 = .ok (.getfield 152, 3) := by decide +kernel
theorem dX10_tellPart_4 : decode cX10_tellPart 4 = .ok (.ifCond .ne 5, 3) := by decide +kernel
theorem dX10_tellPart_7 : decode cX10_tellPart 7 = .ok (.iconst (-1), 1) := by decide +kernel
theorem dX10_tellPart_8 : decode cX10_tellPart 8 = .ok (.ireturn, 1) := by decide +kernel
theorem dX11_part_0 : decode cX11_part 0 = .ok (.aload_n 0, 1) := by decide +kernel
theorem dX11_part_1 : decode cX11_part 1 = .ok (.getfield 70, 3) := by decide +kernel
theorem dX11_part_4 : decode cX11_part 4 = .ok (.iload_n 1, 1) := by decide +kernel
theorem dX11_part_5 : decode cX11_part 5 = .ok (.iload_n 2, 1) := by decide +kernel
theorem k_8_141 : Jvm.Cond.code ({ cls := "FinderHouse$WordRows", name := "tellPart", desc := "(II)I" } : Jvm.MethodName) prog_12_method_23_code (4 : Nat) (Option.some Jvm.ClassFile.FieldType.int) ∈ tb := tb8 141 (by decide +kernel) (by decide +kernel)
theorem k_8_138 : Jvm.Cond.methodLink "FinderHouse" (452 : Nat) ({ cls := "FinderHouse$WordRows", name := "tellPart", desc := "(II)I" } : Jvm.MethodName) ∈ tb := tb8 138 (by decide +kernel) (by decide +kernel)
theorem k_8_139 : Jvm.Cond.instanceMethod ({ cls := "FinderHouse$WordRows", name := "tellPart", desc := "(II)I" } : Jvm.MethodName) ∈ tb := tb8 139 (by decide +kernel) (by decide +kernel)
theorem k_8_140 : Jvm.Cond.selects "FinderHouse$WordRows" ({ cls := "FinderHouse$WordRows", name := "tellPart", desc := "(II)I" } : Jvm.MethodName) ({ cls := "FinderHouse$WordRows", name := "tellPart", desc := "(II)I" } : Jvm.MethodName) ∈ tb := tb8 140 (by decide +kernel) (by decide +kernel)
theorem k_1_14 : Jvm.Cond.initialized "FinderHouse$WordRows" ∈ tb := tb1 14 (by decide +kernel) (by decide +kernel)
theorem dX11_part_6 : decode cX11_part 6 = .ok (.invokevirtual 452, 3) := by decide +kernel
theorem dX11_part_9 : decode cX11_part 9 = .ok (.ireturn, 1) := by decide +kernel
theorem dX11_apply_0 : decode cX11_apply 0 = .ok (.aload_n 0, 1) := by decide +kernel
theorem dX11_apply_1 : decode cX11_apply 1 = .ok (.getfield 107, 3) := by decide +kernel
theorem dX11_apply_4 : decode cX11_apply 4 = .ok (.ifCond .eq 6, 3) := by decide +kernel
theorem dX11_apply_10 : decode cX11_apply 10 = .ok (.aload_n 0, 1) := by decide +kernel
theorem dX11_apply_11 : decode cX11_apply 11 = .ok (.invokevirtual 158, 3) := by decide +kernel
theorem dX11_apply_14 : decode cX11_apply 14 = .ok (.istore_n 1, 1) := by decide +kernel
theorem dX11_apply_15 : decode cX11_apply 15 = .ok (.iload_n 1, 1) := by decide +kernel
theorem dX11_apply_16 : decode cX11_apply 16 = .ok (.bipush 10, 2) := by decide +kernel
theorem dX11_apply_18 : decode cX11_apply 18 = .ok (.if_icmp .gt 17, 3) := by decide +kernel
theorem dX11_apply_21 : decode cX11_apply 21 = .ok (.aload_n 0, 1) := by decide +kernel
theorem dX11_apply_22 : decode cX11_apply 22 = .ok (.getfield 9, 3) := by decide +kernel
theorem dX11_apply_25 : decode cX11_apply 25 = .ok (.iconst 0, 1) := by decide +kernel
theorem dX11_apply_26 : decode cX11_apply 26 = .ok (.iload_n 1, 1) := by decide +kernel
theorem dX11_apply_27 : decode cX11_apply 27 = .ok (.bipush 122, 2) := by decide +kernel
theorem k_8_31 : Jvm.Cond.code ({ cls := "FinderHouse", name := "lettersIn", desc := "([BIII)Z" } : Jvm.MethodName) prog_1_method_43_code (5 : Nat) (Option.some Jvm.ClassFile.FieldType.boolean) ∈ tb := tb8 31 (by decide +kernel) (by decide +kernel)
theorem k_8_29 : Jvm.Cond.methodLink "FinderHouse" (424 : Nat) ({ cls := "FinderHouse", name := "lettersIn", desc := "([BIII)Z" } : Jvm.MethodName) ∈ tb := tb8 29 (by decide +kernel) (by decide +kernel)
theorem k_8_30 : Jvm.Cond.static ({ cls := "FinderHouse", name := "lettersIn", desc := "([BIII)Z" } : Jvm.MethodName) ∈ tb := tb8 30 (by decide +kernel) (by decide +kernel)
theorem dX11_apply_29 : decode cX11_apply 29 = .ok (.invokestatic 424, 3) := by decide +kernel
theorem dX11_apply_32 : decode cX11_apply 32 = .ok (.ifCond .ne 5, 3) := by decide +kernel
theorem dX11_apply_37 : decode cX11_apply 37 = .ok (.aload_n 0, 1) := by decide +kernel
theorem dX11_apply_38 : decode cX11_apply 38 = .ok (.getfield 70, 3) := by decide +kernel
theorem k_3_195 : Jvm.Cond.fieldLink "FinderHouse" (455 : Nat) "FinderHouse$WordRows" "parts" "I" ∈ tb := tb3 195 (by decide +kernel) (by decide +kernel)
theorem dX11_apply_41 : decode cX11_apply 41 = .ok (.getfield 455, 3) := by decide +kernel
theorem dX11_apply_44 : decode cX11_apply 44 = .ok (.ifCond .ne 6, 3) := by decide +kernel
theorem dX11_apply_47 : decode cX11_apply 47 = .ok (.bipush (-2), 2) := by decide +kernel
theorem dX11_apply_49 : decode cX11_apply 49 = .ok (.ireturn, 1) := by decide +kernel
theorem dX11_forget_0 : decode cX11_forget 0 = .ok (.aload_n 0, 1) := by decide +kernel
theorem dX11_forget_1 : decode cX11_forget 1 = .ok (.getfield 107, 3) := by decide +kernel
theorem dX11_forget_4 : decode cX11_forget 4 = .ok (.ifCond .eq 6, 3) := by decide +kernel
theorem dX11_forget_10 : decode cX11_forget 10 = .ok (.aload_n 0, 1) := by decide +kernel
theorem dX11_forget_11 : decode cX11_forget 11 = .ok (.getfield 77, 3) := by decide +kernel
theorem dX11_forget_14 : decode cX11_forget 14 = .ok (.getfield 120, 3) := by decide +kernel
theorem dX11_forget_17 : decode cX11_forget 17 = .ok (.istore_n 1, 1) := by decide +kernel
theorem dX11_forget_18 : decode cX11_forget 18 = .ok (.iload_n 1, 1) := by decide +kernel
theorem dX11_forget_19 : decode cX11_forget 19 = .ok (.ifCond .le 34, 3) := by decide +kernel
theorem dX11_forget_53 : decode cX11_forget 53 = .ok (.iload_n 1, 1) := by decide +kernel
theorem dX11_forget_54 : decode cX11_forget 54 = .ok (.ireturn, 1) := by decide +kernel
theorem dX11_start_0 : decode cX11_start 0 = .ok (.aload_n 0, 1) := by decide +kernel
theorem dX11_start_1 : decode cX11_start 1 = .ok (.getfield 107, 3) := by decide +kernel
theorem dX11_start_4 : decode cX11_start 4 = .ok (.ifCond .ne 6, 3) := by decide +kernel
theorem dX11_start_7 : decode cX11_start 7 = .ok (.bipush (-2), 2) := by decide +kernel
theorem dX11_start_9 : decode cX11_start 9 = .ok (.ireturn, 1) := by decide +kernel
theorem dX2_forgetWaiting_0 : decode cX2_forgetWaiting 0 = .ok (.aload_n 0, 1) := by decide +kernel
theorem dX2_forgetWaiting_1 : decode cX2_forgetWaiting 1 = .ok (.iconst 0, 1) := by decide +kernel
theorem k_4_68 : Jvm.Cond.fieldLink "FinderHouse$Disk" (32 : Nat) "FinderHouse$Disk" "waiting" "I" ∈ tb := tb4 68 (by decide +kernel) (by decide +kernel)
theorem dX2_forgetWaiting_2 : decode cX2_forgetWaiting 2 = .ok (.putfield 32, 3) := by decide +kernel
theorem dX2_forgetWaiting_5 : decode cX2_forgetWaiting 5 = .ok (.aload_n 0, 1) := by decide +kernel
theorem dX2_forgetWaiting_6 : decode cX2_forgetWaiting 6 = .ok (.iconst 0, 1) := by decide +kernel
theorem k_4_70 : Jvm.Cond.fieldLink "FinderHouse$Disk" (22 : Nat) "FinderHouse$Disk" "waitingBytes" "I" ∈ tb := tb4 70 (by decide +kernel) (by decide +kernel)
theorem dX2_forgetWaiting_7 : decode cX2_forgetWaiting 7 = .ok (.putfield 22, 3) := by decide +kernel
theorem dX2_forgetWaiting_10 : decode cX2_forgetWaiting 10 = .ok (.return_, 1) := by decide +kernel
theorem dX2_writeWaiting_0 : decode cX2_writeWaiting 0 = .ok (.aload_n 0, 1) := by decide +kernel
theorem dX2_writeWaiting_1 : decode cX2_writeWaiting 1 = .ok (.getfield 22, 3) := by decide +kernel
theorem dX2_writeWaiting_4 : decode cX2_writeWaiting 4 = .ok (.bipush 121, 2) := by decide +kernel
theorem dX2_writeWaiting_6 : decode cX2_writeWaiting 6 = .ok (.iadd, 1) := by decide +kernel
theorem dX2_writeWaiting_7 : decode cX2_writeWaiting 7 = .ok (.iconst 1, 1) := by decide +kernel
theorem dX2_writeWaiting_8 : decode cX2_writeWaiting 8 = .ok (.isub, 1) := by decide +kernel
theorem dX2_writeWaiting_9 : decode cX2_writeWaiting 9 = .ok (.bipush 121, 2) := by decide +kernel
theorem dX2_writeWaiting_11 : decode cX2_writeWaiting 11 = .ok (.idiv, 1) := by decide +kernel
theorem dX2_writeWaiting_12 : decode cX2_writeWaiting 12 = .ok (.istore_n 1, 1) := by decide +kernel
theorem dX2_writeWaiting_13 : decode cX2_writeWaiting 13 = .ok (.iconst 0, 1) := by decide +kernel
theorem dX2_writeWaiting_14 : decode cX2_writeWaiting 14 = .ok (.istore_n 2, 1) := by decide +kernel
theorem dX2_writeWaiting_15 : decode cX2_writeWaiting 15 = .ok (.iload_n 2, 1) := by decide +kernel
theorem dX2_writeWaiting_16 : decode cX2_writeWaiting 16 = .ok (.iload_n 1, 1) := by decide +kernel
theorem dX2_writeWaiting_17 : decode cX2_writeWaiting 17 = .ok (.if_icmp .ge 123, 3) := by decide +kernel
theorem dX2_writeWaiting_140 : decode cX2_writeWaiting 140 = .ok (.aload_n 0, 1) := by decide +kernel
theorem dX2_writeWaiting_141 : decode cX2_writeWaiting 141 = .ok (.dup, 1) := by decide +kernel
theorem k_4_64 : Jvm.Cond.fieldLink "FinderHouse$Disk" (25 : Nat) "FinderHouse$Disk" "used" "I" ∈ tb := tb4 64 (by decide +kernel) (by decide +kernel)
theorem dX2_writeWaiting_142 : decode cX2_writeWaiting 142 = .ok (.getfield 25, 3) := by decide +kernel
theorem dX2_writeWaiting_145 : decode cX2_writeWaiting 145 = .ok (.iload_n 1, 1) := by decide +kernel
theorem dX2_writeWaiting_146 : decode cX2_writeWaiting 146 = .ok (.iadd, 1) := by decide +kernel
theorem dX2_writeWaiting_147 : decode cX2_writeWaiting 147 = .ok (.putfield 25, 3) := by decide +kernel
theorem dX2_writeWaiting_150 : decode cX2_writeWaiting 150 = .ok (.aload_n 0, 1) := by decide +kernel
theorem k_9_49 : Jvm.Cond.code ({ cls := "FinderHouse$Disk", name := "forgetWaiting", desc := "()V" } : Jvm.MethodName) prog_4_method_8_code (1 : Nat) (Option.none : Option Jvm.ClassFile.FieldType) ∈ tb := tb9 49 (by decide +kernel) (by decide +kernel)
theorem k_9_46 : Jvm.Cond.methodLink "FinderHouse$Disk" (46 : Nat) ({ cls := "FinderHouse$Disk", name := "forgetWaiting", desc := "()V" } : Jvm.MethodName) ∈ tb := tb9 46 (by decide +kernel) (by decide +kernel)
theorem k_9_47 : Jvm.Cond.instanceMethod ({ cls := "FinderHouse$Disk", name := "forgetWaiting", desc := "()V" } : Jvm.MethodName) ∈ tb := tb9 47 (by decide +kernel) (by decide +kernel)
theorem k_9_48 : Jvm.Cond.selects "FinderHouse$Disk" ({ cls := "FinderHouse$Disk", name := "forgetWaiting", desc := "()V" } : Jvm.MethodName) ({ cls := "FinderHouse$Disk", name := "forgetWaiting", desc := "()V" } : Jvm.MethodName) ∈ tb := tb9 48 (by decide +kernel) (by decide +kernel)
theorem k_1_16 : Jvm.Cond.initialized "FinderHouse$Disk" ∈ tb := tb1 16 (by decide +kernel) (by decide +kernel)
theorem dX2_writeWaiting_151 : decode cX2_writeWaiting 151 = .ok (.invokevirtual 46, 3) := by decide +kernel
theorem dX2_writeWaiting_154 : decode cX2_writeWaiting 154 = .ok (.iload_n 1, 1) := by decide +kernel
theorem dX2_writeWaiting_155 : decode cX2_writeWaiting 155 = .ok (.ireturn, 1) := by decide +kernel
theorem dX11_sync_0 : decode cX11_sync 0 = .ok (.aload_n 0, 1) := by decide +kernel
theorem dX11_sync_1 : decode cX11_sync 1 = .ok (.getfield 107, 3) := by decide +kernel
theorem dX11_sync_4 : decode cX11_sync 4 = .ok (.ifCond .eq 6, 3) := by decide +kernel
theorem dX11_sync_10 : decode cX11_sync 10 = .ok (.aload_n 0, 1) := by decide +kernel
theorem dX11_sync_11 : decode cX11_sync 11 = .ok (.getfield 84, 3) := by decide +kernel
theorem k_9_33 : Jvm.Cond.code ({ cls := "FinderHouse$Disk", name := "writeWaiting", desc := "()I" } : Jvm.MethodName) prog_4_method_9_code (4 : Nat) (Option.some Jvm.ClassFile.FieldType.int) ∈ tb := tb9 33 (by decide +kernel) (by decide +kernel)
theorem k_9_30 : Jvm.Cond.methodLink "FinderHouse" (492 : Nat) ({ cls := "FinderHouse$Disk", name := "writeWaiting", desc := "()I" } : Jvm.MethodName) ∈ tb := tb9 30 (by decide +kernel) (by decide +kernel)
theorem k_9_31 : Jvm.Cond.instanceMethod ({ cls := "FinderHouse$Disk", name := "writeWaiting", desc := "()I" } : Jvm.MethodName) ∈ tb := tb9 31 (by decide +kernel) (by decide +kernel)
theorem k_9_32 : Jvm.Cond.selects "FinderHouse$Disk" ({ cls := "FinderHouse$Disk", name := "writeWaiting", desc := "()I" } : Jvm.MethodName) ({ cls := "FinderHouse$Disk", name := "writeWaiting", desc := "()I" } : Jvm.MethodName) ∈ tb := tb9 32 (by decide +kernel) (by decide +kernel)
theorem dX11_sync_14 : decode cX11_sync 14 = .ok (.invokevirtual 492, 3) := by decide +kernel
theorem dX11_sync_17 : decode cX11_sync 17 = .ok (.istore_n 1, 1) := by decide +kernel
theorem dX11_sync_18 : decode cX11_sync 18 = .ok (.aload_n 0, 1) := by decide +kernel
theorem dX11_sync_19 : decode cX11_sync 19 = .ok (.iload_n 1, 1) := by decide +kernel
theorem dX11_sync_20 : decode cX11_sync 20 = .ok (.bipush (-4), 2) := by decide +kernel
theorem dX11_sync_22 : decode cX11_sync 22 = .ok (.if_icmp .ne 7, 3) := by decide +kernel
theorem dX11_sync_29 : decode cX11_sync 29 = .ok (.iconst 0, 1) := by decide +kernel
theorem dX11_sync_30 : decode cX11_sync 30 = .ok (.putfield 107, 3) := by decide +kernel
theorem dX11_sync_33 : decode cX11_sync 33 = .ok (.iload_n 1, 1) := by decide +kernel
theorem dX11_sync_34 : decode cX11_sync 34 = .ok (.ireturn, 1) := by decide +kernel
theorem neg_lt {p : Int32} (h0 : ¬ p < 0) (h1 : ¬ 10 < p) : 0 - p < 1 := by
  obtain ⟨j, hj, rfl⟩ := nI_of2 (M := 10) (n := 10) (by decide) h0 (Int32.not_lt.mp h1)
  have h : ∀ j, j < 11 → (0 : Int32) - nI j < 1 := by decide
  exact h j (by omega)
theorem cwS2 {R : Room} {s : State} {args : Array Value} {Ts ws ws' : List Cond} {y : MethodName} {bytes : ByteArray} {maxL index mc ms : Nat} {own : String} {ret : Option FieldType} {rm : Room} (n : Nat) (ht : ∀ w ∈ Ts, w.before args s = true) (hG : GoodIn Ts ws) (hw : ws = Cond.code y bytes maxL ret :: ws') (hrc : rm.cells = mc) (hrs : rm.slots = ms) (hini : (Cond.initialized y.cls).before args s = true) (hl : (Cond.methodLink own index y).before args s = true) (hst : (Cond.static y).before args s = true) (hd : y.cls ≠ "java/lang/invoke/MethodHandle" ∧ y.cls ≠ "java/lang/invoke/VarHandle" ∧ (parseMethodDescriptor y.desc).map (fun d => d.parameters.length) = some n) (hR : rm.frames + 1 ≤ R.frames ∧ 8 + (maxL + 11) + rm.locals ≤ R.locals) :
    CallB R s args own index y bytes maxL ret ws rm mc ms n ∧ (Cond.static y).before args s = true := ⟨callB_of n ht hG hw hrc hrs hini hl hd hR, hst⟩
def sp_fitting (p : Int32) : Int64 := if p < 1 then -1 else if p ≤ 4 then -2 else -1
def sp_cut (n t : Int32) : Int32 := if n < -1 then -1 else if 400 < n then -1 else if t < 0 then -1 else if t ≤ 127 then 1 else -1
set_option maxHeartbeats 4000000 in
set_option maxRecDepth 100000 in
theorem x_cut (l : Launch) (dC : Nat → ClassId) (dI : Nat → Nat → Nat) (sz : Nat) (q : Nat) (fs : List Value) (d : Nat) (gd : List Value) (p0 : Int32) (p1 : Int32) (L_fs : fs.length = 18) (K2_fs : fs[2]? = some (.int 0)) (K17_fs : fs[17]? = some (.ref d)) (L_gd : gd.length = 7) : Met l yX11_cut (Cond.code yX11_cut cX11_cut 3 (some .int) :: tb) ({ frames := 0, cells := 0, slots := 0, locals := 0 }) (pcw [.ref q, .int p0, .int p1] (dC, dI) [(q, .inr (11, fs)), (d, .inr (2, gd))] [] sz) (va_Qi (fun (r : Int32) => (fun (_ : Unit) => r = sp_cut p0 p1)) (bw (dC, dI) (va_A [(q, .inr (11, fs)), (d, .inr (2, gd))] sz) (fun (_ : Unit) => []) (fun (_ : Unit) => [])) (va_A [(q, .inr (11, fs)), (d, .inr (2, gd))] sz)) 0 0 (va_A [(q, .inr (11, fs)), (d, .inr (2, gd))] sz) := by
  refine Met.ofW (cc := cX11_cut) (maxL := 3) (ret := (some .int)) (by decide) rfl ?_
  intro p e s m args below meth c s₁ B hml hv
  obtain ⟨rfl, hsz, hP, hK, hD0⟩ := hv
  have hx := B.exec
  have hb := B.bytes
  have hr := B.returns
  have hts := atoms_spec (ws := Cond.code yX11_cut cX11_cut 3 (some .int) :: tb) B.pre
  have ht : ∀ w ∈ tb, w.before _ s = true := fun w h => hts w (List.mem_cons_of_mem _ h)
  have hown : s.vm.findClass RX11 = some m.cls := findClass_of_methodNamed B.named
  have hlocks := B.notSynchronized
  subst hsz
  have hD := hD0.self (sz := s.heap.size)
  generalize hAe : va_A [(q, .inr (11, fs)), (d, .inr (2, gd))] s.heap.size = A at hD ⊢
  have hA : ∀ q : Nat, s.heap.size ≤ q → A q := fun q h => by rw [← hAe]; exact Or.inr h
  have hS : va_S A s.heap s.heap [] := va_S.rf
  have hl := lv_entry ([.ref q, .int p0, .int p1]) (n := 3) (Nat.le_of_ble_eq_true rfl)
  rw [lg_entry_eq]
  generalize (lg_sl ([.ref q, .int p0, .int p1]) ++ List.replicate (3 - (lg_sl ([.ref q, .int p0, .int p1])).length) Slot.unset).toArray = ls at hl ⊢
  have hl : lv_has ls 3 [(0, .ref q), (1, .int p0), (2, .int p1)] := hl
  have hP : va_P (dC, dI) cls [(q, .inr (11, fs)), (d, .inr (2, gd))] s.heap := hP
  refine lv_aload_n hx hb dX11_cut_0 rfl (lv_at hl 0 rfl) ?_
  refine va_get (D := (dC, dI)) (ci := 11) (v := .int 0) (C := RX11) (T := TX11) (N := 18) hx hb ht uX11 hown hK hP 0 rfl rfl 2 (by decide) (ht _ k_4_93) (fun _ h9 => h9) K2_fs dX11_cut_1 ?_
  refine lv_if_eq (tgt := 10) hx hb dX11_cut_4 (by decide) (fun _ => ?_) (fun c0 => absurd c0 (by decide))
  refine lv_iload_n hx hb dX11_cut_10 rfl (lv_at hl 1 rfl) ?_
  refine lv_iconst (v := (-1)) hx hb dX11_cut_11 (by decide) ?_
  refine lv_icmp_lt (tgt := 32) hx hb dX11_cut_12 (by decide) (fun b1 => ?_) (fun b1 => ?_)
  · refine lv_iconst (v := (-1)) hx hb dX11_cut_32 (by decide) ?_
    exact W.iret (v := (-1)) hx hb hr (fun t ht9 hW => ⟨⟨(-1), (), rfl, (by simp [sp_cut, b1]), by rw [ht9]; exact hP.sub [] rfl, va_K.moved hW.alike (hK.sub [] rfl), hD.sub [] (by decide) rfl⟩, hS.F ht9⟩) hS.2.2 dX11_cut_33
  · refine lv_iload_n hx hb dX11_cut_15 rfl (lv_at hl 1 rfl) ?_
    refine lv_sipush (v := 400) hx hb dX11_cut_16 (by decide) ?_
    refine lv_icmp_gt (tgt := 32) hx hb dX11_cut_19 (by decide) (fun b2 => ?_) (fun b2 => ?_)
    · refine lv_iconst (v := (-1)) hx hb dX11_cut_32 (by decide) ?_
      exact W.iret (v := (-1)) hx hb hr (fun t ht9 hW => ⟨⟨(-1), (), rfl, (by simp [sp_cut, b1, b2]), by rw [ht9]; exact hP.sub [] rfl, va_K.moved hW.alike (hK.sub [] rfl), hD.sub [] (by decide) rfl⟩, hS.F ht9⟩) hS.2.2 dX11_cut_33
    · refine lv_iload_n hx hb dX11_cut_22 rfl (lv_at hl 2 rfl) ?_
      refine lv_if_lt (tgt := 32) hx hb dX11_cut_23 (by decide) (fun b3 => ?_) (fun b3 => ?_)
      · refine lv_iconst (v := (-1)) hx hb dX11_cut_32 (by decide) ?_
        exact W.iret (v := (-1)) hx hb hr (fun t ht9 hW => ⟨⟨(-1), (), rfl, (by simp [sp_cut, b1, b2, b3]), by rw [ht9]; exact hP.sub [] rfl, va_K.moved hW.alike (hK.sub [] rfl), hD.sub [] (by decide) rfl⟩, hS.F ht9⟩) hS.2.2 dX11_cut_33
      · refine lv_iload_n hx hb dX11_cut_26 rfl (lv_at hl 2 rfl) ?_
        refine lv_bipush (v := 127) hx hb dX11_cut_27 (by decide) ?_
        refine lv_icmp_le (tgt := 34) hx hb dX11_cut_29 (by decide) (fun b4 => ?_) (fun b4 => ?_)
        · refine lv_aload_n hx hb dX11_cut_34 rfl (lv_at hl 0 rfl) ?_
          refine va_get (D := (dC, dI)) (ci := 11) (v := .ref d) (C := RX11) (T := TX11) (N := 18) hx hb ht uX11 hown hK hP 0 rfl rfl 17 (by decide) (ht _ k_4_108) (fun _ h9 => h9) K17_fs dX11_cut_35 ?_
          refine lv_iload_n hx hb dX11_cut_38 rfl (lv_at hl 1 rfl) ?_
          refine va_put (D := (dC, dI)) (ci := 2) (v := .int p0) (ty := .int) (C := RX2) (T := TX2) (N := 7) hx hb ht uX2 tyX2 tkX2 nmX2 hown hK hP hD hS 1 rfl rfl 5 (by decide) (ht _ k_4_73) (fun _ h9 => h9) rfl (by decide +kernel) rfl rfl (by rw [L_gd]; decide) dX11_cut_39 (fun H locs hP hD hS => ?_)
          obtain ⟨F5, eF5⟩ : ∃ g : List Value, g = gd.set 5 (.int p0) := ⟨_, rfl⟩
          rw [← eF5] at hP hD
          have K5_F5 : F5[5]? = some (.int p0) := by rw [eF5]; exact List.getElem?_set_self (by rw [L_gd]; decide)
          have L_F5 : F5.length = 7 := by rw [eF5, List.length_set]; exact L_gd
          have hP : va_P (dC, dI) cls [(q, .inr (11, fs)), (d, .inr (2, F5))] H := hP
          have hD : va_D A [(q, .inr (11, fs)), (d, .inr (2, F5))] := hD
          refine lv_aload_n hx hb dX11_cut_42 rfl (lv_at hl 0 rfl) ?_
          refine va_get (D := (dC, dI)) (ci := 11) (v := .ref d) (C := RX11) (T := TX11) (N := 18) hx hb ht uX11 hown hK hP 0 rfl rfl 17 (by decide) (ht _ k_4_108) (fun _ h9 => h9) K17_fs dX11_cut_43 ?_
          refine lv_iload_n hx hb dX11_cut_46 rfl (lv_at hl 2 rfl) ?_
          refine va_put (D := (dC, dI)) (ci := 2) (v := .int p1) (ty := .int) (C := RX2) (T := TX2) (N := 7) hx hb ht uX2 tyX2 tkX2 nmX2 hown hK hP hD hS 1 rfl rfl 6 (by decide) (ht _ k_4_75) (fun _ h9 => h9) rfl (by decide +kernel) rfl rfl (by rw [L_F5]; decide) dX11_cut_47 (fun H locs hP hD hS => ?_)
          obtain ⟨F6, eF6⟩ : ∃ g : List Value, g = F5.set 6 (.int p1) := ⟨_, rfl⟩
          rw [← eF6] at hP hD
          have K5_F6 : F6[5]? = some (.int p0) := by rw [eF6, List.getElem?_set_ne (by decide)]; exact K5_F5
          have K6_F6 : F6[6]? = some (.int p1) := by rw [eF6]; exact List.getElem?_set_self (by rw [L_F5]; decide)
          have L_F6 : F6.length = 7 := by rw [eF6, List.length_set]; exact L_F5
          have hP : va_P (dC, dI) cls [(q, .inr (11, fs)), (d, .inr (2, F6))] H := hP
          have hD : va_D A [(q, .inr (11, fs)), (d, .inr (2, F6))] := hD
          refine lv_iconst (v := 1) hx hb dX11_cut_50 (by decide) ?_
          exact W.iret (v := 1) hx hb hr (fun t ht9 hW => ⟨⟨1, (), rfl, (by simp [sp_cut, b1, b2, b3, b4]), by rw [ht9]; exact hP.sub [] rfl, va_K.moved hW.alike (hK.sub [] rfl), hD.sub [] (by decide) rfl⟩, hS.F ht9⟩) hS.2.2 dX11_cut_51
        · refine lv_iconst (v := (-1)) hx hb dX11_cut_32 (by decide) ?_
          exact W.iret (v := (-1)) hx hb hr (fun t ht9 hW => ⟨⟨(-1), (), rfl, (by simp [sp_cut, b1, b2, b3, b4]), by rw [ht9]; exact hP.sub [] rfl, va_K.moved hW.alike (hK.sub [] rfl), hD.sub [] (by decide) rfl⟩, hS.F ht9⟩) hS.2.2 dX11_cut_33
set_option maxHeartbeats 4000000 in
set_option maxRecDepth 100000 in
theorem m5_tellState (l : Launch) (dC : Nat → ClassId) (dI : Nat → Nat → Nat) (sz : Nat) (q : Nat) (fs : List Value) (p0 : Int32) (p1 : Int32) (L_fs : fs.length = 15) (K4_fs : fs[4]? = some (.int 0)) : Met l yX5_tellState (Cond.code yX5_tellState cX5_tellState 3 (some .int) :: tb) ({ frames := 0, cells := 0, slots := 0, locals := 0 }) (pcw [.ref q, .int p0, .int p1] (dC, dI) [(q, .inr (5, fs))] [] sz) (va_Qi (fun (r : Int32) => (fun (_ : Unit) => r = -1)) (bw (dC, dI) (va_A [(q, .inr (5, fs))] sz) (fun (_ : Unit) => []) (fun (_ : Unit) => [])) (va_A [(q, .inr (5, fs))] sz)) 0 0 (va_A [(q, .inr (5, fs))] sz) := by
  refine Met.ofW (cc := cX5_tellState) (maxL := 3) (ret := (some .int)) (by decide) rfl ?_
  intro p e s m args below meth c s₁ B hml hv
  obtain ⟨rfl, hsz, hP, hK, hD0⟩ := hv
  have hx := B.exec
  have hb := B.bytes
  have hr := B.returns
  have hts := atoms_spec (ws := Cond.code yX5_tellState cX5_tellState 3 (some .int) :: tb) B.pre
  have ht : ∀ w ∈ tb, w.before _ s = true := fun w h => hts w (List.mem_cons_of_mem _ h)
  have hown : s.vm.findClass RX5 = some m.cls := findClass_of_methodNamed B.named
  have hlocks := B.notSynchronized
  subst hsz
  have hD := hD0.self (sz := s.heap.size)
  generalize hAe : va_A [(q, .inr (5, fs))] s.heap.size = A at hD ⊢
  have hA : ∀ q : Nat, s.heap.size ≤ q → A q := fun q h => by rw [← hAe]; exact Or.inr h
  have hS : va_S A s.heap s.heap [] := va_S.rf
  have hl := lv_entry ([.ref q, .int p0, .int p1]) (n := 3) (Nat.le_of_ble_eq_true rfl)
  rw [lg_entry_eq]
  generalize (lg_sl ([.ref q, .int p0, .int p1]) ++ List.replicate (3 - (lg_sl ([.ref q, .int p0, .int p1])).length) Slot.unset).toArray = ls at hl ⊢
  have hl : lv_has ls 3 [(0, .ref q), (1, .int p0), (2, .int p1)] := hl
  have hP : va_P (dC, dI) cls [(q, .inr (5, fs))] s.heap := hP
  refine lv_iload_n hx hb dX5_tellState_0 rfl (lv_at hl 1 rfl) ?_
  refine lv_if_lt (tgt := 21) hx hb dX5_tellState_1 (by decide) (fun b1 => ?_) (fun b1 => ?_)
  · refine lv_iconst (v := (-1)) hx hb dX5_tellState_21 (by decide) ?_
    exact W.iret (v := (-1)) hx hb hr (fun t ht9 hW => ⟨⟨(-1), (), rfl, rfl, by rw [ht9]; exact hP.sub [] rfl, va_K.moved hW.alike (hK.sub [] rfl), hD.sub [] (by decide) rfl⟩, hS.F ht9⟩) hS.2.2 dX5_tellState_22
  · refine lv_iload_n hx hb dX5_tellState_4 rfl (lv_at hl 1 rfl) ?_
    refine lv_aload_n hx hb dX5_tellState_5 rfl (lv_at hl 0 rfl) ?_
    refine va_get (D := (dC, dI)) (ci := 5) (v := .int 0) (C := RX5) (T := TX5) (N := 15) hx hb ht uX5 hown hK hP 0 rfl rfl 4 (by decide) (ht _ k_4_12) (fun _ h9 => h9) K4_fs dX5_tellState_6 ?_
    refine lv_icmp_ge (tgt := 21) hx hb dX5_tellState_9 (by decide) (fun _ => ?_) (fun c0 => absurd (by have z0 := Int32.le_iff_toInt_le.mp (Int32.not_lt.mp b1); have y0 : (0 : Int32).toInt = 0 := (by decide); exact Int32.le_iff_toInt_le.mpr (by omega)) c0)
    refine lv_iconst (v := (-1)) hx hb dX5_tellState_21 (by decide) ?_
    exact W.iret (v := (-1)) hx hb hr (fun t ht9 hW => ⟨⟨(-1), (), rfl, rfl, by rw [ht9]; exact hP.sub [] rfl, va_K.moved hW.alike (hK.sub [] rfl), hD.sub [] (by decide) rfl⟩, hS.F ht9⟩) hS.2.2 dX5_tellState_22
set_option maxHeartbeats 4000000 in
set_option maxRecDepth 100000 in
theorem x_state (l : Launch) (dC : Nat → ClassId) (dI : Nat → Nat → Nat) (sz : Nat) (q : Nat) (fs : List Value) (a : Nat) (ga : List Value) (p0 : Int32) (p1 : Int32) (L_fs : fs.length = 18) (K16_fs : fs[16]? = some (.ref a)) (L_ga : ga.length = 15) (K4_ga : ga[4]? = some (.int 0)) : Met l yX11_state (Cond.code yX11_state cX11_state 3 (some .int) :: tb) ({ frames := 1, cells := 0, slots := 0, locals := 22 }) (pcw [.ref q, .int p0, .int p1] (dC, dI) [(q, .inr (11, fs)), (a, .inr (5, ga))] [] sz) (va_Qi (fun (r : Int32) => (fun (_ : Unit) => r = -1)) (bw (dC, dI) (va_A [(q, .inr (11, fs)), (a, .inr (5, ga))] sz) (fun (_ : Unit) => []) (fun (_ : Unit) => [])) (va_A [(q, .inr (11, fs)), (a, .inr (5, ga))] sz)) 0 0 (va_A [(q, .inr (11, fs)), (a, .inr (5, ga))] sz) := by
  refine Met.ofW (cc := cX11_state) (maxL := 3) (ret := (some .int)) (by decide) rfl ?_
  intro p e s m args below meth c s₁ B hml hv
  obtain ⟨rfl, hsz, hP, hK, hD0⟩ := hv
  have hx := B.exec
  have hb := B.bytes
  have hr := B.returns
  have hts := atoms_spec (ws := Cond.code yX11_state cX11_state 3 (some .int) :: tb) B.pre
  have ht : ∀ w ∈ tb, w.before _ s = true := fun w h => hts w (List.mem_cons_of_mem _ h)
  have hown : s.vm.findClass RX11 = some m.cls := findClass_of_methodNamed B.named
  have hlocks := B.notSynchronized
  subst hsz
  have hD := hD0.self (sz := s.heap.size)
  generalize hAe : va_A [(q, .inr (11, fs)), (a, .inr (5, ga))] s.heap.size = A at hD ⊢
  have hA : ∀ q : Nat, s.heap.size ≤ q → A q := fun q h => by rw [← hAe]; exact Or.inr h
  have hS : va_S A s.heap s.heap [] := va_S.rf
  have hl := lv_entry ([.ref q, .int p0, .int p1]) (n := 3) (Nat.le_of_ble_eq_true rfl)
  rw [lg_entry_eq]
  generalize (lg_sl ([.ref q, .int p0, .int p1]) ++ List.replicate (3 - (lg_sl ([.ref q, .int p0, .int p1])).length) Slot.unset).toArray = ls at hl ⊢
  have hl : lv_has ls 3 [(0, .ref q), (1, .int p0), (2, .int p1)] := hl
  have hP : va_P (dC, dI) cls [(q, .inr (11, fs)), (a, .inr (5, ga))] s.heap := hP
  refine lv_aload_n hx hb dX11_state_0 rfl (lv_at hl 0 rfl) ?_
  refine va_get (D := (dC, dI)) (ci := 11) (v := .ref a) (C := RX11) (T := TX11) (N := 18) hx hb ht uX11 hown hK hP 0 rfl rfl 16 (by decide) (ht _ k_4_107) (fun _ h9 => h9) K16_fs dX11_state_1 ?_
  refine lv_iload_n hx hb dX11_state_4 rfl (lv_at hl 1 rfl) ?_
  refine lv_iload_n hx hb dX11_state_5 rfl (lv_at hl 2 rfl) ?_
  refine ca_i (wr := [(q, .inr (11, fs))]) (va_runV (As := [.int p0, .int p1]) (rest := []) ⟨hx, hb, hml, hown, ht⟩ (m5_tellState l dC dI s.heap.size a ga p0 p1 L_ga K4_ga ) (cwV 2 ht (gdV k_8_217 k_8_214 k_8_215 k_8_216 k_1_15) rfl rfl rfl (by decide +kernel) ⟨Nat.le_of_ble_eq_true rfl, Nat.le_of_ble_eq_true rfl⟩) ⟨pcw_blind, va_recv hK hP (ci := 5) (q0 := 1) rfl rfl, pcw_at hP hD hK [1] [] (by decide) rfl rfl rfl⟩ rfl rfl hl.1 rfl (lv_room (Nat.le_of_ble_eq_true rfl)) dX11_state_6 ⟨Nat.le_of_ble_eq_true rfl, Nat.le_of_ble_eq_true rfl⟩) hP hD hK hS hA [1] [0] rfl rfl (by decide) (by decide) (fun r1 u H locs w2 hK hP hD hS => ?_)
  have hK : va_K (dC, dI) cls [] s := hK
  have hP : va_P (dC, dI) cls [(q, .inr (11, fs))] H := hP
  have hD : va_D A [(q, .inr (11, fs))] := hD
  obtain rfl : r1 = (-1) := w2
  exact W.iret (v := (-1)) hx hb hr (fun t ht9 hW => ⟨⟨(-1), (), rfl, rfl, by rw [ht9]; exact hP.sub [] rfl, va_K.moved hW.alike (hK.sub [] rfl), hD.sub [] (by decide) rfl⟩, hS.F ht9⟩) hS.2.2 dX11_state_9
set_option maxHeartbeats 4000000 in
set_option maxRecDepth 100000 in
theorem x_step (l : Launch) (dC : Nat → ClassId) (dI : Nat → Nat → Nat) (sz : Nat) (q : Nat) (fs : List Value) (a : Nat) (ga : List Value) (p0 : Int32) (L_fs : fs.length = 18) (K16_fs : fs[16]? = some (.ref a)) (L_ga : ga.length = 15) (K11_ga : ga[11]? = some (.int 0)) : Met l yX11_step (Cond.code yX11_step cX11_step 2 (some .int) :: tb) ({ frames := 0, cells := 0, slots := 0, locals := 0 }) (pcw [.ref q, .int p0] (dC, dI) [(q, .inr (11, fs)), (a, .inr (5, ga))] [] sz) (va_Qi (fun (r : Int32) => (fun (_ : Unit) => r = -1)) (bw (dC, dI) (va_A [(q, .inr (11, fs)), (a, .inr (5, ga))] sz) (fun (_ : Unit) => []) (fun (_ : Unit) => [])) (va_A [(q, .inr (11, fs)), (a, .inr (5, ga))] sz)) 0 0 (va_A [(q, .inr (11, fs)), (a, .inr (5, ga))] sz) := by
  refine Met.ofW (cc := cX11_step) (maxL := 2) (ret := (some .int)) (by decide) rfl ?_
  intro p e s m args below meth c s₁ B hml hv
  obtain ⟨rfl, hsz, hP, hK, hD0⟩ := hv
  have hx := B.exec
  have hb := B.bytes
  have hr := B.returns
  have hts := atoms_spec (ws := Cond.code yX11_step cX11_step 2 (some .int) :: tb) B.pre
  have ht : ∀ w ∈ tb, w.before _ s = true := fun w h => hts w (List.mem_cons_of_mem _ h)
  have hown : s.vm.findClass RX11 = some m.cls := findClass_of_methodNamed B.named
  have hlocks := B.notSynchronized
  subst hsz
  have hD := hD0.self (sz := s.heap.size)
  generalize hAe : va_A [(q, .inr (11, fs)), (a, .inr (5, ga))] s.heap.size = A at hD ⊢
  have hA : ∀ q : Nat, s.heap.size ≤ q → A q := fun q h => by rw [← hAe]; exact Or.inr h
  have hS : va_S A s.heap s.heap [] := va_S.rf
  have hl := lv_entry ([.ref q, .int p0]) (n := 2) (Nat.le_of_ble_eq_true rfl)
  rw [lg_entry_eq]
  generalize (lg_sl ([.ref q, .int p0]) ++ List.replicate (2 - (lg_sl ([.ref q, .int p0])).length) Slot.unset).toArray = ls at hl ⊢
  have hl : lv_has ls 2 [(0, .ref q), (1, .int p0)] := hl
  have hP : va_P (dC, dI) cls [(q, .inr (11, fs)), (a, .inr (5, ga))] s.heap := hP
  refine lv_iload_n hx hb dX11_step_0 rfl (lv_at hl 1 rfl) ?_
  refine lv_if_lt (tgt := 27) hx hb dX11_step_1 (by decide) (fun b1 => ?_) (fun b1 => ?_)
  · refine lv_iconst (v := (-1)) hx hb dX11_step_27 (by decide) ?_
    exact W.iret (v := (-1)) hx hb hr (fun t ht9 hW => ⟨⟨(-1), (), rfl, rfl, by rw [ht9]; exact hP.sub [] rfl, va_K.moved hW.alike (hK.sub [] rfl), hD.sub [] (by decide) rfl⟩, hS.F ht9⟩) hS.2.2 dX11_step_28
  · refine lv_iload_n hx hb dX11_step_4 rfl (lv_at hl 1 rfl) ?_
    refine lv_aload_n hx hb dX11_step_5 rfl (lv_at hl 0 rfl) ?_
    refine va_get (D := (dC, dI)) (ci := 11) (v := .ref a) (C := RX11) (T := TX11) (N := 18) hx hb ht uX11 hown hK hP 0 rfl rfl 16 (by decide) (ht _ k_4_107) (fun _ h9 => h9) K16_fs dX11_step_6 ?_
    refine va_get (D := (dC, dI)) (ci := 5) (v := .int 0) (C := RX5) (T := TX5) (N := 15) hx hb ht uX5 hown hK hP 1 rfl rfl 11 (by decide) (ht _ k_4_21) (fun _ h9 => h9) K11_ga dX11_step_9 ?_
    refine lv_icmp_ge (tgt := 27) hx hb dX11_step_12 (by decide) (fun _ => ?_) (fun c0 => absurd (by have z0 := Int32.le_iff_toInt_le.mp (Int32.not_lt.mp b1); have y0 : (0 : Int32).toInt = 0 := (by decide); exact Int32.le_iff_toInt_le.mpr (by omega)) c0)
    refine lv_iconst (v := (-1)) hx hb dX11_step_27 (by decide) ?_
    exact W.iret (v := (-1)) hx hb hr (fun t ht9 hW => ⟨⟨(-1), (), rfl, rfl, by rw [ht9]; exact hP.sub [] rfl, va_K.moved hW.alike (hK.sub [] rfl), hD.sub [] (by decide) rfl⟩, hS.F ht9⟩) hS.2.2 dX11_step_28
set_option maxHeartbeats 4000000 in
set_option maxRecDepth 100000 in
theorem x_own (l : Launch) (dC : Nat → ClassId) (dI : Nat → Nat → Nat) (sz : Nat) (q : Nat) (fs : List Value) (a : Nat) (ga : List Value) (p0 : Int32) (p1 : Int32) (L_fs : fs.length = 18) (K2_fs : fs[2]? = some (.int 0)) (K7_fs : fs[7]? = some (.ref a)) (L_ga : ga.length = 16) (K5_ga : ga[5]? = some (.int 0)) : Met l yX11_own (Cond.code yX11_own cX11_own 4 (some .int) :: tb) ({ frames := 0, cells := 0, slots := 0, locals := 0 }) (pcw [.ref q, .int p0, .int p1] (dC, dI) [(q, .inr (11, fs)), (a, .inr (0, ga))] [] sz) (va_Qi (fun (r : Int32) => (fun (_ : Unit) => r = -1)) (bw (dC, dI) (va_A [(q, .inr (11, fs)), (a, .inr (0, ga))] sz) (fun (_ : Unit) => []) (fun (_ : Unit) => [])) (va_A [(q, .inr (11, fs)), (a, .inr (0, ga))] sz)) 0 0 (va_A [(q, .inr (11, fs)), (a, .inr (0, ga))] sz) := by
  refine Met.ofW (cc := cX11_own) (maxL := 4) (ret := (some .int)) (by decide) rfl ?_
  intro p e s m args below meth c s₁ B hml hv
  obtain ⟨rfl, hsz, hP, hK, hD0⟩ := hv
  have hx := B.exec
  have hb := B.bytes
  have hr := B.returns
  have hts := atoms_spec (ws := Cond.code yX11_own cX11_own 4 (some .int) :: tb) B.pre
  have ht : ∀ w ∈ tb, w.before _ s = true := fun w h => hts w (List.mem_cons_of_mem _ h)
  have hown : s.vm.findClass RX11 = some m.cls := findClass_of_methodNamed B.named
  have hlocks := B.notSynchronized
  subst hsz
  have hD := hD0.self (sz := s.heap.size)
  generalize hAe : va_A [(q, .inr (11, fs)), (a, .inr (0, ga))] s.heap.size = A at hD ⊢
  have hA : ∀ q : Nat, s.heap.size ≤ q → A q := fun q h => by rw [← hAe]; exact Or.inr h
  have hS : va_S A s.heap s.heap [] := va_S.rf
  have hl := lv_entry ([.ref q, .int p0, .int p1]) (n := 4) (Nat.le_of_ble_eq_true rfl)
  rw [lg_entry_eq]
  generalize (lg_sl ([.ref q, .int p0, .int p1]) ++ List.replicate (4 - (lg_sl ([.ref q, .int p0, .int p1])).length) Slot.unset).toArray = ls at hl ⊢
  have hl : lv_has ls 4 [(0, .ref q), (1, .int p0), (2, .int p1)] := hl
  have hP : va_P (dC, dI) cls [(q, .inr (11, fs)), (a, .inr (0, ga))] s.heap := hP
  refine lv_aload_n hx hb dX11_own_0 rfl (lv_at hl 0 rfl) ?_
  refine va_get (D := (dC, dI)) (ci := 11) (v := .int 0) (C := RX11) (T := TX11) (N := 18) hx hb ht uX11 hown hK hP 0 rfl rfl 2 (by decide) (ht _ k_4_93) (fun _ h9 => h9) K2_fs dX11_own_1 ?_
  refine lv_if_eq (tgt := 10) hx hb dX11_own_4 (by decide) (fun _ => ?_) (fun c0 => absurd c0 (by decide))
  refine lv_iload_n hx hb dX11_own_10 rfl (lv_at hl 1 rfl) ?_
  refine lv_if_lt (tgt := 31) hx hb dX11_own_11 (by decide) (fun b1 => ?_) (fun b1 => ?_)
  · refine lv_iconst (v := (-1)) hx hb dX11_own_31 (by decide) ?_
    exact W.iret (v := (-1)) hx hb hr (fun t ht9 hW => ⟨⟨(-1), (), rfl, rfl, by rw [ht9]; exact hP.sub [] rfl, va_K.moved hW.alike (hK.sub [] rfl), hD.sub [] (by decide) rfl⟩, hS.F ht9⟩) hS.2.2 dX11_own_32
  · refine lv_iload_n hx hb dX11_own_14 rfl (lv_at hl 1 rfl) ?_
    refine lv_aload_n hx hb dX11_own_15 rfl (lv_at hl 0 rfl) ?_
    refine va_get (D := (dC, dI)) (ci := 11) (v := .ref a) (C := RX11) (T := TX11) (N := 18) hx hb ht uX11 hown hK hP 0 rfl rfl 7 (by decide) (ht _ k_4_98) (fun _ h9 => h9) K7_fs dX11_own_16 ?_
    refine va_get (D := (dC, dI)) (ci := 0) (v := .int 0) (C := RX0) (T := TX0) (N := 16) hx hb ht uX0 hown hK hP 1 rfl rfl 5 (by decide) (ht _ k_1_158) (fun _ h9 => h9) K5_ga dX11_own_19 ?_
    refine lv_icmp_ge (tgt := 31) hx hb dX11_own_22 (by decide) (fun _ => ?_) (fun c0 => absurd (by have z0 := Int32.le_iff_toInt_le.mp (Int32.not_lt.mp b1); have y0 : (0 : Int32).toInt = 0 := (by decide); exact Int32.le_iff_toInt_le.mpr (by omega)) c0)
    refine lv_iconst (v := (-1)) hx hb dX11_own_31 (by decide) ?_
    exact W.iret (v := (-1)) hx hb hr (fun t ht9 hW => ⟨⟨(-1), (), rfl, rfl, by rw [ht9]; exact hP.sub [] rfl, va_K.moved hW.alike (hK.sub [] rfl), hD.sub [] (by decide) rfl⟩, hS.F ht9⟩) hS.2.2 dX11_own_32
set_option maxHeartbeats 4000000 in
set_option maxRecDepth 100000 in
theorem x_kept (l : Launch) (dC : Nat → ClassId) (dI : Nat → Nat → Nat) (sz : Nat) (q : Nat) (fs : List Value) (a : Nat) (ga : List Value) (p0 : Int32) (p1 : Int32) (L_fs : fs.length = 18) (K2_fs : fs[2]? = some (.int 0)) (K13_fs : fs[13]? = some (.ref a)) (L_ga : ga.length = 22) (K9_ga : ga[9]? = some (.int 0)) : Met l yX11_kept (Cond.code yX11_kept cX11_kept 3 (some .int) :: tb) ({ frames := 0, cells := 0, slots := 0, locals := 0 }) (pcw [.ref q, .int p0, .int p1] (dC, dI) [(q, .inr (11, fs)), (a, .inr (8, ga))] [] sz) (va_Qi (fun (r : Int32) => (fun (_ : Unit) => r = -1)) (bw (dC, dI) (va_A [(q, .inr (11, fs)), (a, .inr (8, ga))] sz) (fun (_ : Unit) => []) (fun (_ : Unit) => [])) (va_A [(q, .inr (11, fs)), (a, .inr (8, ga))] sz)) 0 0 (va_A [(q, .inr (11, fs)), (a, .inr (8, ga))] sz) := by
  refine Met.ofW (cc := cX11_kept) (maxL := 3) (ret := (some .int)) (by decide) rfl ?_
  intro p e s m args below meth c s₁ B hml hv
  obtain ⟨rfl, hsz, hP, hK, hD0⟩ := hv
  have hx := B.exec
  have hb := B.bytes
  have hr := B.returns
  have hts := atoms_spec (ws := Cond.code yX11_kept cX11_kept 3 (some .int) :: tb) B.pre
  have ht : ∀ w ∈ tb, w.before _ s = true := fun w h => hts w (List.mem_cons_of_mem _ h)
  have hown : s.vm.findClass RX11 = some m.cls := findClass_of_methodNamed B.named
  have hlocks := B.notSynchronized
  subst hsz
  have hD := hD0.self (sz := s.heap.size)
  generalize hAe : va_A [(q, .inr (11, fs)), (a, .inr (8, ga))] s.heap.size = A at hD ⊢
  have hA : ∀ q : Nat, s.heap.size ≤ q → A q := fun q h => by rw [← hAe]; exact Or.inr h
  have hS : va_S A s.heap s.heap [] := va_S.rf
  have hl := lv_entry ([.ref q, .int p0, .int p1]) (n := 3) (Nat.le_of_ble_eq_true rfl)
  rw [lg_entry_eq]
  generalize (lg_sl ([.ref q, .int p0, .int p1]) ++ List.replicate (3 - (lg_sl ([.ref q, .int p0, .int p1])).length) Slot.unset).toArray = ls at hl ⊢
  have hl : lv_has ls 3 [(0, .ref q), (1, .int p0), (2, .int p1)] := hl
  have hP : va_P (dC, dI) cls [(q, .inr (11, fs)), (a, .inr (8, ga))] s.heap := hP
  refine lv_aload_n hx hb dX11_kept_0 rfl (lv_at hl 0 rfl) ?_
  refine va_get (D := (dC, dI)) (ci := 11) (v := .int 0) (C := RX11) (T := TX11) (N := 18) hx hb ht uX11 hown hK hP 0 rfl rfl 2 (by decide) (ht _ k_4_93) (fun _ h9 => h9) K2_fs dX11_kept_1 ?_
  refine lv_if_eq (tgt := 10) hx hb dX11_kept_4 (by decide) (fun _ => ?_) (fun c0 => absurd c0 (by decide))
  refine lv_iload_n hx hb dX11_kept_10 rfl (lv_at hl 1 rfl) ?_
  refine lv_if_lt (tgt := 25) hx hb dX11_kept_11 (by decide) (fun b1 => ?_) (fun b1 => ?_)
  · refine lv_iconst (v := (-1)) hx hb dX11_kept_25 (by decide) ?_
    exact W.iret (v := (-1)) hx hb hr (fun t ht9 hW => ⟨⟨(-1), (), rfl, rfl, by rw [ht9]; exact hP.sub [] rfl, va_K.moved hW.alike (hK.sub [] rfl), hD.sub [] (by decide) rfl⟩, hS.F ht9⟩) hS.2.2 dX11_kept_26
  · refine lv_iload_n hx hb dX11_kept_14 rfl (lv_at hl 1 rfl) ?_
    refine lv_aload_n hx hb dX11_kept_15 rfl (lv_at hl 0 rfl) ?_
    refine va_get (D := (dC, dI)) (ci := 11) (v := .ref a) (C := RX11) (T := TX11) (N := 18) hx hb ht uX11 hown hK hP 0 rfl rfl 13 (by decide) (ht _ k_4_104) (fun _ h9 => h9) K13_fs dX11_kept_16 ?_
    refine va_get (D := (dC, dI)) (ci := 8) (v := .int 0) (C := RX8) (T := TX8) (N := 22) hx hb ht uX8 hown hK hP 1 rfl rfl 9 (by decide) (ht _ k_3_40) (fun _ h9 => h9) K9_ga dX11_kept_19 ?_
    refine lv_icmp_lt (tgt := 27) hx hb dX11_kept_22 (by decide) (fun c0 => absurd c0 (by have z0 := Int32.le_iff_toInt_le.mp (Int32.not_lt.mp b1); have y0 : (0 : Int32).toInt = 0 := (by decide); exact Int32.not_lt.mpr (Int32.le_iff_toInt_le.mpr (by omega)))) (fun _ => ?_)
    refine lv_iconst (v := (-1)) hx hb dX11_kept_25 (by decide) ?_
    exact W.iret (v := (-1)) hx hb hr (fun t ht9 hW => ⟨⟨(-1), (), rfl, rfl, by rw [ht9]; exact hP.sub [] rfl, va_K.moved hW.alike (hK.sub [] rfl), hD.sub [] (by decide) rfl⟩, hS.F ht9⟩) hS.2.2 dX11_kept_26
set_option maxHeartbeats 4000000 in
set_option maxRecDepth 100000 in
theorem x_runs (l : Launch) (dC : Nat → ClassId) (dI : Nat → Nat → Nat) (sz : Nat) (q : Nat) (fs : List Value) (a : Nat) (ga : List Value) (p0 : Int32) (p1 : Int32) (L_fs : fs.length = 18) (K2_fs : fs[2]? = some (.int 0)) (K14_fs : fs[14]? = some (.ref a)) (L_ga : ga.length = 18) (K1_ga : ga[1]? = some (.int 0)) : Met l yX11_runs (Cond.code yX11_runs cX11_runs 3 (some .int) :: tb) ({ frames := 0, cells := 0, slots := 0, locals := 0 }) (pcw [.ref q, .int p0, .int p1] (dC, dI) [(q, .inr (11, fs)), (a, .inr (4, ga))] [] sz) (va_Qi (fun (r : Int32) => (fun (_ : Unit) => r = -2)) (bw (dC, dI) (va_A [(q, .inr (11, fs)), (a, .inr (4, ga))] sz) (fun (_ : Unit) => []) (fun (_ : Unit) => [])) (va_A [(q, .inr (11, fs)), (a, .inr (4, ga))] sz)) 0 0 (va_A [(q, .inr (11, fs)), (a, .inr (4, ga))] sz) := by
  refine Met.ofW (cc := cX11_runs) (maxL := 3) (ret := (some .int)) (by decide) rfl ?_
  intro p e s m args below meth c s₁ B hml hv
  obtain ⟨rfl, hsz, hP, hK, hD0⟩ := hv
  have hx := B.exec
  have hb := B.bytes
  have hr := B.returns
  have hts := atoms_spec (ws := Cond.code yX11_runs cX11_runs 3 (some .int) :: tb) B.pre
  have ht : ∀ w ∈ tb, w.before _ s = true := fun w h => hts w (List.mem_cons_of_mem _ h)
  have hown : s.vm.findClass RX11 = some m.cls := findClass_of_methodNamed B.named
  have hlocks := B.notSynchronized
  subst hsz
  have hD := hD0.self (sz := s.heap.size)
  generalize hAe : va_A [(q, .inr (11, fs)), (a, .inr (4, ga))] s.heap.size = A at hD ⊢
  have hA : ∀ q : Nat, s.heap.size ≤ q → A q := fun q h => by rw [← hAe]; exact Or.inr h
  have hS : va_S A s.heap s.heap [] := va_S.rf
  have hl := lv_entry ([.ref q, .int p0, .int p1]) (n := 3) (Nat.le_of_ble_eq_true rfl)
  rw [lg_entry_eq]
  generalize (lg_sl ([.ref q, .int p0, .int p1]) ++ List.replicate (3 - (lg_sl ([.ref q, .int p0, .int p1])).length) Slot.unset).toArray = ls at hl ⊢
  have hl : lv_has ls 3 [(0, .ref q), (1, .int p0), (2, .int p1)] := hl
  have hP : va_P (dC, dI) cls [(q, .inr (11, fs)), (a, .inr (4, ga))] s.heap := hP
  refine lv_aload_n hx hb dX11_runs_0 rfl (lv_at hl 0 rfl) ?_
  refine va_get (D := (dC, dI)) (ci := 11) (v := .int 0) (C := RX11) (T := TX11) (N := 18) hx hb ht uX11 hown hK hP 0 rfl rfl 2 (by decide) (ht _ k_4_93) (fun _ h9 => h9) K2_fs dX11_runs_1 ?_
  refine lv_if_eq (tgt := 10) hx hb dX11_runs_4 (by decide) (fun _ => ?_) (fun c0 => absurd c0 (by decide))
  refine lv_aload_n hx hb dX11_runs_10 rfl (lv_at hl 0 rfl) ?_
  refine va_get (D := (dC, dI)) (ci := 11) (v := .ref a) (C := RX11) (T := TX11) (N := 18) hx hb ht uX11 hown hK hP 0 rfl rfl 14 (by decide) (ht _ k_4_105) (fun _ h9 => h9) K14_fs dX11_runs_11 ?_
  refine va_get (D := (dC, dI)) (ci := 4) (v := .int 0) (C := RX4) (T := TX4) (N := 18) hx hb ht uX4 hown hK hP 1 rfl rfl 1 (by decide) (ht _ k_3_108) (fun _ h9 => h9) K1_ga dX11_runs_14 ?_
  refine lv_if_ne (tgt := 23) hx hb dX11_runs_17 (by decide) (fun c0 => absurd c0 (by decide)) (fun _ => ?_)
  refine lv_bipush (v := (-2)) hx hb dX11_runs_20 (by decide) ?_
  exact W.iret (v := (-2)) hx hb hr (fun t ht9 hW => ⟨⟨(-2), (), rfl, rfl, by rw [ht9]; exact hP.sub [] rfl, va_K.moved hW.alike (hK.sub [] rfl), hD.sub [] (by decide) rfl⟩, hS.F ht9⟩) hS.2.2 dX11_runs_22
set_option maxHeartbeats 4000000 in
set_option maxRecDepth 100000 in
theorem x_span (l : Launch) (dC : Nat → ClassId) (dI : Nat → Nat → Nat) (sz : Nat) (q : Nat) (fs : List Value) (a : Nat) (ga : List Value) (p0 : Int32) (p1 : Int32) (L_fs : fs.length = 18) (K2_fs : fs[2]? = some (.int 0)) (K14_fs : fs[14]? = some (.ref a)) (L_ga : ga.length = 18) (K1_ga : ga[1]? = some (.int 0)) : Met l yX11_span (Cond.code yX11_span cX11_span 3 (some .int) :: tb) ({ frames := 0, cells := 0, slots := 0, locals := 0 }) (pcw [.ref q, .int p0, .int p1] (dC, dI) [(q, .inr (11, fs)), (a, .inr (4, ga))] [] sz) (va_Qi (fun (r : Int32) => (fun (_ : Unit) => r = -2)) (bw (dC, dI) (va_A [(q, .inr (11, fs)), (a, .inr (4, ga))] sz) (fun (_ : Unit) => []) (fun (_ : Unit) => [])) (va_A [(q, .inr (11, fs)), (a, .inr (4, ga))] sz)) 0 0 (va_A [(q, .inr (11, fs)), (a, .inr (4, ga))] sz) := by
  refine Met.ofW (cc := cX11_span) (maxL := 3) (ret := (some .int)) (by decide) rfl ?_
  intro p e s m args below meth c s₁ B hml hv
  obtain ⟨rfl, hsz, hP, hK, hD0⟩ := hv
  have hx := B.exec
  have hb := B.bytes
  have hr := B.returns
  have hts := atoms_spec (ws := Cond.code yX11_span cX11_span 3 (some .int) :: tb) B.pre
  have ht : ∀ w ∈ tb, w.before _ s = true := fun w h => hts w (List.mem_cons_of_mem _ h)
  have hown : s.vm.findClass RX11 = some m.cls := findClass_of_methodNamed B.named
  have hlocks := B.notSynchronized
  subst hsz
  have hD := hD0.self (sz := s.heap.size)
  generalize hAe : va_A [(q, .inr (11, fs)), (a, .inr (4, ga))] s.heap.size = A at hD ⊢
  have hA : ∀ q : Nat, s.heap.size ≤ q → A q := fun q h => by rw [← hAe]; exact Or.inr h
  have hS : va_S A s.heap s.heap [] := va_S.rf
  have hl := lv_entry ([.ref q, .int p0, .int p1]) (n := 3) (Nat.le_of_ble_eq_true rfl)
  rw [lg_entry_eq]
  generalize (lg_sl ([.ref q, .int p0, .int p1]) ++ List.replicate (3 - (lg_sl ([.ref q, .int p0, .int p1])).length) Slot.unset).toArray = ls at hl ⊢
  have hl : lv_has ls 3 [(0, .ref q), (1, .int p0), (2, .int p1)] := hl
  have hP : va_P (dC, dI) cls [(q, .inr (11, fs)), (a, .inr (4, ga))] s.heap := hP
  refine lv_aload_n hx hb dX11_span_0 rfl (lv_at hl 0 rfl) ?_
  refine va_get (D := (dC, dI)) (ci := 11) (v := .int 0) (C := RX11) (T := TX11) (N := 18) hx hb ht uX11 hown hK hP 0 rfl rfl 2 (by decide) (ht _ k_4_93) (fun _ h9 => h9) K2_fs dX11_span_1 ?_
  refine lv_if_eq (tgt := 10) hx hb dX11_span_4 (by decide) (fun _ => ?_) (fun c0 => absurd c0 (by decide))
  refine lv_aload_n hx hb dX11_span_10 rfl (lv_at hl 0 rfl) ?_
  refine va_get (D := (dC, dI)) (ci := 11) (v := .ref a) (C := RX11) (T := TX11) (N := 18) hx hb ht uX11 hown hK hP 0 rfl rfl 14 (by decide) (ht _ k_4_105) (fun _ h9 => h9) K14_fs dX11_span_11 ?_
  refine va_get (D := (dC, dI)) (ci := 4) (v := .int 0) (C := RX4) (T := TX4) (N := 18) hx hb ht uX4 hown hK hP 1 rfl rfl 1 (by decide) (ht _ k_3_108) (fun _ h9 => h9) K1_ga dX11_span_14 ?_
  refine lv_if_ne (tgt := 23) hx hb dX11_span_17 (by decide) (fun c0 => absurd c0 (by decide)) (fun _ => ?_)
  refine lv_bipush (v := (-2)) hx hb dX11_span_20 (by decide) ?_
  exact W.iret (v := (-2)) hx hb hr (fun t ht9 hW => ⟨⟨(-2), (), rfl, rfl, by rw [ht9]; exact hP.sub [] rfl, va_K.moved hW.alike (hK.sub [] rfl), hD.sub [] (by decide) rfl⟩, hS.F ht9⟩) hS.2.2 dX11_span_22
set_option maxHeartbeats 4000000 in
set_option maxRecDepth 100000 in
theorem x_byteOf (l : Launch) (dC : Nat → ClassId) (dI : Nat → Nat → Nat) (sz : Nat) (q : Nat) (fs : List Value) (a : Nat) (ga : List Value) (p0 : Int32) (L_fs : fs.length = 18) (K13_fs : fs[13]? = some (.ref a)) (L_ga : ga.length = 22) (K3_ga : ga[3]? = some (.int 0)) : Met l yX11_byteOf (Cond.code yX11_byteOf cX11_byteOf 2 (some .int) :: tb) ({ frames := 0, cells := 0, slots := 0, locals := 0 }) (pcw [.ref q, .int p0] (dC, dI) [(q, .inr (11, fs)), (a, .inr (8, ga))] [] sz) (va_Qi (fun (r : Int32) => (fun (_ : Unit) => r = -1)) (bw (dC, dI) (va_A [(q, .inr (11, fs)), (a, .inr (8, ga))] sz) (fun (_ : Unit) => []) (fun (_ : Unit) => [])) (va_A [(q, .inr (11, fs)), (a, .inr (8, ga))] sz)) 0 0 (va_A [(q, .inr (11, fs)), (a, .inr (8, ga))] sz) := by
  refine Met.ofW (cc := cX11_byteOf) (maxL := 2) (ret := (some .int)) (by decide) rfl ?_
  intro p e s m args below meth c s₁ B hml hv
  obtain ⟨rfl, hsz, hP, hK, hD0⟩ := hv
  have hx := B.exec
  have hb := B.bytes
  have hr := B.returns
  have hts := atoms_spec (ws := Cond.code yX11_byteOf cX11_byteOf 2 (some .int) :: tb) B.pre
  have ht : ∀ w ∈ tb, w.before _ s = true := fun w h => hts w (List.mem_cons_of_mem _ h)
  have hown : s.vm.findClass RX11 = some m.cls := findClass_of_methodNamed B.named
  have hlocks := B.notSynchronized
  subst hsz
  have hD := hD0.self (sz := s.heap.size)
  generalize hAe : va_A [(q, .inr (11, fs)), (a, .inr (8, ga))] s.heap.size = A at hD ⊢
  have hA : ∀ q : Nat, s.heap.size ≤ q → A q := fun q h => by rw [← hAe]; exact Or.inr h
  have hS : va_S A s.heap s.heap [] := va_S.rf
  have hl := lv_entry ([.ref q, .int p0]) (n := 2) (Nat.le_of_ble_eq_true rfl)
  rw [lg_entry_eq]
  generalize (lg_sl ([.ref q, .int p0]) ++ List.replicate (2 - (lg_sl ([.ref q, .int p0])).length) Slot.unset).toArray = ls at hl ⊢
  have hl : lv_has ls 2 [(0, .ref q), (1, .int p0)] := hl
  have hP : va_P (dC, dI) cls [(q, .inr (11, fs)), (a, .inr (8, ga))] s.heap := hP
  refine lv_iload_n hx hb dX11_byteOf_0 rfl (lv_at hl 1 rfl) ?_
  refine lv_if_lt (tgt := 27) hx hb dX11_byteOf_1 (by decide) (fun b1 => ?_) (fun b1 => ?_)
  · refine lv_iconst (v := (-1)) hx hb dX11_byteOf_27 (by decide) ?_
    exact W.iret (v := (-1)) hx hb hr (fun t ht9 hW => ⟨⟨(-1), (), rfl, rfl, by rw [ht9]; exact hP.sub [] rfl, va_K.moved hW.alike (hK.sub [] rfl), hD.sub [] (by decide) rfl⟩, hS.F ht9⟩) hS.2.2 dX11_byteOf_28
  · refine lv_iload_n hx hb dX11_byteOf_4 rfl (lv_at hl 1 rfl) ?_
    refine lv_aload_n hx hb dX11_byteOf_5 rfl (lv_at hl 0 rfl) ?_
    refine va_get (D := (dC, dI)) (ci := 11) (v := .ref a) (C := RX11) (T := TX11) (N := 18) hx hb ht uX11 hown hK hP 0 rfl rfl 13 (by decide) (ht _ k_4_104) (fun _ h9 => h9) K13_fs dX11_byteOf_6 ?_
    refine va_get (D := (dC, dI)) (ci := 8) (v := .int 0) (C := RX8) (T := TX8) (N := 22) hx hb ht uX8 hown hK hP 1 rfl rfl 3 (by decide) (ht _ k_3_28) (fun _ h9 => h9) K3_ga dX11_byteOf_9 ?_
    refine lv_icmp_ge (tgt := 27) hx hb dX11_byteOf_12 (by decide) (fun _ => ?_) (fun c0 => absurd (by have z0 := Int32.le_iff_toInt_le.mp (Int32.not_lt.mp b1); have y0 : (0 : Int32).toInt = 0 := (by decide); exact Int32.le_iff_toInt_le.mpr (by omega)) c0)
    refine lv_iconst (v := (-1)) hx hb dX11_byteOf_27 (by decide) ?_
    exact W.iret (v := (-1)) hx hb hr (fun t ht9 hW => ⟨⟨(-1), (), rfl, rfl, by rw [ht9]; exact hP.sub [] rfl, va_K.moved hW.alike (hK.sub [] rfl), hD.sub [] (by decide) rfl⟩, hS.F ht9⟩) hS.2.2 dX11_byteOf_28
set_option maxHeartbeats 4000000 in
set_option maxRecDepth 100000 in
theorem x_answer (l : Launch) (dC : Nat → ClassId) (dI : Nat → Nat → Nat) (sz : Nat) (q : Nat) (fs : List Value) (a : Nat) (ga : List Value) (p0 : Int32) (L_fs : fs.length = 18) (K13_fs : fs[13]? = some (.ref a)) (L_ga : ga.length = 22) (K7_ga : ga[7]? = some (.int 0)) : Met l yX11_answer (Cond.code yX11_answer cX11_answer 2 (some .int) :: tb) ({ frames := 0, cells := 0, slots := 0, locals := 0 }) (pcw [.ref q, .int p0] (dC, dI) [(q, .inr (11, fs)), (a, .inr (8, ga))] [] sz) (va_Qi (fun (r : Int32) => (fun (_ : Unit) => r = -2)) (bw (dC, dI) (va_A [(q, .inr (11, fs)), (a, .inr (8, ga))] sz) (fun (_ : Unit) => []) (fun (_ : Unit) => [])) (va_A [(q, .inr (11, fs)), (a, .inr (8, ga))] sz)) 0 0 (va_A [(q, .inr (11, fs)), (a, .inr (8, ga))] sz) := by
  refine Met.ofW (cc := cX11_answer) (maxL := 2) (ret := (some .int)) (by decide) rfl ?_
  intro p e s m args below meth c s₁ B hml hv
  obtain ⟨rfl, hsz, hP, hK, hD0⟩ := hv
  have hx := B.exec
  have hb := B.bytes
  have hr := B.returns
  have hts := atoms_spec (ws := Cond.code yX11_answer cX11_answer 2 (some .int) :: tb) B.pre
  have ht : ∀ w ∈ tb, w.before _ s = true := fun w h => hts w (List.mem_cons_of_mem _ h)
  have hown : s.vm.findClass RX11 = some m.cls := findClass_of_methodNamed B.named
  have hlocks := B.notSynchronized
  subst hsz
  have hD := hD0.self (sz := s.heap.size)
  generalize hAe : va_A [(q, .inr (11, fs)), (a, .inr (8, ga))] s.heap.size = A at hD ⊢
  have hA : ∀ q : Nat, s.heap.size ≤ q → A q := fun q h => by rw [← hAe]; exact Or.inr h
  have hS : va_S A s.heap s.heap [] := va_S.rf
  have hl := lv_entry ([.ref q, .int p0]) (n := 2) (Nat.le_of_ble_eq_true rfl)
  rw [lg_entry_eq]
  generalize (lg_sl ([.ref q, .int p0]) ++ List.replicate (2 - (lg_sl ([.ref q, .int p0])).length) Slot.unset).toArray = ls at hl ⊢
  have hl : lv_has ls 2 [(0, .ref q), (1, .int p0)] := hl
  have hP : va_P (dC, dI) cls [(q, .inr (11, fs)), (a, .inr (8, ga))] s.heap := hP
  refine lv_iload_n hx hb dX11_answer_0 rfl (lv_at hl 1 rfl) ?_
  refine lv_if_lt (tgt := 27) hx hb dX11_answer_1 (by decide) (fun b1 => ?_) (fun b1 => ?_)
  · refine lv_bipush (v := (-2)) hx hb dX11_answer_27 (by decide) ?_
    exact W.iret (v := (-2)) hx hb hr (fun t ht9 hW => ⟨⟨(-2), (), rfl, rfl, by rw [ht9]; exact hP.sub [] rfl, va_K.moved hW.alike (hK.sub [] rfl), hD.sub [] (by decide) rfl⟩, hS.F ht9⟩) hS.2.2 dX11_answer_29
  · refine lv_iload_n hx hb dX11_answer_4 rfl (lv_at hl 1 rfl) ?_
    refine lv_aload_n hx hb dX11_answer_5 rfl (lv_at hl 0 rfl) ?_
    refine va_get (D := (dC, dI)) (ci := 11) (v := .ref a) (C := RX11) (T := TX11) (N := 18) hx hb ht uX11 hown hK hP 0 rfl rfl 13 (by decide) (ht _ k_4_104) (fun _ h9 => h9) K13_fs dX11_answer_6 ?_
    refine va_get (D := (dC, dI)) (ci := 8) (v := .int 0) (C := RX8) (T := TX8) (N := 22) hx hb ht uX8 hown hK hP 1 rfl rfl 7 (by decide) (ht _ k_3_36) (fun _ h9 => h9) K7_ga dX11_answer_9 ?_
    refine lv_icmp_ge (tgt := 27) hx hb dX11_answer_12 (by decide) (fun _ => ?_) (fun c0 => absurd (by have z0 := Int32.le_iff_toInt_le.mp (Int32.not_lt.mp b1); have y0 : (0 : Int32).toInt = 0 := (by decide); exact Int32.le_iff_toInt_le.mpr (by omega)) c0)
    refine lv_bipush (v := (-2)) hx hb dX11_answer_27 (by decide) ?_
    exact W.iret (v := (-2)) hx hb hr (fun t ht9 hW => ⟨⟨(-2), (), rfl, rfl, by rw [ht9]; exact hP.sub [] rfl, va_K.moved hW.alike (hK.sub [] rfl), hD.sub [] (by decide) rfl⟩, hS.F ht9⟩) hS.2.2 dX11_answer_29
set_option maxHeartbeats 4000000 in
set_option maxRecDepth 100000 in
theorem x_point (l : Launch) (dC : Nat → ClassId) (dI : Nat → Nat → Nat) (sz : Nat) (q : Nat) (fs : List Value) (p0 : Int32) (p1 : Int32) (L_fs : fs.length = 18) (K11_fs : fs[11]? = some (.int 0)) : Met l yX11_point (Cond.code yX11_point cX11_point 3 (some .int) :: tb) ({ frames := 0, cells := 0, slots := 0, locals := 0 }) (pcw [.ref q, .int p0, .int p1] (dC, dI) [(q, .inr (11, fs))] [] sz) (va_Qi (fun (r : Int32) => (fun (_ : Unit) => r = -2)) (bw (dC, dI) (va_A [(q, .inr (11, fs))] sz) (fun (_ : Unit) => []) (fun (_ : Unit) => [])) (va_A [(q, .inr (11, fs))] sz)) 0 0 (va_A [(q, .inr (11, fs))] sz) := by
  refine Met.ofW (cc := cX11_point) (maxL := 3) (ret := (some .int)) (by decide) rfl ?_
  intro p e s m args below meth c s₁ B hml hv
  obtain ⟨rfl, hsz, hP, hK, hD0⟩ := hv
  have hx := B.exec
  have hb := B.bytes
  have hr := B.returns
  have hts := atoms_spec (ws := Cond.code yX11_point cX11_point 3 (some .int) :: tb) B.pre
  have ht : ∀ w ∈ tb, w.before _ s = true := fun w h => hts w (List.mem_cons_of_mem _ h)
  have hown : s.vm.findClass RX11 = some m.cls := findClass_of_methodNamed B.named
  have hlocks := B.notSynchronized
  subst hsz
  have hD := hD0.self (sz := s.heap.size)
  generalize hAe : va_A [(q, .inr (11, fs))] s.heap.size = A at hD ⊢
  have hA : ∀ q : Nat, s.heap.size ≤ q → A q := fun q h => by rw [← hAe]; exact Or.inr h
  have hS : va_S A s.heap s.heap [] := va_S.rf
  have hl := lv_entry ([.ref q, .int p0, .int p1]) (n := 3) (Nat.le_of_ble_eq_true rfl)
  rw [lg_entry_eq]
  generalize (lg_sl ([.ref q, .int p0, .int p1]) ++ List.replicate (3 - (lg_sl ([.ref q, .int p0, .int p1])).length) Slot.unset).toArray = ls at hl ⊢
  have hl : lv_has ls 3 [(0, .ref q), (1, .int p0), (2, .int p1)] := hl
  have hP : va_P (dC, dI) cls [(q, .inr (11, fs))] s.heap := hP
  refine lv_aload_n hx hb dX11_point_0 rfl (lv_at hl 0 rfl) ?_
  refine va_get (D := (dC, dI)) (ci := 11) (v := .int 0) (C := RX11) (T := TX11) (N := 18) hx hb ht uX11 hown hK hP 0 rfl rfl 11 (by decide) (ht _ k_4_102) (fun _ h9 => h9) K11_fs dX11_point_1 ?_
  refine lv_if_eq (tgt := 37) hx hb dX11_point_4 (by decide) (fun _ => ?_) (fun c0 => absurd c0 (by decide))
  refine lv_bipush (v := (-2)) hx hb dX11_point_37 (by decide) ?_
  exact W.iret (v := (-2)) hx hb hr (fun t ht9 hW => ⟨⟨(-2), (), rfl, rfl, by rw [ht9]; exact hP.sub [] rfl, va_K.moved hW.alike (hK.sub [] rfl), hD.sub [] (by decide) rfl⟩, hS.F ht9⟩) hS.2.2 dX11_point_39
set_option maxHeartbeats 4000000 in
set_option maxRecDepth 100000 in
theorem m8_canBeKept (l : Launch) (dC : Nat → ClassId) (dI : Nat → Nat → Nat) (sz : Nat) (q : Nat) (fs : List Value) (a : Nat) (ga : List Value) (L_fs : fs.length = 22) (K1_fs : fs[1]? = some (.ref a)) (L_ga : ga.length = 4) (K3_ga : ga[3]? = some (.int 0)) : Met l yX8_canBeKept (Cond.code yX8_canBeKept cX8_canBeKept 1 (some .boolean) :: tb) ({ frames := 0, cells := 0, slots := 0, locals := 0 }) (pcw [.ref q] (dC, dI) [(q, .inr (8, fs)), (a, .inr (9, ga))] [] sz) (va_Qi (fun (r : Int32) => (fun (_ : Unit) => r = 0)) (bw (dC, dI) (va_A [(q, .inr (8, fs)), (a, .inr (9, ga))] sz) (fun (_ : Unit) => []) (fun (_ : Unit) => [])) (va_A [(q, .inr (8, fs)), (a, .inr (9, ga))] sz)) 0 0 (va_A [(q, .inr (8, fs)), (a, .inr (9, ga))] sz) := by
  refine Met.ofW (cc := cX8_canBeKept) (maxL := 1) (ret := (some .boolean)) (by decide) rfl ?_
  intro p e s m args below meth c s₁ B hml hv
  obtain ⟨rfl, hsz, hP, hK, hD0⟩ := hv
  have hx := B.exec
  have hb := B.bytes
  have hr := B.returns
  have hts := atoms_spec (ws := Cond.code yX8_canBeKept cX8_canBeKept 1 (some .boolean) :: tb) B.pre
  have ht : ∀ w ∈ tb, w.before _ s = true := fun w h => hts w (List.mem_cons_of_mem _ h)
  have hown : s.vm.findClass RX8 = some m.cls := findClass_of_methodNamed B.named
  have hlocks := B.notSynchronized
  subst hsz
  have hD := hD0.self (sz := s.heap.size)
  generalize hAe : va_A [(q, .inr (8, fs)), (a, .inr (9, ga))] s.heap.size = A at hD ⊢
  have hA : ∀ q : Nat, s.heap.size ≤ q → A q := fun q h => by rw [← hAe]; exact Or.inr h
  have hS : va_S A s.heap s.heap [] := va_S.rf
  have hl := lv_entry ([.ref q]) (n := 1) (Nat.le_of_ble_eq_true rfl)
  rw [lg_entry_eq]
  generalize (lg_sl ([.ref q]) ++ List.replicate (1 - (lg_sl ([.ref q])).length) Slot.unset).toArray = ls at hl ⊢
  have hl : lv_has ls 1 [(0, .ref q)] := hl
  have hP : va_P (dC, dI) cls [(q, .inr (8, fs)), (a, .inr (9, ga))] s.heap := hP
  refine lv_aload_n hx hb dX8_canBeKept_0 rfl (lv_at hl 0 rfl) ?_
  refine va_get (D := (dC, dI)) (ci := 8) (v := .ref a) (C := RX8) (T := TX8) (N := 22) hx hb ht uX8 hown hK hP 0 rfl rfl 1 (by decide) (ht _ k_3_23) (fun _ h9 => h9) K1_fs dX8_canBeKept_1 ?_
  refine va_get (D := (dC, dI)) (ci := 9) (v := .int 0) (C := RX9) (T := TX9) (N := 4) hx hb ht uX9 hown hK hP 1 rfl rfl 3 (by decide) (ht _ k_1_121) (fun _ h9 => h9) K3_ga dX8_canBeKept_4 ?_
  refine lv_if_le (tgt := 54) hx hb dX8_canBeKept_7 (by decide) (fun _ => ?_) (fun c0 => absurd c0 (by decide))
  refine lv_iconst (v := 0) hx hb dX8_canBeKept_54 (by decide) ?_
  exact W.zret (v := 0) hx hb hr rfl (fun t ht9 hW => ⟨⟨0, (), rfl, rfl, by rw [ht9]; exact hP.sub [] rfl, va_K.moved hW.alike (hK.sub [] rfl), hD.sub [] (by decide) rfl⟩, hS.F ht9⟩) hS.2.2 dX8_canBeKept_55
set_option maxHeartbeats 4000000 in
set_option maxRecDepth 100000 in
theorem x_keep (l : Launch) (dC : Nat → ClassId) (dI : Nat → Nat → Nat) (sz : Nat) (q : Nat) (fs : List Value) (a : Nat) (ga : List Value) (b : Nat) (gb : List Value) (L_fs : fs.length = 18) (K2_fs : fs[2]? = some (.int 0)) (K13_fs : fs[13]? = some (.ref a)) (L_ga : ga.length = 22) (K1_ga : ga[1]? = some (.ref b)) (L_gb : gb.length = 4) (K3_gb : gb[3]? = some (.int 0)) : Met l yX11_keep (Cond.code yX11_keep cX11_keep 3 (some .int) :: tb) ({ frames := 1, cells := 0, slots := 0, locals := 20 }) (pcw [.ref q] (dC, dI) [(q, .inr (11, fs)), (a, .inr (8, ga)), (b, .inr (9, gb))] [] sz) (va_Qi (fun (r : Int32) => (fun (_ : Unit) => r = -2)) (bw (dC, dI) (va_A [(q, .inr (11, fs)), (a, .inr (8, ga)), (b, .inr (9, gb))] sz) (fun (_ : Unit) => []) (fun (_ : Unit) => [])) (va_A [(q, .inr (11, fs)), (a, .inr (8, ga)), (b, .inr (9, gb))] sz)) 0 0 (va_A [(q, .inr (11, fs)), (a, .inr (8, ga)), (b, .inr (9, gb))] sz) := by
  refine Met.ofW (cc := cX11_keep) (maxL := 3) (ret := (some .int)) (by decide) rfl ?_
  intro p e s m args below meth c s₁ B hml hv
  obtain ⟨rfl, hsz, hP, hK, hD0⟩ := hv
  have hx := B.exec
  have hb := B.bytes
  have hr := B.returns
  have hts := atoms_spec (ws := Cond.code yX11_keep cX11_keep 3 (some .int) :: tb) B.pre
  have ht : ∀ w ∈ tb, w.before _ s = true := fun w h => hts w (List.mem_cons_of_mem _ h)
  have hown : s.vm.findClass RX11 = some m.cls := findClass_of_methodNamed B.named
  have hlocks := B.notSynchronized
  subst hsz
  have hD := hD0.self (sz := s.heap.size)
  generalize hAe : va_A [(q, .inr (11, fs)), (a, .inr (8, ga)), (b, .inr (9, gb))] s.heap.size = A at hD ⊢
  have hA : ∀ q : Nat, s.heap.size ≤ q → A q := fun q h => by rw [← hAe]; exact Or.inr h
  have hS : va_S A s.heap s.heap [] := va_S.rf
  have hl := lv_entry ([.ref q]) (n := 3) (Nat.le_of_ble_eq_true rfl)
  rw [lg_entry_eq]
  generalize (lg_sl ([.ref q]) ++ List.replicate (3 - (lg_sl ([.ref q])).length) Slot.unset).toArray = ls at hl ⊢
  have hl : lv_has ls 3 [(0, .ref q)] := hl
  have hP : va_P (dC, dI) cls [(q, .inr (11, fs)), (a, .inr (8, ga)), (b, .inr (9, gb))] s.heap := hP
  refine lv_aload_n hx hb dX11_keep_0 rfl (lv_at hl 0 rfl) ?_
  refine va_get (D := (dC, dI)) (ci := 11) (v := .int 0) (C := RX11) (T := TX11) (N := 18) hx hb ht uX11 hown hK hP 0 rfl rfl 2 (by decide) (ht _ k_4_93) (fun _ h9 => h9) K2_fs dX11_keep_1 ?_
  refine lv_if_eq (tgt := 10) hx hb dX11_keep_4 (by decide) (fun _ => ?_) (fun c0 => absurd c0 (by decide))
  refine lv_aload_n hx hb dX11_keep_10 rfl (lv_at hl 0 rfl) ?_
  refine va_get (D := (dC, dI)) (ci := 11) (v := .ref a) (C := RX11) (T := TX11) (N := 18) hx hb ht uX11 hown hK hP 0 rfl rfl 13 (by decide) (ht _ k_4_104) (fun _ h9 => h9) K13_fs dX11_keep_11 ?_
  refine ca_i (wr := [(q, .inr (11, fs))]) (va_runV (As := []) (rest := []) ⟨hx, hb, hml, hown, ht⟩ (m8_canBeKept l dC dI s.heap.size a ga b gb L_ga K1_ga L_gb K3_gb ) (cwV 0 ht (gdV k_7_74 k_7_71 k_7_72 k_7_73 k_1_12) rfl rfl rfl (by decide +kernel) ⟨Nat.le_of_ble_eq_true rfl, Nat.le_of_ble_eq_true rfl⟩) ⟨pcw_blind, va_recv hK hP (ci := 8) (q0 := 1) rfl rfl, pcw_at hP hD hK [1, 2] [] (by decide) rfl rfl rfl⟩ rfl rfl hl.1 rfl (lv_room (Nat.le_of_ble_eq_true rfl)) dX11_keep_14 ⟨Nat.le_of_ble_eq_true rfl, Nat.le_of_ble_eq_true rfl⟩) hP hD hK hS hA [1, 2] [0] rfl rfl (by decide) (by decide) (fun r1 u H locs w2 hK hP hD hS => ?_)
  have hK : va_K (dC, dI) cls [] s := hK
  have hP : va_P (dC, dI) cls [(q, .inr (11, fs))] H := hP
  have hD : va_D A [(q, .inr (11, fs))] := hD
  obtain rfl : r1 = 0 := w2
  refine lv_if_ne (tgt := 23) hx hb dX11_keep_17 (by decide) (fun c0 => absurd c0 (by decide)) (fun _ => ?_)
  refine lv_bipush (v := (-2)) hx hb dX11_keep_20 (by decide) ?_
  exact W.iret (v := (-2)) hx hb hr (fun t ht9 hW => ⟨⟨(-2), (), rfl, rfl, by rw [ht9]; exact hP.sub [] rfl, va_K.moved hW.alike (hK.sub [] rfl), hD.sub [] (by decide) rfl⟩, hS.F ht9⟩) hS.2.2 dX11_keep_22
set_option maxHeartbeats 4000000 in
set_option maxRecDepth 100000 in
theorem x_takeTape (l : Launch) (dC : Nat → ClassId) (dI : Nat → Nat → Nat) (sz : Nat) (q : Nat) (fs : List Value) (tp : Nat) (rd : Nat) (as : Nat) (sp : Nat) (lp : Nat) (wr : Nat) (ma : Nat) (dk : Nat) (L_fs : fs.length = 18) (K0_fs : fs[0]? = some (.ref tp)) (K1_fs : fs[1]? = some (.int 0)) (K2_fs : fs[2]? = some (.int 0)) (K8_fs : fs[8]? = some (.ref rd)) (K9_fs : fs[9]? = some (.ref as)) (K10_fs : fs[10]? = some (.ref sp)) (K11_fs : fs[11]? = some (.int 0)) (K14_fs : fs[14]? = some (.ref lp)) (K15_fs : fs[15]? = some (.ref wr)) (K16_fs : fs[16]? = some (.ref ma)) (K17_fs : fs[17]? = some (.ref dk)) : Met l yX11_takeTape (Cond.code yX11_takeTape cX11_takeTape 2 (some .int) :: tb) ({ frames := 0, cells := 0, slots := 0, locals := 0 }) (pcw [.ref q] (dC, dI) [(q, .inr (11, fs))] [] sz) (va_Qi (fun (r : Int32) => (fun (fs1 : List Value) => (r = 0) ∧ (fs1.length = 18) ∧ (fs1[0]? = some (.ref tp)) ∧ (fs1[1]? = some (.int 0)) ∧ (fs1[2]? = some (.int 0)) ∧ (fs1[8]? = some (.ref rd)) ∧ (fs1[9]? = some (.ref as)) ∧ (fs1[10]? = some (.ref sp)) ∧ (fs1[11]? = some (.int 0)) ∧ (fs1[14]? = some (.ref lp)) ∧ (fs1[15]? = some (.ref wr)) ∧ (fs1[16]? = some (.ref ma)) ∧ (fs1[17]? = some (.ref dk)))) (bw (dC, dI) (va_A [(q, .inr (11, fs))] sz) (fun (fs1 : List Value) => [(q, .inr (11, fs1))]) (fun (fs1 : List Value) => [])) (va_A [(q, .inr (11, fs))] sz)) 0 0 (va_A [(q, .inr (11, fs))] sz) := by
  refine Met.ofW (cc := cX11_takeTape) (maxL := 2) (ret := (some .int)) (by decide) rfl ?_
  intro p e s m args below meth c s₁ B hml hv
  obtain ⟨rfl, hsz, hP, hK, hD0⟩ := hv
  have hx := B.exec
  have hb := B.bytes
  have hr := B.returns
  have hts := atoms_spec (ws := Cond.code yX11_takeTape cX11_takeTape 2 (some .int) :: tb) B.pre
  have ht : ∀ w ∈ tb, w.before _ s = true := fun w h => hts w (List.mem_cons_of_mem _ h)
  have hown : s.vm.findClass RX11 = some m.cls := findClass_of_methodNamed B.named
  have hlocks := B.notSynchronized
  subst hsz
  have hD := hD0.self (sz := s.heap.size)
  generalize hAe : va_A [(q, .inr (11, fs))] s.heap.size = A at hD ⊢
  have hA : ∀ q : Nat, s.heap.size ≤ q → A q := fun q h => by rw [← hAe]; exact Or.inr h
  have hS : va_S A s.heap s.heap [] := va_S.rf
  have hl := lv_entry ([.ref q]) (n := 2) (Nat.le_of_ble_eq_true rfl)
  rw [lg_entry_eq]
  generalize (lg_sl ([.ref q]) ++ List.replicate (2 - (lg_sl ([.ref q])).length) Slot.unset).toArray = ls at hl ⊢
  have hl : lv_has ls 2 [(0, .ref q)] := hl
  have hP : va_P (dC, dI) cls [(q, .inr (11, fs))] s.heap := hP
  refine lv_aload_n hx hb dX11_takeTape_0 rfl (lv_at hl 0 rfl) ?_
  refine va_get (D := (dC, dI)) (ci := 11) (v := .int 0) (C := RX11) (T := TX11) (N := 18) hx hb ht uX11 hown hK hP 0 rfl rfl 1 (by decide) (ht _ k_4_92) (fun _ h9 => h9) K1_fs dX11_takeTape_1 ?_
  refine lv_istore_n (lv' := [(1, .int 0), (0, .ref q)]) hx hb dX11_takeTape_4 rfl hl (by decide) rfl (fun ls hl => ?_)
  refine lv_aload_n hx hb dX11_takeTape_5 rfl (lv_at hl 1 rfl) ?_
  refine lv_iconst (v := 0) hx hb dX11_takeTape_6 (by decide) ?_
  refine va_put (D := (dC, dI)) (ci := 11) (v := .int 0) (ty := .int) (C := RX11) (T := TX11) (N := 18) hx hb ht uX11 tyX11 tkX11 nmX11 hown hK hP hD hS 0 rfl rfl 1 (by decide) (ht _ k_4_92) (fun _ h9 => h9) rfl (by decide +kernel) rfl rfl (by rw [L_fs]; decide) dX11_takeTape_7 (fun H locs hP hD hS => ?_)
  obtain ⟨F1, eF1⟩ : ∃ g : List Value, g = fs.set 1 (.int 0) := ⟨_, rfl⟩
  rw [← eF1] at hP hD
  have K0_F1 : F1[0]? = some (.ref tp) := by rw [eF1, List.getElem?_set_ne (by decide)]; exact K0_fs
  have K2_F1 : F1[2]? = some (.int 0) := by rw [eF1, List.getElem?_set_ne (by decide)]; exact K2_fs
  have K8_F1 : F1[8]? = some (.ref rd) := by rw [eF1, List.getElem?_set_ne (by decide)]; exact K8_fs
  have K9_F1 : F1[9]? = some (.ref as) := by rw [eF1, List.getElem?_set_ne (by decide)]; exact K9_fs
  have K10_F1 : F1[10]? = some (.ref sp) := by rw [eF1, List.getElem?_set_ne (by decide)]; exact K10_fs
  have K11_F1 : F1[11]? = some (.int 0) := by rw [eF1, List.getElem?_set_ne (by decide)]; exact K11_fs
  have K14_F1 : F1[14]? = some (.ref lp) := by rw [eF1, List.getElem?_set_ne (by decide)]; exact K14_fs
  have K15_F1 : F1[15]? = some (.ref wr) := by rw [eF1, List.getElem?_set_ne (by decide)]; exact K15_fs
  have K16_F1 : F1[16]? = some (.ref ma) := by rw [eF1, List.getElem?_set_ne (by decide)]; exact K16_fs
  have K17_F1 : F1[17]? = some (.ref dk) := by rw [eF1, List.getElem?_set_ne (by decide)]; exact K17_fs
  have K1_F1 : F1[1]? = some (.int 0) := by rw [eF1]; exact List.getElem?_set_self (by rw [L_fs]; decide)
  have L_F1 : F1.length = 18 := by rw [eF1, List.length_set]; exact L_fs
  have hP : va_P (dC, dI) cls [(q, .inr (11, F1))] H := hP
  have hD : va_D A [(q, .inr (11, F1))] := hD
  refine lv_iload_n hx hb dX11_takeTape_10 rfl (lv_at hl 0 rfl) ?_
  exact W.iret (v := 0) hx hb hr (fun t ht9 hW => ⟨⟨0, (F1), rfl, ⟨rfl, L_F1, K0_F1, K1_F1, K2_F1, K8_F1, K9_F1, K10_F1, K11_F1, K14_F1, K15_F1, K16_F1, K17_F1⟩, by rw [ht9]; exact hP.sub [0] rfl, va_K.moved hW.alike (hK.sub [] rfl), hD.sub [0] (by decide) rfl⟩, hS.F ht9⟩) hS.2.2 dX11_takeTape_11
set_option maxHeartbeats 4000000 in
set_option maxRecDepth 100000 in
theorem m6_nameIn (l : Launch) (dC : Nat → ClassId) (dI : Nat → Nat → Nat) (sz : Nat) (tp : Nat) (cT : ClassId) (ft : Nat → Int32)  : Met l yX6_nameIn (Cond.code yX6_nameIn cX6_nameIn 6 (some .long) :: tb) ({ frames := 0, cells := 0, slots := 0, locals := 0 }) (pcw [.ref tp, .int 0, .int 0] (dC, dI) [(tp, .inl (cT, 2000, .inl ft))] [(cT, .byte)] sz) (va_Ql (fun (r : Int64) => (fun (_ : Unit) => r = 0)) (bw (dC, dI) (va_A [(tp, .inl (cT, 2000, .inl ft))] sz) (fun (_ : Unit) => []) (fun (_ : Unit) => [])) (va_A [(tp, .inl (cT, 2000, .inl ft))] sz)) 0 0 (va_A [(tp, .inl (cT, 2000, .inl ft))] sz) := by
  refine Met.ofW (cc := cX6_nameIn) (maxL := 6) (ret := (some .long)) (by decide) rfl ?_
  intro p e s m args below meth c s₁ B hml hv
  obtain ⟨rfl, hsz, hP, hK, hD0⟩ := hv
  have hx := B.exec
  have hb := B.bytes
  have hr := B.returns
  have hts := atoms_spec (ws := Cond.code yX6_nameIn cX6_nameIn 6 (some .long) :: tb) B.pre
  have ht : ∀ w ∈ tb, w.before _ s = true := fun w h => hts w (List.mem_cons_of_mem _ h)
  have hown : s.vm.findClass RX6 = some m.cls := findClass_of_methodNamed B.named
  have hlocks := B.notSynchronized
  subst hsz
  have hD := hD0.self (sz := s.heap.size)
  generalize hAe : va_A [(tp, .inl (cT, 2000, .inl ft))] s.heap.size = A at hD ⊢
  have hA : ∀ q : Nat, s.heap.size ≤ q → A q := fun q h => by rw [← hAe]; exact Or.inr h
  have hS : va_S A s.heap s.heap [] := va_S.rf
  have hl := lv_entry ([.ref tp, .int 0, .int 0]) (n := 6) (Nat.le_of_ble_eq_true rfl)
  rw [lg_entry_eq]
  generalize (lg_sl ([.ref tp, .int 0, .int 0]) ++ List.replicate (6 - (lg_sl ([.ref tp, .int 0, .int 0])).length) Slot.unset).toArray = ls at hl ⊢
  have hl : lv_has ls 6 [(0, .ref tp), (1, .int 0), (2, .int 0)] := hl
  have hP : va_P (dC, dI) cls [(tp, .inl (cT, 2000, .inl ft))] s.heap := hP
  refine lv_iload_n hx hb dX6_nameIn_0 rfl (lv_at hl 2 rfl) ?_
  refine lv_iconst (v := 1) hx hb dX6_nameIn_1 (by decide) ?_
  refine lv_icmp_lt (tgt := 23) hx hb dX6_nameIn_2 (by decide) (fun _ => ?_) (fun c0 => absurd c0 (by decide))
  refine lv_lconst (v := 0) hx hb dX6_nameIn_23 (by decide) ?_
  exact W.lret (v := 0) hx hb hr (fun t ht9 hW => ⟨⟨0, (), rfl, rfl, by rw [ht9]; exact hP.sub [] rfl, va_K.moved hW.alike (hK.sub [] rfl), hD.sub [] (by decide) rfl⟩, hS.F ht9⟩) hS.2.2 dX6_nameIn_24
set_option maxHeartbeats 4000000 in
set_option maxRecDepth 100000 in
theorem x_learnName (l : Launch) (dC : Nat → ClassId) (dI : Nat → Nat → Nat) (sz : Nat) (q : Nat) (fs : List Value) (tp : Nat) (cT : ClassId) (ft : Nat → Int32) (L_fs : fs.length = 18) : Met l yX11_learnName (Cond.code yX11_learnName cX11_learnName 8 (some .int) :: tb) ({ frames := 1, cells := 0, slots := 0, locals := 25 }) (pcw [.ref q, .ref tp, .int 0, .int 0, .int 1] (dC, dI) [(q, .inr (11, fs)), (tp, .inl (cT, 2000, .inl ft))] [(cT, .byte)] sz) (va_Qi (fun (r : Int32) => (fun (_ : Unit) => r = -1)) (bw (dC, dI) (va_A [(q, .inr (11, fs)), (tp, .inl (cT, 2000, .inl ft))] sz) (fun (_ : Unit) => []) (fun (_ : Unit) => [])) (va_A [(q, .inr (11, fs)), (tp, .inl (cT, 2000, .inl ft))] sz)) 0 0 (va_A [(q, .inr (11, fs)), (tp, .inl (cT, 2000, .inl ft))] sz) := by
  refine Met.ofW (cc := cX11_learnName) (maxL := 8) (ret := (some .int)) (by decide) rfl ?_
  intro p e s m args below meth c s₁ B hml hv
  obtain ⟨rfl, hsz, hP, hK, hD0⟩ := hv
  have hx := B.exec
  have hb := B.bytes
  have hr := B.returns
  have hts := atoms_spec (ws := Cond.code yX11_learnName cX11_learnName 8 (some .int) :: tb) B.pre
  have ht : ∀ w ∈ tb, w.before _ s = true := fun w h => hts w (List.mem_cons_of_mem _ h)
  have hown : s.vm.findClass RX11 = some m.cls := findClass_of_methodNamed B.named
  have hlocks := B.notSynchronized
  subst hsz
  have hD := hD0.self (sz := s.heap.size)
  generalize hAe : va_A [(q, .inr (11, fs)), (tp, .inl (cT, 2000, .inl ft))] s.heap.size = A at hD ⊢
  have hA : ∀ q : Nat, s.heap.size ≤ q → A q := fun q h => by rw [← hAe]; exact Or.inr h
  have hS : va_S A s.heap s.heap [] := va_S.rf
  have hl := lv_entry ([.ref q, .ref tp, .int 0, .int 0, .int 1]) (n := 8) (Nat.le_of_ble_eq_true rfl)
  rw [lg_entry_eq]
  generalize (lg_sl ([.ref q, .ref tp, .int 0, .int 0, .int 1]) ++ List.replicate (8 - (lg_sl ([.ref q, .ref tp, .int 0, .int 0, .int 1])).length) Slot.unset).toArray = ls at hl ⊢
  have hl : lv_has ls 8 [(0, .ref q), (1, .ref tp), (2, .int 0), (3, .int 0), (4, .int 1)] := hl
  have hP : va_P (dC, dI) cls [(q, .inr (11, fs)), (tp, .inl (cT, 2000, .inl ft))] s.heap := hP
  refine lv_aload_n hx hb dX11_learnName_0 rfl (lv_at hl 1 rfl) ?_
  refine lv_iload_n hx hb dX11_learnName_1 rfl (lv_at hl 2 rfl) ?_
  refine lv_iload_n hx hb dX11_learnName_2 rfl (lv_at hl 3 rfl) ?_
  refine ca_l (wr := [(q, .inr (11, fs))]) (va_runS (As := [.ref tp, .int 0, .int 0]) (rest := []) ⟨hx, hb, hml, hown, ht⟩ (m6_nameIn l dC dI s.heap.size tp cT ft  ) (cwS2 3 ht (gdI k_7_111) rfl rfl rfl (ht _ k_1_8) (ht _ k_7_109) (ht _ k_7_110) (by decide +kernel) ⟨Nat.le_of_ble_eq_true rfl, Nat.le_of_ble_eq_true rfl⟩) ⟨pcw_blind, pcw_at hP hD hK [1] [0] (by decide) rfl rfl rfl⟩ rfl rfl hl.1 rfl (lv_room (Nat.le_of_ble_eq_true rfl)) dX11_learnName_3 ⟨Nat.le_of_ble_eq_true rfl, Nat.le_of_ble_eq_true rfl⟩) hP hD hK hS hA [1] [0] rfl rfl (by decide) (by decide) (fun r1 u H locs w2 hK hP hD hS => ?_)
  have hK : va_K (dC, dI) cls [(cT, .byte)] s := hK
  have hP : va_P (dC, dI) cls [(q, .inr (11, fs))] H := hP
  have hD : va_D A [(q, .inr (11, fs))] := hD
  obtain rfl : r1 = 0 := w2
  refine lv_lstore (lv' := [(5, .long 0), (0, .ref q), (1, .ref tp), (2, .int 0), (3, .int 0), (4, .int 1)]) hx hb dX11_learnName_6 hl (by decide) rfl (fun ls hl => ?_)
  refine lv_lload hx hb dX11_learnName_8 (lv_at hl 0 rfl) ?_
  refine lv_lconst (v := 0) hx hb dX11_learnName_10 (by decide) ?_
  refine W.lcmp hx hb dX11_learnName_11 ?_
  refine tk_i (y := 0) (by decide) ?_
  refine lv_if_eq (tgt := 27) hx hb dX11_learnName_12 (by decide) (fun _ => ?_) (fun c0 => absurd c0 (by decide))
  refine lv_iconst (v := (-1)) hx hb dX11_learnName_27 (by decide) ?_
  exact W.iret (v := (-1)) hx hb hr (fun t ht9 hW => ⟨⟨(-1), (), rfl, rfl, by rw [ht9]; exact hP.sub [] rfl, va_K.moved hW.alike (hK.sub [] rfl), hD.sub [] (by decide) rfl⟩, hS.F ht9⟩) hS.2.2 dX11_learnName_28
set_option maxHeartbeats 4000000 in
set_option maxRecDepth 100000 in
theorem x_learn (l : Launch) (dC : Nat → ClassId) (dI : Nat → Nat → Nat) (sz : Nat) (q : Nat) (fs : List Value) (tp : Nat) (rd : Nat) (as : Nat) (sp : Nat) (lp : Nat) (wr : Nat) (ma : Nat) (dk : Nat) (cT : ClassId) (ft : Nat → Int32) (L_fs : fs.length = 18) (K0_fs : fs[0]? = some (.ref tp)) (K1_fs : fs[1]? = some (.int 0)) (K2_fs : fs[2]? = some (.int 0)) (K8_fs : fs[8]? = some (.ref rd)) (K9_fs : fs[9]? = some (.ref as)) (K10_fs : fs[10]? = some (.ref sp)) (K11_fs : fs[11]? = some (.int 0)) (K14_fs : fs[14]? = some (.ref lp)) (K15_fs : fs[15]? = some (.ref wr)) (K16_fs : fs[16]? = some (.ref ma)) (K17_fs : fs[17]? = some (.ref dk)) : Met l yX11_learn (Cond.code yX11_learn cX11_learn 1 (some .int) :: tb) ({ frames := 2, cells := 0, slots := 0, locals := 52 }) (pcw [.ref q] (dC, dI) [(q, .inr (11, fs)), (tp, .inl (cT, 2000, .inl ft))] [(cT, .byte)] sz) (va_Qi (fun (r : Int32) => (fun (_ : Unit) => r = -1)) (bw (dC, dI) (va_A [(q, .inr (11, fs)), (tp, .inl (cT, 2000, .inl ft))] sz) (fun (_ : Unit) => []) (fun (_ : Unit) => [])) (va_A [(q, .inr (11, fs)), (tp, .inl (cT, 2000, .inl ft))] sz)) 0 0 (va_A [(q, .inr (11, fs)), (tp, .inl (cT, 2000, .inl ft))] sz) := by
  refine Met.ofW (cc := cX11_learn) (maxL := 1) (ret := (some .int)) (by decide) rfl ?_
  intro p e s m args below meth c s₁ B hml hv
  obtain ⟨rfl, hsz, hP, hK, hD0⟩ := hv
  have hx := B.exec
  have hb := B.bytes
  have hr := B.returns
  have hts := atoms_spec (ws := Cond.code yX11_learn cX11_learn 1 (some .int) :: tb) B.pre
  have ht : ∀ w ∈ tb, w.before _ s = true := fun w h => hts w (List.mem_cons_of_mem _ h)
  have hown : s.vm.findClass RX11 = some m.cls := findClass_of_methodNamed B.named
  have hlocks := B.notSynchronized
  subst hsz
  have hD := hD0.self (sz := s.heap.size)
  generalize hAe : va_A [(q, .inr (11, fs)), (tp, .inl (cT, 2000, .inl ft))] s.heap.size = A at hD ⊢
  have hA : ∀ q : Nat, s.heap.size ≤ q → A q := fun q h => by rw [← hAe]; exact Or.inr h
  have hS : va_S A s.heap s.heap [] := va_S.rf
  have hl := lv_entry ([.ref q]) (n := 1) (Nat.le_of_ble_eq_true rfl)
  rw [lg_entry_eq]
  generalize (lg_sl ([.ref q]) ++ List.replicate (1 - (lg_sl ([.ref q])).length) Slot.unset).toArray = ls at hl ⊢
  have hl : lv_has ls 1 [(0, .ref q)] := hl
  have hP : va_P (dC, dI) cls [(q, .inr (11, fs)), (tp, .inl (cT, 2000, .inl ft))] s.heap := hP
  refine lv_aload_n hx hb dX11_learn_0 rfl (lv_at hl 0 rfl) ?_
  refine va_get (D := (dC, dI)) (ci := 11) (v := .int 0) (C := RX11) (T := TX11) (N := 18) hx hb ht uX11 hown hK hP 0 rfl rfl 2 (by decide) (ht _ k_4_93) (fun _ h9 => h9) K2_fs dX11_learn_1 ?_
  refine lv_if_eq (tgt := 10) hx hb dX11_learn_4 (by decide) (fun _ => ?_) (fun c0 => absurd c0 (by decide))
  refine lv_aload_n hx hb dX11_learn_10 rfl (lv_at hl 0 rfl) ?_
  refine lv_aload_n hx hb dX11_learn_11 rfl (lv_at hl 0 rfl) ?_
  refine va_get (D := (dC, dI)) (ci := 11) (v := .ref tp) (C := RX11) (T := TX11) (N := 18) hx hb ht uX11 hown hK hP 0 rfl rfl 0 (by decide) (ht _ k_4_91) (fun _ h9 => h9) K0_fs dX11_learn_12 ?_
  refine lv_iconst (v := 0) hx hb dX11_learn_15 (by decide) ?_
  refine lv_aload_n hx hb dX11_learn_16 rfl (lv_at hl 0 rfl) ?_
  refine ca_i (wr := [(tp, .inl (cT, 2000, .inl ft))]) (va_runV (As := []) (rest := [.int 0, .ref tp, .ref q]) ⟨hx, hb, hml, hown, ht⟩ (x_takeTape l dC dI s.heap.size q fs tp rd as sp lp wr ma dk L_fs K0_fs K1_fs K2_fs K8_fs K9_fs K10_fs K11_fs K14_fs K15_fs K16_fs K17_fs ) (cwV 0 ht (gdV k_4_165 k_4_162 k_4_164 ks_1 k_1_1) rfl rfl rfl (by decide +kernel) ⟨Nat.le_of_ble_eq_true rfl, Nat.le_of_ble_eq_true rfl⟩) ⟨pcw_blind, va_recv hK hP (ci := 11) (q0 := 0) rfl rfl, pcw_at hP hD hK [0] [] (by decide) rfl rfl rfl⟩ rfl rfl hl.1 rfl (lv_room (Nat.le_of_ble_eq_true rfl)) dX11_learn_17 ⟨Nat.le_of_ble_eq_true rfl, Nat.le_of_ble_eq_true rfl⟩) hP hD hK hS hA [0] [1] rfl rfl (by decide) (by decide) (fun r1 u H locs w2 hK hP hD hS => ?_)
  obtain ⟨F3, rfl⟩ : ∃ z, z = u := ⟨_, rfl⟩
  have hK : va_K (dC, dI) cls [(cT, .byte)] s := hK
  have hP : va_P (dC, dI) cls [(tp, .inl (cT, 2000, .inl ft)), (q, .inr (11, F3))] H := hP
  have hD : va_D A [(tp, .inl (cT, 2000, .inl ft)), (q, .inr (11, F3))] := hD
  obtain ⟨w2, K4, K5, K6, K7, K8, K9, K10, K11, K12, K13, K14, K15⟩ := w2
  obtain rfl : r1 = 0 := w2
  refine lv_iconst (v := 1) hx hb dX11_learn_20 (by decide) ?_
  refine ca_i (wr := []) (va_runV (As := [.ref tp, .int 0, .int 0, .int 1]) (rest := []) ⟨hx, hb, hml, hown, ht⟩ (x_learnName l dC dI H.size q F3 tp cT ft K4 ) (cwV 4 ht (gdV k_7_108 k_7_105 k_7_107 ks_67 k_1_1) rfl rfl rfl (by decide +kernel) ⟨Nat.le_of_ble_eq_true rfl, Nat.le_of_ble_eq_true rfl⟩) ⟨pcw_blind, va_recv hK hP (ci := 11) (q0 := 1) rfl rfl, pcw_at hP hD hK [1, 0] [0] (by decide) rfl rfl rfl⟩ rfl rfl hl.1 rfl (lv_room (Nat.le_of_ble_eq_true rfl)) dX11_learn_21 ⟨Nat.le_of_ble_eq_true rfl, Nat.le_of_ble_eq_true rfl⟩) hP hD hK hS hA [1, 0] [] rfl rfl (by decide) (by decide) (fun r16 u H locs w17 hK hP hD hS => ?_)
  have hK : va_K (dC, dI) cls [(cT, .byte)] s := hK
  have hP : va_P (dC, dI) cls [] H := hP
  have hD : va_D A [] := hD
  obtain rfl : r16 = (-1) := w17
  exact W.iret (v := (-1)) hx hb hr (fun t ht9 hW => ⟨⟨(-1), (), rfl, rfl, by rw [ht9]; exact hP.sub [] rfl, va_K.moved hW.alike (hK.sub [] rfl), hD.sub [] (by decide) rfl⟩, hS.F ht9⟩) hS.2.2 dX11_learn_24
set_option maxHeartbeats 4000000 in
set_option maxRecDepth 100000 in
theorem x_addRow (l : Launch) (dC : Nat → ClassId) (dI : Nat → Nat → Nat) (sz : Nat) (q : Nat) (fs : List Value) (tp : Nat) (p0 : Int32) (L_fs : fs.length = 18) : Met l yX11_addRow (Cond.code yX11_addRow cX11_addRow 6 (some .int) :: tb) ({ frames := 0, cells := 0, slots := 0, locals := 0 }) (pcw [.ref q, .ref tp, .int 0, .int 0, .int p0, .int 1] (dC, dI) [(q, .inr (11, fs))] [] sz) (va_Qi (fun (r : Int32) => (fun (_ : Unit) => r = -1)) (bw (dC, dI) (va_A [(q, .inr (11, fs))] sz) (fun (_ : Unit) => []) (fun (_ : Unit) => [])) (va_A [(q, .inr (11, fs))] sz)) 0 0 (va_A [(q, .inr (11, fs))] sz) := by
  refine Met.ofW (cc := cX11_addRow) (maxL := 6) (ret := (some .int)) (by decide) rfl ?_
  intro p e s m args below meth c s₁ B hml hv
  obtain ⟨rfl, hsz, hP, hK, hD0⟩ := hv
  have hx := B.exec
  have hb := B.bytes
  have hr := B.returns
  have hts := atoms_spec (ws := Cond.code yX11_addRow cX11_addRow 6 (some .int) :: tb) B.pre
  have ht : ∀ w ∈ tb, w.before _ s = true := fun w h => hts w (List.mem_cons_of_mem _ h)
  have hown : s.vm.findClass RX11 = some m.cls := findClass_of_methodNamed B.named
  have hlocks := B.notSynchronized
  subst hsz
  have hD := hD0.self (sz := s.heap.size)
  generalize hAe : va_A [(q, .inr (11, fs))] s.heap.size = A at hD ⊢
  have hA : ∀ q : Nat, s.heap.size ≤ q → A q := fun q h => by rw [← hAe]; exact Or.inr h
  have hS : va_S A s.heap s.heap [] := va_S.rf
  have hl := lv_entry ([.ref q, .ref tp, .int 0, .int 0, .int p0, .int 1]) (n := 6) (Nat.le_of_ble_eq_true rfl)
  rw [lg_entry_eq]
  generalize (lg_sl ([.ref q, .ref tp, .int 0, .int 0, .int p0, .int 1]) ++ List.replicate (6 - (lg_sl ([.ref q, .ref tp, .int 0, .int 0, .int p0, .int 1])).length) Slot.unset).toArray = ls at hl ⊢
  have hl : lv_has ls 6 [(0, .ref q), (1, .ref tp), (2, .int 0), (3, .int 0), (4, .int p0), (5, .int 1)] := hl
  have hP : va_P (dC, dI) cls [(q, .inr (11, fs))] s.heap := hP
  refine lv_iload hx hb dX11_addRow_0 (lv_at hl 4 rfl) ?_
  refine lv_if_lt (tgt := 40) hx hb dX11_addRow_2 (by decide) (fun b1 => ?_) (fun b1 => ?_)
  · refine lv_iconst (v := (-1)) hx hb dX11_addRow_40 (by decide) ?_
    exact W.iret (v := (-1)) hx hb hr (fun t ht9 hW => ⟨⟨(-1), (), rfl, rfl, by rw [ht9]; exact hP.sub [] rfl, va_K.moved hW.alike (hK.sub [] rfl), hD.sub [] (by decide) rfl⟩, hS.F ht9⟩) hS.2.2 dX11_addRow_41
  · refine lv_iload hx hb dX11_addRow_5 (lv_at hl 4 rfl) ?_
    refine lv_bipush (v := 10) hx hb dX11_addRow_7 (by decide) ?_
    refine lv_icmp_gt (tgt := 40) hx hb dX11_addRow_9 (by decide) (fun b2 => ?_) (fun b2 => ?_)
    · refine lv_iconst (v := (-1)) hx hb dX11_addRow_40 (by decide) ?_
      exact W.iret (v := (-1)) hx hb hr (fun t ht9 hW => ⟨⟨(-1), (), rfl, rfl, by rw [ht9]; exact hP.sub [] rfl, va_K.moved hW.alike (hK.sub [] rfl), hD.sub [] (by decide) rfl⟩, hS.F ht9⟩) hS.2.2 dX11_addRow_41
    · refine lv_iload_n hx hb dX11_addRow_12 rfl (lv_at hl 3 rfl) ?_
      refine lv_iload hx hb dX11_addRow_13 (lv_at hl 4 rfl) ?_
      refine lv_isub hx hb dX11_addRow_15 ?_
      refine lv_topi (fun x3 ex3 => ?_)
      refine lv_iconst (v := 1) hx hb dX11_addRow_16 (by decide) ?_
      refine lv_icmp_lt (tgt := 40) hx hb dX11_addRow_17 (by decide) (fun _ => ?_) (fun c0 => absurd ((by rw [ex3]; exact neg_lt b1 b2)) c0)
      refine lv_iconst (v := (-1)) hx hb dX11_addRow_40 (by decide) ?_
      exact W.iret (v := (-1)) hx hb hr (fun t ht9 hW => ⟨⟨(-1), (), rfl, rfl, by rw [ht9]; exact hP.sub [] rfl, va_K.moved hW.alike (hK.sub [] rfl), hD.sub [] (by decide) rfl⟩, hS.F ht9⟩) hS.2.2 dX11_addRow_41
set_option maxHeartbeats 4000000 in
set_option maxRecDepth 100000 in
theorem x_example (l : Launch) (dC : Nat → ClassId) (dI : Nat → Nat → Nat) (sz : Nat) (q : Nat) (fs : List Value) (tp : Nat) (rd : Nat) (as : Nat) (sp : Nat) (lp : Nat) (wr : Nat) (ma : Nat) (dk : Nat) (p0 : Int32) (L_fs : fs.length = 18) (K0_fs : fs[0]? = some (.ref tp)) (K1_fs : fs[1]? = some (.int 0)) (K2_fs : fs[2]? = some (.int 0)) (K8_fs : fs[8]? = some (.ref rd)) (K9_fs : fs[9]? = some (.ref as)) (K10_fs : fs[10]? = some (.ref sp)) (K11_fs : fs[11]? = some (.int 0)) (K14_fs : fs[14]? = some (.ref lp)) (K15_fs : fs[15]? = some (.ref wr)) (K16_fs : fs[16]? = some (.ref ma)) (K17_fs : fs[17]? = some (.ref dk)) : Met l yX11_example (Cond.code yX11_example cX11_example 3 (some .int) :: tb) ({ frames := 1, cells := 0, slots := 0, locals := 25 }) (pcw [.ref q, .int p0] (dC, dI) [(q, .inr (11, fs))] [] sz) (va_Qi (fun (r : Int32) => (fun (_ : Unit) => r = -1)) (bw (dC, dI) (va_A [(q, .inr (11, fs))] sz) (fun (_ : Unit) => []) (fun (_ : Unit) => [])) (va_A [(q, .inr (11, fs))] sz)) 0 0 (va_A [(q, .inr (11, fs))] sz) := by
  refine Met.ofW (cc := cX11_example) (maxL := 3) (ret := (some .int)) (by decide) rfl ?_
  intro p e s m args below meth c s₁ B hml hv
  obtain ⟨rfl, hsz, hP, hK, hD0⟩ := hv
  have hx := B.exec
  have hb := B.bytes
  have hr := B.returns
  have hts := atoms_spec (ws := Cond.code yX11_example cX11_example 3 (some .int) :: tb) B.pre
  have ht : ∀ w ∈ tb, w.before _ s = true := fun w h => hts w (List.mem_cons_of_mem _ h)
  have hown : s.vm.findClass RX11 = some m.cls := findClass_of_methodNamed B.named
  have hlocks := B.notSynchronized
  subst hsz
  have hD := hD0.self (sz := s.heap.size)
  generalize hAe : va_A [(q, .inr (11, fs))] s.heap.size = A at hD ⊢
  have hA : ∀ q : Nat, s.heap.size ≤ q → A q := fun q h => by rw [← hAe]; exact Or.inr h
  have hS : va_S A s.heap s.heap [] := va_S.rf
  have hl := lv_entry ([.ref q, .int p0]) (n := 3) (Nat.le_of_ble_eq_true rfl)
  rw [lg_entry_eq]
  generalize (lg_sl ([.ref q, .int p0]) ++ List.replicate (3 - (lg_sl ([.ref q, .int p0])).length) Slot.unset).toArray = ls at hl ⊢
  have hl : lv_has ls 3 [(0, .ref q), (1, .int p0)] := hl
  have hP : va_P (dC, dI) cls [(q, .inr (11, fs))] s.heap := hP
  refine lv_aload_n hx hb dX11_example_0 rfl (lv_at hl 0 rfl) ?_
  refine va_get (D := (dC, dI)) (ci := 11) (v := .int 0) (C := RX11) (T := TX11) (N := 18) hx hb ht uX11 hown hK hP 0 rfl rfl 2 (by decide) (ht _ k_4_93) (fun _ h9 => h9) K2_fs dX11_example_1 ?_
  refine lv_if_eq (tgt := 10) hx hb dX11_example_4 (by decide) (fun _ => ?_) (fun c0 => absurd c0 (by decide))
  refine lv_aload_n hx hb dX11_example_10 rfl (lv_at hl 0 rfl) ?_
  refine ca_i (wr := []) (va_runV (As := []) (rest := []) ⟨hx, hb, hml, hown, ht⟩ (x_takeTape l dC dI s.heap.size q fs tp rd as sp lp wr ma dk L_fs K0_fs K1_fs K2_fs K8_fs K9_fs K10_fs K11_fs K14_fs K15_fs K16_fs K17_fs ) (cwV 0 ht (gdV k_4_165 k_4_162 k_4_164 ks_1 k_1_1) rfl rfl rfl (by decide +kernel) ⟨Nat.le_of_ble_eq_true rfl, Nat.le_of_ble_eq_true rfl⟩) ⟨pcw_blind, va_recv hK hP (ci := 11) (q0 := 0) rfl rfl, pcw_at hP hD hK [0] [] (by decide) rfl rfl rfl⟩ rfl rfl hl.1 rfl (lv_room (Nat.le_of_ble_eq_true rfl)) dX11_example_11 ⟨Nat.le_of_ble_eq_true rfl, Nat.le_of_ble_eq_true rfl⟩) hP hD hK hS hA [0] [] rfl rfl (by decide) (by decide) (fun r1 u H locs w2 hK hP hD hS => ?_)
  obtain ⟨F3, rfl⟩ : ∃ z, z = u := ⟨_, rfl⟩
  have hK : va_K (dC, dI) cls [] s := hK
  have hP : va_P (dC, dI) cls [(q, .inr (11, F3))] H := hP
  have hD : va_D A [(q, .inr (11, F3))] := hD
  obtain ⟨w2, K4, K5, K6, K7, K8, K9, K10, K11, K12, K13, K14, K15⟩ := w2
  obtain rfl : r1 = 0 := w2
  refine lv_istore_n (lv' := [(2, .int 0), (0, .ref q), (1, .int p0)]) hx hb dX11_example_14 rfl hl (by decide) rfl (fun ls hl => ?_)
  refine lv_aload_n hx hb dX11_example_15 rfl (lv_at hl 1 rfl) ?_
  refine lv_aload_n hx hb dX11_example_16 rfl (lv_at hl 1 rfl) ?_
  refine va_get (D := (dC, dI)) (ci := 11) (v := .ref tp) (C := RX11) (T := TX11) (N := 18) hx hb ht uX11 hown hK hP 0 rfl rfl 0 (by decide) (ht _ k_4_91) (fun _ h9 => h9) K5 dX11_example_17 ?_
  refine lv_iconst (v := 0) hx hb dX11_example_20 (by decide) ?_
  refine lv_iload_n hx hb dX11_example_21 rfl (lv_at hl 0 rfl) ?_
  refine lv_iload_n hx hb dX11_example_22 rfl (lv_at hl 2 rfl) ?_
  refine lv_iconst (v := 1) hx hb dX11_example_23 (by decide) ?_
  refine ca_i (wr := []) (va_runV (As := [.ref tp, .int 0, .int 0, .int p0, .int 1]) (rest := []) ⟨hx, hb, hml, hown, ht⟩ (x_addRow l dC dI H.size q F3 tp p0 K4 ) (cwV 5 ht (gdV k_8_28 k_8_25 k_8_27 ks_83 k_1_1) rfl rfl rfl (by decide +kernel) ⟨Nat.le_of_ble_eq_true rfl, Nat.le_of_ble_eq_true rfl⟩) ⟨pcw_blind, va_recv hK hP (ci := 11) (q0 := 0) rfl rfl, pcw_at hP hD hK [0] [] (by decide) rfl rfl rfl⟩ rfl rfl hl.1 rfl (lv_room (Nat.le_of_ble_eq_true rfl)) dX11_example_24 ⟨Nat.le_of_ble_eq_true rfl, Nat.le_of_ble_eq_true rfl⟩) hP hD hK hS hA [0] [] rfl rfl (by decide) (by decide) (fun r16 u H locs w17 hK hP hD hS => ?_)
  have hK : va_K (dC, dI) cls [] s := hK
  have hP : va_P (dC, dI) cls [] H := hP
  have hD : va_D A [] := hD
  obtain rfl : r16 = (-1) := w17
  exact W.iret (v := (-1)) hx hb hr (fun t ht9 hW => ⟨⟨(-1), (), rfl, rfl, by rw [ht9]; exact hP.sub [] rfl, va_K.moved hW.alike (hK.sub [] rfl), hD.sub [] (by decide) rfl⟩, hS.F ht9⟩) hS.2.2 dX11_example_27
set_option maxHeartbeats 4000000 in
set_option maxRecDepth 100000 in
theorem x_lettersIn_122 (l : Launch) (dC : Nat → ClassId) (dI : Nat → Nat → Nat) (sz : Nat) (tp : Nat) (cT : ClassId) (ft : Nat → Int32)  : Met l yX11_lettersIn (Cond.code yX11_lettersIn cX11_lettersIn 5 (some .boolean) :: tb) ({ frames := 0, cells := 0, slots := 0, locals := 0 }) (pcw [.ref tp, .int 0, .int 0, .int 122] (dC, dI) [(tp, .inl (cT, 2000, .inl ft))] [(cT, .byte)] sz) (va_Qi (fun (r : Int32) => (fun (_ : Unit) => r = 1)) (bw (dC, dI) (va_A [(tp, .inl (cT, 2000, .inl ft))] sz) (fun (_ : Unit) => [(tp, .inl (cT, 2000, .inl ft))]) (fun (_ : Unit) => [(cT, .byte)])) (va_A [(tp, .inl (cT, 2000, .inl ft))] sz)) 0 0 (va_A [(tp, .inl (cT, 2000, .inl ft))] sz) := by
  refine Met.ofW (cc := cX11_lettersIn) (maxL := 5) (ret := (some .boolean)) (by decide) rfl ?_
  intro p e s m args below meth c s₁ B hml hv
  obtain ⟨rfl, hsz, hP, hK, hD0⟩ := hv
  have hx := B.exec
  have hb := B.bytes
  have hr := B.returns
  have hts := atoms_spec (ws := Cond.code yX11_lettersIn cX11_lettersIn 5 (some .boolean) :: tb) B.pre
  have ht : ∀ w ∈ tb, w.before _ s = true := fun w h => hts w (List.mem_cons_of_mem _ h)
  have hown : s.vm.findClass RX11 = some m.cls := findClass_of_methodNamed B.named
  have hlocks := B.notSynchronized
  subst hsz
  have hD := hD0.self (sz := s.heap.size)
  generalize hAe : va_A [(tp, .inl (cT, 2000, .inl ft))] s.heap.size = A at hD ⊢
  have hA : ∀ q : Nat, s.heap.size ≤ q → A q := fun q h => by rw [← hAe]; exact Or.inr h
  have hS : va_S A s.heap s.heap [] := va_S.rf
  have hl := lv_entry ([.ref tp, .int 0, .int 0, .int 122]) (n := 5) (Nat.le_of_ble_eq_true rfl)
  rw [lg_entry_eq]
  generalize (lg_sl ([.ref tp, .int 0, .int 0, .int 122]) ++ List.replicate (5 - (lg_sl ([.ref tp, .int 0, .int 0, .int 122])).length) Slot.unset).toArray = ls at hl ⊢
  have hl : lv_has ls 5 [(0, .ref tp), (1, .int 0), (2, .int 0), (3, .int 122)] := hl
  have hP : va_P (dC, dI) cls [(tp, .inl (cT, 2000, .inl ft))] s.heap := hP
  refine lv_iload_n hx hb dX11_lettersIn_0 rfl (lv_at hl 1 rfl) ?_
  refine lv_if_lt (tgt := 16) hx hb dX11_lettersIn_1 (by decide) (fun c0 => absurd c0 (by decide)) (fun _ => ?_)
  refine lv_iload_n hx hb dX11_lettersIn_4 rfl (lv_at hl 2 rfl) ?_
  refine lv_if_lt (tgt := 16) hx hb dX11_lettersIn_5 (by decide) (fun c0 => absurd c0 (by decide)) (fun _ => ?_)
  refine lv_iload_n hx hb dX11_lettersIn_8 rfl (lv_at hl 1 rfl) ?_
  refine lv_iload_n hx hb dX11_lettersIn_9 rfl (lv_at hl 2 rfl) ?_
  refine lv_iadd hx hb dX11_lettersIn_10 ?_
  refine tk_i (y := 0) (by decide) ?_
  refine lv_aload_n hx hb dX11_lettersIn_11 rfl (lv_at hl 0 rfl) ?_
  refine va_alen (x := (2000, .inl ft)) (v := 2000) hx hb hK hP 0 0 rfl rfl (show Int32.ofNat 2000 = 2000 by decide) dX11_lettersIn_12 ?_
  refine lv_icmp_le (tgt := 18) hx hb dX11_lettersIn_13 (by decide) (fun _ => ?_) (fun c0 => absurd c0 (by decide))
  refine lv_iload_n hx hb dX11_lettersIn_18 rfl (lv_at hl 1 rfl) ?_
  refine lv_istore (lv' := [(4, .int 0), (0, .ref tp), (1, .int 0), (2, .int 0), (3, .int 122)]) hx hb dX11_lettersIn_19 hl (by decide) rfl (fun ls hl => ?_)
  refine lv_iload hx hb dX11_lettersIn_21 (lv_at hl 0 rfl) ?_
  refine lv_iload_n hx hb dX11_lettersIn_23 rfl (lv_at hl 2 rfl) ?_
  refine lv_iload_n hx hb dX11_lettersIn_24 rfl (lv_at hl 3 rfl) ?_
  refine lv_iadd hx hb dX11_lettersIn_25 ?_
  refine tk_i (y := 0) (by decide) ?_
  refine lv_icmp_ge (tgt := 54) hx hb dX11_lettersIn_26 (by decide) (fun _ => ?_) (fun c0 => absurd c0 (by decide))
  refine lv_iconst (v := 1) hx hb dX11_lettersIn_54 (by decide) ?_
  exact W.zret (v := 1) hx hb hr rfl (fun t ht9 hW => ⟨⟨1, (), rfl, rfl, by rw [ht9]; exact hP.sub [0] rfl, va_K.moved hW.alike (hK.sub [0] rfl), hD.sub [0] (by decide) rfl⟩, hS.F ht9⟩) hS.2.2 dX11_lettersIn_55
set_option maxHeartbeats 4000000 in
set_option maxRecDepth 100000 in
theorem x_lettersIn_98 (l : Launch) (dC : Nat → ClassId) (dI : Nat → Nat → Nat) (sz : Nat) (tp : Nat) (cT : ClassId) (ft : Nat → Int32)  : Met l yX11_lettersIn (Cond.code yX11_lettersIn cX11_lettersIn 5 (some .boolean) :: tb) ({ frames := 0, cells := 0, slots := 0, locals := 0 }) (pcw [.ref tp, .int 0, .int 0, .int 98] (dC, dI) [(tp, .inl (cT, 2000, .inl ft))] [(cT, .byte)] sz) (va_Qi (fun (r : Int32) => (fun (_ : Unit) => r = 1)) (bw (dC, dI) (va_A [(tp, .inl (cT, 2000, .inl ft))] sz) (fun (_ : Unit) => [(tp, .inl (cT, 2000, .inl ft))]) (fun (_ : Unit) => [(cT, .byte)])) (va_A [(tp, .inl (cT, 2000, .inl ft))] sz)) 0 0 (va_A [(tp, .inl (cT, 2000, .inl ft))] sz) := by
  refine Met.ofW (cc := cX11_lettersIn) (maxL := 5) (ret := (some .boolean)) (by decide) rfl ?_
  intro p e s m args below meth c s₁ B hml hv
  obtain ⟨rfl, hsz, hP, hK, hD0⟩ := hv
  have hx := B.exec
  have hb := B.bytes
  have hr := B.returns
  have hts := atoms_spec (ws := Cond.code yX11_lettersIn cX11_lettersIn 5 (some .boolean) :: tb) B.pre
  have ht : ∀ w ∈ tb, w.before _ s = true := fun w h => hts w (List.mem_cons_of_mem _ h)
  have hown : s.vm.findClass RX11 = some m.cls := findClass_of_methodNamed B.named
  have hlocks := B.notSynchronized
  subst hsz
  have hD := hD0.self (sz := s.heap.size)
  generalize hAe : va_A [(tp, .inl (cT, 2000, .inl ft))] s.heap.size = A at hD ⊢
  have hA : ∀ q : Nat, s.heap.size ≤ q → A q := fun q h => by rw [← hAe]; exact Or.inr h
  have hS : va_S A s.heap s.heap [] := va_S.rf
  have hl := lv_entry ([.ref tp, .int 0, .int 0, .int 98]) (n := 5) (Nat.le_of_ble_eq_true rfl)
  rw [lg_entry_eq]
  generalize (lg_sl ([.ref tp, .int 0, .int 0, .int 98]) ++ List.replicate (5 - (lg_sl ([.ref tp, .int 0, .int 0, .int 98])).length) Slot.unset).toArray = ls at hl ⊢
  have hl : lv_has ls 5 [(0, .ref tp), (1, .int 0), (2, .int 0), (3, .int 98)] := hl
  have hP : va_P (dC, dI) cls [(tp, .inl (cT, 2000, .inl ft))] s.heap := hP
  refine lv_iload_n hx hb dX11_lettersIn_0 rfl (lv_at hl 1 rfl) ?_
  refine lv_if_lt (tgt := 16) hx hb dX11_lettersIn_1 (by decide) (fun c0 => absurd c0 (by decide)) (fun _ => ?_)
  refine lv_iload_n hx hb dX11_lettersIn_4 rfl (lv_at hl 2 rfl) ?_
  refine lv_if_lt (tgt := 16) hx hb dX11_lettersIn_5 (by decide) (fun c0 => absurd c0 (by decide)) (fun _ => ?_)
  refine lv_iload_n hx hb dX11_lettersIn_8 rfl (lv_at hl 1 rfl) ?_
  refine lv_iload_n hx hb dX11_lettersIn_9 rfl (lv_at hl 2 rfl) ?_
  refine lv_iadd hx hb dX11_lettersIn_10 ?_
  refine tk_i (y := 0) (by decide) ?_
  refine lv_aload_n hx hb dX11_lettersIn_11 rfl (lv_at hl 0 rfl) ?_
  refine va_alen (x := (2000, .inl ft)) (v := 2000) hx hb hK hP 0 0 rfl rfl (show Int32.ofNat 2000 = 2000 by decide) dX11_lettersIn_12 ?_
  refine lv_icmp_le (tgt := 18) hx hb dX11_lettersIn_13 (by decide) (fun _ => ?_) (fun c0 => absurd c0 (by decide))
  refine lv_iload_n hx hb dX11_lettersIn_18 rfl (lv_at hl 1 rfl) ?_
  refine lv_istore (lv' := [(4, .int 0), (0, .ref tp), (1, .int 0), (2, .int 0), (3, .int 98)]) hx hb dX11_lettersIn_19 hl (by decide) rfl (fun ls hl => ?_)
  refine lv_iload hx hb dX11_lettersIn_21 (lv_at hl 0 rfl) ?_
  refine lv_iload_n hx hb dX11_lettersIn_23 rfl (lv_at hl 2 rfl) ?_
  refine lv_iload_n hx hb dX11_lettersIn_24 rfl (lv_at hl 3 rfl) ?_
  refine lv_iadd hx hb dX11_lettersIn_25 ?_
  refine tk_i (y := 0) (by decide) ?_
  refine lv_icmp_ge (tgt := 54) hx hb dX11_lettersIn_26 (by decide) (fun _ => ?_) (fun c0 => absurd c0 (by decide))
  refine lv_iconst (v := 1) hx hb dX11_lettersIn_54 (by decide) ?_
  exact W.zret (v := 1) hx hb hr rfl (fun t ht9 hW => ⟨⟨1, (), rfl, rfl, by rw [ht9]; exact hP.sub [0] rfl, va_K.moved hW.alike (hK.sub [0] rfl), hD.sub [0] (by decide) rfl⟩, hS.F ht9⟩) hS.2.2 dX11_lettersIn_55
set_option maxHeartbeats 4000000 in
set_option maxRecDepth 100000 in
theorem x_clear (l : Launch) (dC : Nat → ClassId) (dI : Nat → Nat → Nat) (sz : Nat) (q : Nat) (fs : List Value) (wr : Nat) (gw : List Value) (L_fs : fs.length = 18) (K2_fs : fs[2]? = some (.int 0)) (K15_fs : fs[15]? = some (.ref wr)) (L_gw : gw.length = 21) (K0_gw : gw[0]? = some (.int 0)) : Met l yX11_clear (Cond.code yX11_clear cX11_clear 2 (some .int) :: tb) ({ frames := 0, cells := 0, slots := 0, locals := 0 }) (pcw [.ref q] (dC, dI) [(q, .inr (11, fs)), (wr, .inr (10, gw))] [] sz) (va_Qi (fun (r : Int32) => (fun (_ : Unit) => r = 0)) (bw (dC, dI) (va_A [(q, .inr (11, fs)), (wr, .inr (10, gw))] sz) (fun (_ : Unit) => []) (fun (_ : Unit) => [])) (va_A [(q, .inr (11, fs)), (wr, .inr (10, gw))] sz)) 0 0 (va_A [(q, .inr (11, fs)), (wr, .inr (10, gw))] sz) := by
  refine Met.ofW (cc := cX11_clear) (maxL := 2) (ret := (some .int)) (by decide) rfl ?_
  intro p e s m args below meth c s₁ B hml hv
  obtain ⟨rfl, hsz, hP, hK, hD0⟩ := hv
  have hx := B.exec
  have hb := B.bytes
  have hr := B.returns
  have hts := atoms_spec (ws := Cond.code yX11_clear cX11_clear 2 (some .int) :: tb) B.pre
  have ht : ∀ w ∈ tb, w.before _ s = true := fun w h => hts w (List.mem_cons_of_mem _ h)
  have hown : s.vm.findClass RX11 = some m.cls := findClass_of_methodNamed B.named
  have hlocks := B.notSynchronized
  subst hsz
  have hD := hD0.self (sz := s.heap.size)
  generalize hAe : va_A [(q, .inr (11, fs)), (wr, .inr (10, gw))] s.heap.size = A at hD ⊢
  have hA : ∀ q : Nat, s.heap.size ≤ q → A q := fun q h => by rw [← hAe]; exact Or.inr h
  have hS : va_S A s.heap s.heap [] := va_S.rf
  have hl := lv_entry ([.ref q]) (n := 2) (Nat.le_of_ble_eq_true rfl)
  rw [lg_entry_eq]
  generalize (lg_sl ([.ref q]) ++ List.replicate (2 - (lg_sl ([.ref q])).length) Slot.unset).toArray = ls at hl ⊢
  have hl : lv_has ls 2 [(0, .ref q)] := hl
  have hP : va_P (dC, dI) cls [(q, .inr (11, fs)), (wr, .inr (10, gw))] s.heap := hP
  refine lv_aload_n hx hb dX11_clear_0 rfl (lv_at hl 0 rfl) ?_
  refine va_get (D := (dC, dI)) (ci := 11) (v := .int 0) (C := RX11) (T := TX11) (N := 18) hx hb ht uX11 hown hK hP 0 rfl rfl 2 (by decide) (ht _ k_4_93) (fun _ h9 => h9) K2_fs dX11_clear_1 ?_
  refine lv_if_eq (tgt := 10) hx hb dX11_clear_4 (by decide) (fun _ => ?_) (fun c0 => absurd c0 (by decide))
  refine lv_aload_n hx hb dX11_clear_10 rfl (lv_at hl 0 rfl) ?_
  refine va_get (D := (dC, dI)) (ci := 11) (v := .ref wr) (C := RX11) (T := TX11) (N := 18) hx hb ht uX11 hown hK hP 0 rfl rfl 15 (by decide) (ht _ k_4_106) (fun _ h9 => h9) K15_fs dX11_clear_11 ?_
  refine va_get (D := (dC, dI)) (ci := 10) (v := .int 0) (C := RX10) (T := TX10) (N := 21) hx hb ht uX10 hown hK hP 1 rfl rfl 0 (by decide) (ht _ k_3_176) (fun _ h9 => h9) K0_gw dX11_clear_14 ?_
  refine lv_istore_n (lv' := [(1, .int 0), (0, .ref q)]) hx hb dX11_clear_17 rfl hl (by decide) rfl (fun ls hl => ?_)
  refine lv_iload_n hx hb dX11_clear_18 rfl (lv_at hl 0 rfl) ?_
  refine lv_if_le (tgt := 53) hx hb dX11_clear_19 (by decide) (fun _ => ?_) (fun c0 => absurd c0 (by decide))
  refine lv_iload_n hx hb dX11_clear_53 rfl (lv_at hl 0 rfl) ?_
  exact W.iret (v := 0) hx hb hr (fun t ht9 hW => ⟨⟨0, (), rfl, rfl, by rw [ht9]; exact hP.sub [] rfl, va_K.moved hW.alike (hK.sub [] rfl), hD.sub [] (by decide) rfl⟩, hS.F ht9⟩) hS.2.2 dX11_clear_54
set_option maxHeartbeats 4000000 in
set_option maxRecDepth 100000 in
theorem x_fit (l : Launch) (dC : Nat → ClassId) (dI : Nat → Nat → Nat) (sz : Nat) (q : Nat) (fs : List Value) (wr : Nat) (gw : List Value) (L_fs : fs.length = 18) (K2_fs : fs[2]? = some (.int 0)) (K15_fs : fs[15]? = some (.ref wr)) (L_gw : gw.length = 21) (K0_gw : gw[0]? = some (.int 0)) : Met l yX11_fit (Cond.code yX11_fit cX11_fit 1 (some .int) :: tb) ({ frames := 0, cells := 0, slots := 0, locals := 0 }) (pcw [.ref q] (dC, dI) [(q, .inr (11, fs)), (wr, .inr (10, gw))] [] sz) (va_Qi (fun (r : Int32) => (fun (_ : Unit) => r = -2)) (bw (dC, dI) (va_A [(q, .inr (11, fs)), (wr, .inr (10, gw))] sz) (fun (_ : Unit) => []) (fun (_ : Unit) => [])) (va_A [(q, .inr (11, fs)), (wr, .inr (10, gw))] sz)) 0 0 (va_A [(q, .inr (11, fs)), (wr, .inr (10, gw))] sz) := by
  refine Met.ofW (cc := cX11_fit) (maxL := 1) (ret := (some .int)) (by decide) rfl ?_
  intro p e s m args below meth c s₁ B hml hv
  obtain ⟨rfl, hsz, hP, hK, hD0⟩ := hv
  have hx := B.exec
  have hb := B.bytes
  have hr := B.returns
  have hts := atoms_spec (ws := Cond.code yX11_fit cX11_fit 1 (some .int) :: tb) B.pre
  have ht : ∀ w ∈ tb, w.before _ s = true := fun w h => hts w (List.mem_cons_of_mem _ h)
  have hown : s.vm.findClass RX11 = some m.cls := findClass_of_methodNamed B.named
  have hlocks := B.notSynchronized
  subst hsz
  have hD := hD0.self (sz := s.heap.size)
  generalize hAe : va_A [(q, .inr (11, fs)), (wr, .inr (10, gw))] s.heap.size = A at hD ⊢
  have hA : ∀ q : Nat, s.heap.size ≤ q → A q := fun q h => by rw [← hAe]; exact Or.inr h
  have hS : va_S A s.heap s.heap [] := va_S.rf
  have hl := lv_entry ([.ref q]) (n := 1) (Nat.le_of_ble_eq_true rfl)
  rw [lg_entry_eq]
  generalize (lg_sl ([.ref q]) ++ List.replicate (1 - (lg_sl ([.ref q])).length) Slot.unset).toArray = ls at hl ⊢
  have hl : lv_has ls 1 [(0, .ref q)] := hl
  have hP : va_P (dC, dI) cls [(q, .inr (11, fs)), (wr, .inr (10, gw))] s.heap := hP
  refine lv_aload_n hx hb dX11_fit_0 rfl (lv_at hl 0 rfl) ?_
  refine va_get (D := (dC, dI)) (ci := 11) (v := .int 0) (C := RX11) (T := TX11) (N := 18) hx hb ht uX11 hown hK hP 0 rfl rfl 2 (by decide) (ht _ k_4_93) (fun _ h9 => h9) K2_fs dX11_fit_1 ?_
  refine lv_if_eq (tgt := 10) hx hb dX11_fit_4 (by decide) (fun _ => ?_) (fun c0 => absurd c0 (by decide))
  refine lv_aload_n hx hb dX11_fit_10 rfl (lv_at hl 0 rfl) ?_
  refine va_get (D := (dC, dI)) (ci := 11) (v := .ref wr) (C := RX11) (T := TX11) (N := 18) hx hb ht uX11 hown hK hP 0 rfl rfl 15 (by decide) (ht _ k_4_106) (fun _ h9 => h9) K15_fs dX11_fit_11 ?_
  refine va_get (D := (dC, dI)) (ci := 10) (v := .int 0) (C := RX10) (T := TX10) (N := 21) hx hb ht uX10 hown hK hP 1 rfl rfl 0 (by decide) (ht _ k_3_176) (fun _ h9 => h9) K0_gw dX11_fit_14 ?_
  refine lv_if_ne (tgt := 23) hx hb dX11_fit_17 (by decide) (fun c0 => absurd c0 (by decide)) (fun _ => ?_)
  refine lv_bipush (v := (-2)) hx hb dX11_fit_20 (by decide) ?_
  exact W.iret (v := (-2)) hx hb hr (fun t ht9 hW => ⟨⟨(-2), (), rfl, rfl, by rw [ht9]; exact hP.sub [] rfl, va_K.moved hW.alike (hK.sub [] rfl), hD.sub [] (by decide) rfl⟩, hS.F ht9⟩) hS.2.2 dX11_fit_22
set_option maxHeartbeats 4000000 in
set_option maxRecDepth 100000 in
theorem x_fitting (l : Launch) (dC : Nat → ClassId) (dI : Nat → Nat → Nat) (sz : Nat) (q : Nat) (fs : List Value) (wr : Nat) (gw : List Value) (p0 : Int32) (L_fs : fs.length = 18) (K2_fs : fs[2]? = some (.int 0)) (K15_fs : fs[15]? = some (.ref wr)) (L_gw : gw.length = 21) (K0_gw : gw[0]? = some (.int 0)) : Met l yX11_fitting (Cond.code yX11_fitting cX11_fitting 2 (some .long) :: tb) ({ frames := 0, cells := 0, slots := 0, locals := 0 }) (pcw [.ref q, .int p0] (dC, dI) [(q, .inr (11, fs)), (wr, .inr (10, gw))] [] sz) (va_Ql (fun (r : Int64) => (fun (_ : Unit) => r = sp_fitting p0)) (bw (dC, dI) (va_A [(q, .inr (11, fs)), (wr, .inr (10, gw))] sz) (fun (_ : Unit) => []) (fun (_ : Unit) => [])) (va_A [(q, .inr (11, fs)), (wr, .inr (10, gw))] sz)) 0 0 (va_A [(q, .inr (11, fs)), (wr, .inr (10, gw))] sz) := by
  refine Met.ofW (cc := cX11_fitting) (maxL := 2) (ret := (some .long)) (by decide) rfl ?_
  intro p e s m args below meth c s₁ B hml hv
  obtain ⟨rfl, hsz, hP, hK, hD0⟩ := hv
  have hx := B.exec
  have hb := B.bytes
  have hr := B.returns
  have hts := atoms_spec (ws := Cond.code yX11_fitting cX11_fitting 2 (some .long) :: tb) B.pre
  have ht : ∀ w ∈ tb, w.before _ s = true := fun w h => hts w (List.mem_cons_of_mem _ h)
  have hown : s.vm.findClass RX11 = some m.cls := findClass_of_methodNamed B.named
  have hlocks := B.notSynchronized
  subst hsz
  have hD := hD0.self (sz := s.heap.size)
  generalize hAe : va_A [(q, .inr (11, fs)), (wr, .inr (10, gw))] s.heap.size = A at hD ⊢
  have hA : ∀ q : Nat, s.heap.size ≤ q → A q := fun q h => by rw [← hAe]; exact Or.inr h
  have hS : va_S A s.heap s.heap [] := va_S.rf
  have hl := lv_entry ([.ref q, .int p0]) (n := 2) (Nat.le_of_ble_eq_true rfl)
  rw [lg_entry_eq]
  generalize (lg_sl ([.ref q, .int p0]) ++ List.replicate (2 - (lg_sl ([.ref q, .int p0])).length) Slot.unset).toArray = ls at hl ⊢
  have hl : lv_has ls 2 [(0, .ref q), (1, .int p0)] := hl
  have hP : va_P (dC, dI) cls [(q, .inr (11, fs)), (wr, .inr (10, gw))] s.heap := hP
  refine lv_aload_n hx hb dX11_fitting_0 rfl (lv_at hl 0 rfl) ?_
  refine va_get (D := (dC, dI)) (ci := 11) (v := .int 0) (C := RX11) (T := TX11) (N := 18) hx hb ht uX11 hown hK hP 0 rfl rfl 2 (by decide) (ht _ k_4_93) (fun _ h9 => h9) K2_fs dX11_fitting_1 ?_
  refine lv_if_eq (tgt := 11) hx hb dX11_fitting_4 (by decide) (fun _ => ?_) (fun c0 => absurd c0 (by decide))
  refine lv_iload_n hx hb dX11_fitting_11 rfl (lv_at hl 1 rfl) ?_
  refine lv_iconst (v := 1) hx hb dX11_fitting_12 (by decide) ?_
  refine lv_icmp_lt (tgt := 21) hx hb dX11_fitting_13 (by decide) (fun b1 => ?_) (fun b1 => ?_)
  · refine lv_ldc2 (v := (-1)) hx hb hown (ht _ k_8_127) dX11_fitting_21 ?_
    exact W.lret (v := (-1)) hx hb hr (fun t ht9 hW => ⟨⟨(-1), (), rfl, (by simp [sp_fitting, b1]), by rw [ht9]; exact hP.sub [] rfl, va_K.moved hW.alike (hK.sub [] rfl), hD.sub [] (by decide) rfl⟩, hS.F ht9⟩) hS.2.2 dX11_fitting_24
  · refine lv_iload_n hx hb dX11_fitting_16 rfl (lv_at hl 1 rfl) ?_
    refine lv_iconst (v := 4) hx hb dX11_fitting_17 (by decide) ?_
    refine lv_icmp_le (tgt := 25) hx hb dX11_fitting_18 (by decide) (fun b2 => ?_) (fun b2 => ?_)
    · refine lv_aload_n hx hb dX11_fitting_25 rfl (lv_at hl 0 rfl) ?_
      refine va_get (D := (dC, dI)) (ci := 11) (v := .ref wr) (C := RX11) (T := TX11) (N := 18) hx hb ht uX11 hown hK hP 0 rfl rfl 15 (by decide) (ht _ k_4_106) (fun _ h9 => h9) K15_fs dX11_fitting_26 ?_
      refine va_get (D := (dC, dI)) (ci := 10) (v := .int 0) (C := RX10) (T := TX10) (N := 21) hx hb ht uX10 hown hK hP 1 rfl rfl 0 (by decide) (ht _ k_3_176) (fun _ h9 => h9) K0_gw dX11_fitting_29 ?_
      refine lv_if_ne (tgt := 39) hx hb dX11_fitting_32 (by decide) (fun c0 => absurd c0 (by decide)) (fun _ => ?_)
      refine lv_ldc2 (v := (-2)) hx hb hown (ht _ k_8_128) dX11_fitting_35 ?_
      exact W.lret (v := (-2)) hx hb hr (fun t ht9 hW => ⟨⟨(-2), (), rfl, (by simp [sp_fitting, b1, b2]), by rw [ht9]; exact hP.sub [] rfl, va_K.moved hW.alike (hK.sub [] rfl), hD.sub [] (by decide) rfl⟩, hS.F ht9⟩) hS.2.2 dX11_fitting_38
    · refine lv_ldc2 (v := (-1)) hx hb hown (ht _ k_8_127) dX11_fitting_21 ?_
      exact W.lret (v := (-1)) hx hb hr (fun t ht9 hW => ⟨⟨(-1), (), rfl, (by simp [sp_fitting, b1, b2]), by rw [ht9]; exact hP.sub [] rfl, va_K.moved hW.alike (hK.sub [] rfl), hD.sub [] (by decide) rfl⟩, hS.F ht9⟩) hS.2.2 dX11_fitting_24
set_option maxHeartbeats 4000000 in
set_option maxRecDepth 100000 in
theorem m10_tellPart (l : Launch) (dC : Nat → ClassId) (dI : Nat → Nat → Nat) (sz : Nat) (wr : Nat) (gw : List Value) (p0 : Int32) (p1 : Int32) (L_gw : gw.length = 21) (K18_gw : gw[18]? = some (.int 0)) : Met l yX10_tellPart (Cond.code yX10_tellPart cX10_tellPart 4 (some .int) :: tb) ({ frames := 0, cells := 0, slots := 0, locals := 0 }) (pcw [.ref wr, .int p0, .int p1] (dC, dI) [(wr, .inr (10, gw))] [] sz) (va_Qi (fun (r : Int32) => (fun (_ : Unit) => r = -1)) (bw (dC, dI) (va_A [(wr, .inr (10, gw))] sz) (fun (_ : Unit) => []) (fun (_ : Unit) => [])) (va_A [(wr, .inr (10, gw))] sz)) 0 0 (va_A [(wr, .inr (10, gw))] sz) := by
  refine Met.ofW (cc := cX10_tellPart) (maxL := 4) (ret := (some .int)) (by decide) rfl ?_
  intro p e s m args below meth c s₁ B hml hv
  obtain ⟨rfl, hsz, hP, hK, hD0⟩ := hv
  have hx := B.exec
  have hb := B.bytes
  have hr := B.returns
  have hts := atoms_spec (ws := Cond.code yX10_tellPart cX10_tellPart 4 (some .int) :: tb) B.pre
  have ht : ∀ w ∈ tb, w.before _ s = true := fun w h => hts w (List.mem_cons_of_mem _ h)
  have hown : s.vm.findClass RX10 = some m.cls := findClass_of_methodNamed B.named
  have hlocks := B.notSynchronized
  subst hsz
  have hD := hD0.self (sz := s.heap.size)
  generalize hAe : va_A [(wr, .inr (10, gw))] s.heap.size = A at hD ⊢
  have hA : ∀ q : Nat, s.heap.size ≤ q → A q := fun q h => by rw [← hAe]; exact Or.inr h
  have hS : va_S A s.heap s.heap [] := va_S.rf
  have hl := lv_entry ([.ref wr, .int p0, .int p1]) (n := 4) (Nat.le_of_ble_eq_true rfl)
  rw [lg_entry_eq]
  generalize (lg_sl ([.ref wr, .int p0, .int p1]) ++ List.replicate (4 - (lg_sl ([.ref wr, .int p0, .int p1])).length) Slot.unset).toArray = ls at hl ⊢
  have hl : lv_has ls 4 [(0, .ref wr), (1, .int p0), (2, .int p1)] := hl
  have hP : va_P (dC, dI) cls [(wr, .inr (10, gw))] s.heap := hP
  refine lv_aload_n hx hb dX10_tellPart_0 rfl (lv_at hl 0 rfl) ?_
  refine va_get (D := (dC, dI)) (ci := 10) (v := .int 0) (C := RX10) (T := TX10) (N := 21) hx hb ht uX10 hown hK hP 0 rfl rfl 18 (by decide) (ht _ k_3_194) (fun _ h9 => h9) K18_gw dX10_tellPart_1 ?_
  refine lv_if_ne (tgt := 9) hx hb dX10_tellPart_4 (by decide) (fun c0 => absurd c0 (by decide)) (fun _ => ?_)
  refine lv_iconst (v := (-1)) hx hb dX10_tellPart_7 (by decide) ?_
  exact W.iret (v := (-1)) hx hb hr (fun t ht9 hW => ⟨⟨(-1), (), rfl, rfl, by rw [ht9]; exact hP.sub [] rfl, va_K.moved hW.alike (hK.sub [] rfl), hD.sub [] (by decide) rfl⟩, hS.F ht9⟩) hS.2.2 dX10_tellPart_8
set_option maxHeartbeats 4000000 in
set_option maxRecDepth 100000 in
theorem x_part (l : Launch) (dC : Nat → ClassId) (dI : Nat → Nat → Nat) (sz : Nat) (q : Nat) (fs : List Value) (wr : Nat) (gw : List Value) (p0 : Int32) (p1 : Int32) (L_fs : fs.length = 18) (K15_fs : fs[15]? = some (.ref wr)) (L_gw : gw.length = 21) (K18_gw : gw[18]? = some (.int 0)) : Met l yX11_part (Cond.code yX11_part cX11_part 3 (some .int) :: tb) ({ frames := 1, cells := 0, slots := 0, locals := 23 }) (pcw [.ref q, .int p0, .int p1] (dC, dI) [(q, .inr (11, fs)), (wr, .inr (10, gw))] [] sz) (va_Qi (fun (r : Int32) => (fun (_ : Unit) => r = -1)) (bw (dC, dI) (va_A [(q, .inr (11, fs)), (wr, .inr (10, gw))] sz) (fun (_ : Unit) => []) (fun (_ : Unit) => [])) (va_A [(q, .inr (11, fs)), (wr, .inr (10, gw))] sz)) 0 0 (va_A [(q, .inr (11, fs)), (wr, .inr (10, gw))] sz) := by
  refine Met.ofW (cc := cX11_part) (maxL := 3) (ret := (some .int)) (by decide) rfl ?_
  intro p e s m args below meth c s₁ B hml hv
  obtain ⟨rfl, hsz, hP, hK, hD0⟩ := hv
  have hx := B.exec
  have hb := B.bytes
  have hr := B.returns
  have hts := atoms_spec (ws := Cond.code yX11_part cX11_part 3 (some .int) :: tb) B.pre
  have ht : ∀ w ∈ tb, w.before _ s = true := fun w h => hts w (List.mem_cons_of_mem _ h)
  have hown : s.vm.findClass RX11 = some m.cls := findClass_of_methodNamed B.named
  have hlocks := B.notSynchronized
  subst hsz
  have hD := hD0.self (sz := s.heap.size)
  generalize hAe : va_A [(q, .inr (11, fs)), (wr, .inr (10, gw))] s.heap.size = A at hD ⊢
  have hA : ∀ q : Nat, s.heap.size ≤ q → A q := fun q h => by rw [← hAe]; exact Or.inr h
  have hS : va_S A s.heap s.heap [] := va_S.rf
  have hl := lv_entry ([.ref q, .int p0, .int p1]) (n := 3) (Nat.le_of_ble_eq_true rfl)
  rw [lg_entry_eq]
  generalize (lg_sl ([.ref q, .int p0, .int p1]) ++ List.replicate (3 - (lg_sl ([.ref q, .int p0, .int p1])).length) Slot.unset).toArray = ls at hl ⊢
  have hl : lv_has ls 3 [(0, .ref q), (1, .int p0), (2, .int p1)] := hl
  have hP : va_P (dC, dI) cls [(q, .inr (11, fs)), (wr, .inr (10, gw))] s.heap := hP
  refine lv_aload_n hx hb dX11_part_0 rfl (lv_at hl 0 rfl) ?_
  refine va_get (D := (dC, dI)) (ci := 11) (v := .ref wr) (C := RX11) (T := TX11) (N := 18) hx hb ht uX11 hown hK hP 0 rfl rfl 15 (by decide) (ht _ k_4_106) (fun _ h9 => h9) K15_fs dX11_part_1 ?_
  refine lv_iload_n hx hb dX11_part_4 rfl (lv_at hl 1 rfl) ?_
  refine lv_iload_n hx hb dX11_part_5 rfl (lv_at hl 2 rfl) ?_
  refine ca_i (wr := [(q, .inr (11, fs))]) (va_runV (As := [.int p0, .int p1]) (rest := []) ⟨hx, hb, hml, hown, ht⟩ (m10_tellPart l dC dI s.heap.size wr gw p0 p1 L_gw K18_gw ) (cwV 2 ht (gdV k_8_141 k_8_138 k_8_139 k_8_140 k_1_14) rfl rfl rfl (by decide +kernel) ⟨Nat.le_of_ble_eq_true rfl, Nat.le_of_ble_eq_true rfl⟩) ⟨pcw_blind, va_recv hK hP (ci := 10) (q0 := 1) rfl rfl, pcw_at hP hD hK [1] [] (by decide) rfl rfl rfl⟩ rfl rfl hl.1 rfl (lv_room (Nat.le_of_ble_eq_true rfl)) dX11_part_6 ⟨Nat.le_of_ble_eq_true rfl, Nat.le_of_ble_eq_true rfl⟩) hP hD hK hS hA [1] [0] rfl rfl (by decide) (by decide) (fun r1 u H locs w2 hK hP hD hS => ?_)
  have hK : va_K (dC, dI) cls [] s := hK
  have hP : va_P (dC, dI) cls [(q, .inr (11, fs))] H := hP
  have hD : va_D A [(q, .inr (11, fs))] := hD
  obtain rfl : r1 = (-1) := w2
  exact W.iret (v := (-1)) hx hb hr (fun t ht9 hW => ⟨⟨(-1), (), rfl, rfl, by rw [ht9]; exact hP.sub [] rfl, va_K.moved hW.alike (hK.sub [] rfl), hD.sub [] (by decide) rfl⟩, hS.F ht9⟩) hS.2.2 dX11_part_9
set_option maxHeartbeats 4000000 in
set_option maxRecDepth 100000 in
theorem x_apply (l : Launch) (dC : Nat → ClassId) (dI : Nat → Nat → Nat) (sz : Nat) (q : Nat) (fs : List Value) (tp : Nat) (rd : Nat) (as : Nat) (sp : Nat) (lp : Nat) (wr : Nat) (ma : Nat) (dk : Nat) (cT : ClassId) (ft : Nat → Int32) (gw : List Value) (L_fs : fs.length = 18) (K0_fs : fs[0]? = some (.ref tp)) (K1_fs : fs[1]? = some (.int 0)) (K2_fs : fs[2]? = some (.int 0)) (K8_fs : fs[8]? = some (.ref rd)) (K9_fs : fs[9]? = some (.ref as)) (K10_fs : fs[10]? = some (.ref sp)) (K11_fs : fs[11]? = some (.int 0)) (K14_fs : fs[14]? = some (.ref lp)) (K15_fs : fs[15]? = some (.ref wr)) (K16_fs : fs[16]? = some (.ref ma)) (K17_fs : fs[17]? = some (.ref dk)) (L_gw : gw.length = 21) (K18_gw : gw[18]? = some (.int 0)) : Met l yX11_apply (Cond.code yX11_apply cX11_apply 3 (some .int) :: tb) ({ frames := 1, cells := 0, slots := 0, locals := 24 }) (pcw [.ref q] (dC, dI) [(q, .inr (11, fs)), (tp, .inl (cT, 2000, .inl ft)), (wr, .inr (10, gw))] [(cT, .byte)] sz) (va_Qi (fun (r : Int32) => (fun (_ : Unit) => r = -2)) (bw (dC, dI) (va_A [(q, .inr (11, fs)), (tp, .inl (cT, 2000, .inl ft)), (wr, .inr (10, gw))] sz) (fun (_ : Unit) => []) (fun (_ : Unit) => [])) (va_A [(q, .inr (11, fs)), (tp, .inl (cT, 2000, .inl ft)), (wr, .inr (10, gw))] sz)) 0 0 (va_A [(q, .inr (11, fs)), (tp, .inl (cT, 2000, .inl ft)), (wr, .inr (10, gw))] sz) := by
  refine Met.ofW (cc := cX11_apply) (maxL := 3) (ret := (some .int)) (by decide) rfl ?_
  intro p e s m args below meth c s₁ B hml hv
  obtain ⟨rfl, hsz, hP, hK, hD0⟩ := hv
  have hx := B.exec
  have hb := B.bytes
  have hr := B.returns
  have hts := atoms_spec (ws := Cond.code yX11_apply cX11_apply 3 (some .int) :: tb) B.pre
  have ht : ∀ w ∈ tb, w.before _ s = true := fun w h => hts w (List.mem_cons_of_mem _ h)
  have hown : s.vm.findClass RX11 = some m.cls := findClass_of_methodNamed B.named
  have hlocks := B.notSynchronized
  subst hsz
  have hD := hD0.self (sz := s.heap.size)
  generalize hAe : va_A [(q, .inr (11, fs)), (tp, .inl (cT, 2000, .inl ft)), (wr, .inr (10, gw))] s.heap.size = A at hD ⊢
  have hA : ∀ q : Nat, s.heap.size ≤ q → A q := fun q h => by rw [← hAe]; exact Or.inr h
  have hS : va_S A s.heap s.heap [] := va_S.rf
  have hl := lv_entry ([.ref q]) (n := 3) (Nat.le_of_ble_eq_true rfl)
  rw [lg_entry_eq]
  generalize (lg_sl ([.ref q]) ++ List.replicate (3 - (lg_sl ([.ref q])).length) Slot.unset).toArray = ls at hl ⊢
  have hl : lv_has ls 3 [(0, .ref q)] := hl
  have hP : va_P (dC, dI) cls [(q, .inr (11, fs)), (tp, .inl (cT, 2000, .inl ft)), (wr, .inr (10, gw))] s.heap := hP
  refine lv_aload_n hx hb dX11_apply_0 rfl (lv_at hl 0 rfl) ?_
  refine va_get (D := (dC, dI)) (ci := 11) (v := .int 0) (C := RX11) (T := TX11) (N := 18) hx hb ht uX11 hown hK hP 0 rfl rfl 2 (by decide) (ht _ k_4_93) (fun _ h9 => h9) K2_fs dX11_apply_1 ?_
  refine lv_if_eq (tgt := 10) hx hb dX11_apply_4 (by decide) (fun _ => ?_) (fun c0 => absurd c0 (by decide))
  refine lv_aload_n hx hb dX11_apply_10 rfl (lv_at hl 0 rfl) ?_
  refine ca_i (wr := [(tp, .inl (cT, 2000, .inl ft)), (wr, .inr (10, gw))]) (va_runV (As := []) (rest := []) ⟨hx, hb, hml, hown, ht⟩ (x_takeTape l dC dI s.heap.size q fs tp rd as sp lp wr ma dk L_fs K0_fs K1_fs K2_fs K8_fs K9_fs K10_fs K11_fs K14_fs K15_fs K16_fs K17_fs ) (cwV 0 ht (gdV k_4_165 k_4_162 k_4_164 ks_1 k_1_1) rfl rfl rfl (by decide +kernel) ⟨Nat.le_of_ble_eq_true rfl, Nat.le_of_ble_eq_true rfl⟩) ⟨pcw_blind, va_recv hK hP (ci := 11) (q0 := 0) rfl rfl, pcw_at hP hD hK [0] [] (by decide) rfl rfl rfl⟩ rfl rfl hl.1 rfl (lv_room (Nat.le_of_ble_eq_true rfl)) dX11_apply_11 ⟨Nat.le_of_ble_eq_true rfl, Nat.le_of_ble_eq_true rfl⟩) hP hD hK hS hA [0] [1, 2] rfl rfl (by decide) (by decide) (fun r1 u H locs w2 hK hP hD hS => ?_)
  obtain ⟨F3, rfl⟩ : ∃ z, z = u := ⟨_, rfl⟩
  have hK : va_K (dC, dI) cls [(cT, .byte)] s := hK
  have hP : va_P (dC, dI) cls [(tp, .inl (cT, 2000, .inl ft)), (wr, .inr (10, gw)), (q, .inr (11, F3))] H := hP
  have hD : va_D A [(tp, .inl (cT, 2000, .inl ft)), (wr, .inr (10, gw)), (q, .inr (11, F3))] := hD
  obtain ⟨w2, K4, K5, K6, K7, K8, K9, K10, K11, K12, K13, K14, K15⟩ := w2
  obtain rfl : r1 = 0 := w2
  refine lv_istore_n (lv' := [(1, .int 0), (0, .ref q)]) hx hb dX11_apply_14 rfl hl (by decide) rfl (fun ls hl => ?_)
  refine lv_iload_n hx hb dX11_apply_15 rfl (lv_at hl 0 rfl) ?_
  refine lv_bipush (v := 10) hx hb dX11_apply_16 (by decide) ?_
  refine lv_icmp_gt (tgt := 35) hx hb dX11_apply_18 (by decide) (fun c0 => absurd c0 (by decide)) (fun _ => ?_)
  refine lv_aload_n hx hb dX11_apply_21 rfl (lv_at hl 1 rfl) ?_
  refine va_get (D := (dC, dI)) (ci := 11) (v := .ref tp) (C := RX11) (T := TX11) (N := 18) hx hb ht uX11 hown hK hP 2 rfl rfl 0 (by decide) (ht _ k_4_91) (fun _ h9 => h9) K5 dX11_apply_22 ?_
  refine lv_iconst (v := 0) hx hb dX11_apply_25 (by decide) ?_
  refine lv_iload_n hx hb dX11_apply_26 rfl (lv_at hl 0 rfl) ?_
  refine lv_bipush (v := 122) hx hb dX11_apply_27 (by decide) ?_
  refine ca_i (wr := [(wr, .inr (10, gw)), (q, .inr (11, F3))]) (va_runS (As := [.ref tp, .int 0, .int 0, .int 122]) (rest := []) ⟨hx, hb, hml, hown, ht⟩ (x_lettersIn_122 l dC dI H.size tp cT ft  ) (cwS 4 ht (gdS k_8_31 k_8_29 k_8_30 k_1_1) rfl rfl rfl (by decide +kernel) ⟨Nat.le_of_ble_eq_true rfl, Nat.le_of_ble_eq_true rfl⟩) ⟨pcw_blind, pcw_at hP hD hK [0] [0] (by decide) rfl rfl rfl⟩ rfl rfl hl.1 rfl (lv_room (Nat.le_of_ble_eq_true rfl)) dX11_apply_29 ⟨Nat.le_of_ble_eq_true rfl, Nat.le_of_ble_eq_true rfl⟩) hP hD hK hS hA [0] [1, 2] rfl rfl (by decide) (by decide) (fun r16 u H locs w17 hK hP hD hS => ?_)
  have hK : va_K (dC, dI) cls [(cT, .byte), (cT, .byte)] s := hK
  have hP : va_P (dC, dI) cls [(wr, .inr (10, gw)), (q, .inr (11, F3)), (tp, .inl (cT, 2000, .inl ft))] H := hP
  have hD : va_D A [(wr, .inr (10, gw)), (q, .inr (11, F3)), (tp, .inl (cT, 2000, .inl ft))] := hD
  obtain rfl : r16 = 1 := w17
  refine lv_if_ne (tgt := 37) hx hb dX11_apply_32 (by decide) (fun _ => ?_) (fun c0 => absurd c0 (by decide))
  refine lv_aload_n hx hb dX11_apply_37 rfl (lv_at hl 1 rfl) ?_
  refine va_get (D := (dC, dI)) (ci := 11) (v := .ref wr) (C := RX11) (T := TX11) (N := 18) hx hb ht uX11 hown hK hP 1 rfl rfl 15 (by decide) (ht _ k_4_106) (fun _ h9 => h9) K13 dX11_apply_38 ?_
  refine va_get (D := (dC, dI)) (ci := 10) (v := .int 0) (C := RX10) (T := TX10) (N := 21) hx hb ht uX10 hown hK hP 0 rfl rfl 18 (by decide) (ht _ k_3_195) (fun _ h9 => h9) K18_gw dX11_apply_41 ?_
  refine lv_if_ne (tgt := 50) hx hb dX11_apply_44 (by decide) (fun c0 => absurd c0 (by decide)) (fun _ => ?_)
  refine lv_bipush (v := (-2)) hx hb dX11_apply_47 (by decide) ?_
  exact W.iret (v := (-2)) hx hb hr (fun t ht9 hW => ⟨⟨(-2), (), rfl, rfl, by rw [ht9]; exact hP.sub [] rfl, va_K.moved hW.alike (hK.sub [] rfl), hD.sub [] (by decide) rfl⟩, hS.F ht9⟩) hS.2.2 dX11_apply_49
set_option maxHeartbeats 4000000 in
set_option maxRecDepth 100000 in
theorem x_forget (l : Launch) (dC : Nat → ClassId) (dI : Nat → Nat → Nat) (sz : Nat) (q : Nat) (fs : List Value) (a : Nat) (ga : List Value) (L_fs : fs.length = 18) (K2_fs : fs[2]? = some (.int 0)) (K16_fs : fs[16]? = some (.ref a)) (L_ga : ga.length = 15) (K0_ga : ga[0]? = some (.int 0)) : Met l yX11_forget (Cond.code yX11_forget cX11_forget 2 (some .int) :: tb) ({ frames := 0, cells := 0, slots := 0, locals := 0 }) (pcw [.ref q] (dC, dI) [(q, .inr (11, fs)), (a, .inr (5, ga))] [] sz) (va_Qi (fun (r : Int32) => (fun (_ : Unit) => r = 0)) (bw (dC, dI) (va_A [(q, .inr (11, fs)), (a, .inr (5, ga))] sz) (fun (_ : Unit) => []) (fun (_ : Unit) => [])) (va_A [(q, .inr (11, fs)), (a, .inr (5, ga))] sz)) 0 0 (va_A [(q, .inr (11, fs)), (a, .inr (5, ga))] sz) := by
  refine Met.ofW (cc := cX11_forget) (maxL := 2) (ret := (some .int)) (by decide) rfl ?_
  intro p e s m args below meth c s₁ B hml hv
  obtain ⟨rfl, hsz, hP, hK, hD0⟩ := hv
  have hx := B.exec
  have hb := B.bytes
  have hr := B.returns
  have hts := atoms_spec (ws := Cond.code yX11_forget cX11_forget 2 (some .int) :: tb) B.pre
  have ht : ∀ w ∈ tb, w.before _ s = true := fun w h => hts w (List.mem_cons_of_mem _ h)
  have hown : s.vm.findClass RX11 = some m.cls := findClass_of_methodNamed B.named
  have hlocks := B.notSynchronized
  subst hsz
  have hD := hD0.self (sz := s.heap.size)
  generalize hAe : va_A [(q, .inr (11, fs)), (a, .inr (5, ga))] s.heap.size = A at hD ⊢
  have hA : ∀ q : Nat, s.heap.size ≤ q → A q := fun q h => by rw [← hAe]; exact Or.inr h
  have hS : va_S A s.heap s.heap [] := va_S.rf
  have hl := lv_entry ([.ref q]) (n := 2) (Nat.le_of_ble_eq_true rfl)
  rw [lg_entry_eq]
  generalize (lg_sl ([.ref q]) ++ List.replicate (2 - (lg_sl ([.ref q])).length) Slot.unset).toArray = ls at hl ⊢
  have hl : lv_has ls 2 [(0, .ref q)] := hl
  have hP : va_P (dC, dI) cls [(q, .inr (11, fs)), (a, .inr (5, ga))] s.heap := hP
  refine lv_aload_n hx hb dX11_forget_0 rfl (lv_at hl 0 rfl) ?_
  refine va_get (D := (dC, dI)) (ci := 11) (v := .int 0) (C := RX11) (T := TX11) (N := 18) hx hb ht uX11 hown hK hP 0 rfl rfl 2 (by decide) (ht _ k_4_93) (fun _ h9 => h9) K2_fs dX11_forget_1 ?_
  refine lv_if_eq (tgt := 10) hx hb dX11_forget_4 (by decide) (fun _ => ?_) (fun c0 => absurd c0 (by decide))
  refine lv_aload_n hx hb dX11_forget_10 rfl (lv_at hl 0 rfl) ?_
  refine va_get (D := (dC, dI)) (ci := 11) (v := .ref a) (C := RX11) (T := TX11) (N := 18) hx hb ht uX11 hown hK hP 0 rfl rfl 16 (by decide) (ht _ k_4_107) (fun _ h9 => h9) K16_fs dX11_forget_11 ?_
  refine va_get (D := (dC, dI)) (ci := 5) (v := .int 0) (C := RX5) (T := TX5) (N := 15) hx hb ht uX5 hown hK hP 1 rfl rfl 0 (by decide) (ht _ k_4_8) (fun _ h9 => h9) K0_ga dX11_forget_14 ?_
  refine lv_istore_n (lv' := [(1, .int 0), (0, .ref q)]) hx hb dX11_forget_17 rfl hl (by decide) rfl (fun ls hl => ?_)
  refine lv_iload_n hx hb dX11_forget_18 rfl (lv_at hl 0 rfl) ?_
  refine lv_if_le (tgt := 53) hx hb dX11_forget_19 (by decide) (fun _ => ?_) (fun c0 => absurd c0 (by decide))
  refine lv_iload_n hx hb dX11_forget_53 rfl (lv_at hl 0 rfl) ?_
  exact W.iret (v := 0) hx hb hr (fun t ht9 hW => ⟨⟨0, (), rfl, rfl, by rw [ht9]; exact hP.sub [] rfl, va_K.moved hW.alike (hK.sub [] rfl), hD.sub [] (by decide) rfl⟩, hS.F ht9⟩) hS.2.2 dX11_forget_54
set_option maxHeartbeats 4000000 in
set_option maxRecDepth 100000 in
theorem x_start (l : Launch) (dC : Nat → ClassId) (dI : Nat → Nat → Nat) (sz : Nat) (q : Nat) (fs : List Value) (L_fs : fs.length = 18) (K2_fs : fs[2]? = some (.int 0)) : Met l yX11_start (Cond.code yX11_start cX11_start 7 (some .int) :: tb) ({ frames := 0, cells := 0, slots := 0, locals := 0 }) (pcw [.ref q] (dC, dI) [(q, .inr (11, fs))] [] sz) (va_Qi (fun (r : Int32) => (fun (_ : Unit) => r = -2)) (bw (dC, dI) (va_A [(q, .inr (11, fs))] sz) (fun (_ : Unit) => []) (fun (_ : Unit) => [])) (va_A [(q, .inr (11, fs))] sz)) 0 0 (va_A [(q, .inr (11, fs))] sz) := by
  refine Met.ofW (cc := cX11_start) (maxL := 7) (ret := (some .int)) (by decide) rfl ?_
  intro p e s m args below meth c s₁ B hml hv
  obtain ⟨rfl, hsz, hP, hK, hD0⟩ := hv
  have hx := B.exec
  have hb := B.bytes
  have hr := B.returns
  have hts := atoms_spec (ws := Cond.code yX11_start cX11_start 7 (some .int) :: tb) B.pre
  have ht : ∀ w ∈ tb, w.before _ s = true := fun w h => hts w (List.mem_cons_of_mem _ h)
  have hown : s.vm.findClass RX11 = some m.cls := findClass_of_methodNamed B.named
  have hlocks := B.notSynchronized
  subst hsz
  have hD := hD0.self (sz := s.heap.size)
  generalize hAe : va_A [(q, .inr (11, fs))] s.heap.size = A at hD ⊢
  have hA : ∀ q : Nat, s.heap.size ≤ q → A q := fun q h => by rw [← hAe]; exact Or.inr h
  have hS : va_S A s.heap s.heap [] := va_S.rf
  have hl := lv_entry ([.ref q]) (n := 7) (Nat.le_of_ble_eq_true rfl)
  rw [lg_entry_eq]
  generalize (lg_sl ([.ref q]) ++ List.replicate (7 - (lg_sl ([.ref q])).length) Slot.unset).toArray = ls at hl ⊢
  have hl : lv_has ls 7 [(0, .ref q)] := hl
  have hP : va_P (dC, dI) cls [(q, .inr (11, fs))] s.heap := hP
  refine lv_aload_n hx hb dX11_start_0 rfl (lv_at hl 0 rfl) ?_
  refine va_get (D := (dC, dI)) (ci := 11) (v := .int 0) (C := RX11) (T := TX11) (N := 18) hx hb ht uX11 hown hK hP 0 rfl rfl 2 (by decide) (ht _ k_4_93) (fun _ h9 => h9) K2_fs dX11_start_1 ?_
  refine lv_if_ne (tgt := 10) hx hb dX11_start_4 (by decide) (fun c0 => absurd c0 (by decide)) (fun _ => ?_)
  refine lv_bipush (v := (-2)) hx hb dX11_start_7 (by decide) ?_
  exact W.iret (v := (-2)) hx hb hr (fun t ht9 hW => ⟨⟨(-2), (), rfl, rfl, by rw [ht9]; exact hP.sub [] rfl, va_K.moved hW.alike (hK.sub [] rfl), hD.sub [] (by decide) rfl⟩, hS.F ht9⟩) hS.2.2 dX11_start_9
set_option maxHeartbeats 4000000 in
set_option maxRecDepth 100000 in
theorem m2_forgetWaiting (l : Launch) (dC : Nat → ClassId) (dI : Nat → Nat → Nat) (sz : Nat) (d : Nat) (gd : List Value) (L_gd : gd.length = 7) : Met l yX2_forgetWaiting (Cond.code yX2_forgetWaiting cX2_forgetWaiting 1 none :: tb) ({ frames := 0, cells := 0, slots := 0, locals := 0 }) (pcw [.ref d] (dC, dI) [(d, .inr (2, gd))] [] sz) (va_Qv (fun (_ : Unit) => True) (bw (dC, dI) (va_A [(d, .inr (2, gd))] sz) (fun (_ : Unit) => []) (fun (_ : Unit) => [])) (va_A [(d, .inr (2, gd))] sz)) 0 0 (va_A [(d, .inr (2, gd))] sz) := by
  refine Met.ofW (cc := cX2_forgetWaiting) (maxL := 1) (ret := none) (by decide) rfl ?_
  intro p e s m args below meth c s₁ B hml hv
  obtain ⟨rfl, hsz, hP, hK, hD0⟩ := hv
  have hx := B.exec
  have hb := B.bytes
  have hr := B.returns
  have hts := atoms_spec (ws := Cond.code yX2_forgetWaiting cX2_forgetWaiting 1 none :: tb) B.pre
  have ht : ∀ w ∈ tb, w.before _ s = true := fun w h => hts w (List.mem_cons_of_mem _ h)
  have hown : s.vm.findClass RX2 = some m.cls := findClass_of_methodNamed B.named
  have hlocks := B.notSynchronized
  subst hsz
  have hD := hD0.self (sz := s.heap.size)
  generalize hAe : va_A [(d, .inr (2, gd))] s.heap.size = A at hD ⊢
  have hA : ∀ q : Nat, s.heap.size ≤ q → A q := fun q h => by rw [← hAe]; exact Or.inr h
  have hS : va_S A s.heap s.heap [] := va_S.rf
  have hl := lv_entry ([.ref d]) (n := 1) (Nat.le_of_ble_eq_true rfl)
  rw [lg_entry_eq]
  generalize (lg_sl ([.ref d]) ++ List.replicate (1 - (lg_sl ([.ref d])).length) Slot.unset).toArray = ls at hl ⊢
  have hl : lv_has ls 1 [(0, .ref d)] := hl
  have hP : va_P (dC, dI) cls [(d, .inr (2, gd))] s.heap := hP
  refine lv_aload_n hx hb dX2_forgetWaiting_0 rfl (lv_at hl 0 rfl) ?_
  refine lv_iconst (v := 0) hx hb dX2_forgetWaiting_1 (by decide) ?_
  refine va_put (D := (dC, dI)) (ci := 2) (v := .int 0) (ty := .int) (C := RX2) (T := TX2) (N := 7) hx hb ht uX2 tyX2 tkX2 nmX2 hown hK hP hD hS 0 rfl rfl 3 (by decide) (ht _ k_4_68) (fun _ h9 => h9) rfl (by decide +kernel) rfl rfl (by rw [L_gd]; decide) dX2_forgetWaiting_2 (fun H locs hP hD hS => ?_)
  obtain ⟨F1, eF1⟩ : ∃ g : List Value, g = gd.set 3 (.int 0) := ⟨_, rfl⟩
  rw [← eF1] at hP hD
  have K3_F1 : F1[3]? = some (.int 0) := by rw [eF1]; exact List.getElem?_set_self (by rw [L_gd]; decide)
  have L_F1 : F1.length = 7 := by rw [eF1, List.length_set]; exact L_gd
  have hP : va_P (dC, dI) cls [(d, .inr (2, F1))] H := hP
  have hD : va_D A [(d, .inr (2, F1))] := hD
  refine lv_aload_n hx hb dX2_forgetWaiting_5 rfl (lv_at hl 0 rfl) ?_
  refine lv_iconst (v := 0) hx hb dX2_forgetWaiting_6 (by decide) ?_
  refine va_put (D := (dC, dI)) (ci := 2) (v := .int 0) (ty := .int) (C := RX2) (T := TX2) (N := 7) hx hb ht uX2 tyX2 tkX2 nmX2 hown hK hP hD hS 0 rfl rfl 4 (by decide) (ht _ k_4_70) (fun _ h9 => h9) rfl (by decide +kernel) rfl rfl (by rw [L_F1]; decide) dX2_forgetWaiting_7 (fun H locs hP hD hS => ?_)
  obtain ⟨F2, eF2⟩ : ∃ g : List Value, g = F1.set 4 (.int 0) := ⟨_, rfl⟩
  rw [← eF2] at hP hD
  have K3_F2 : F2[3]? = some (.int 0) := by rw [eF2, List.getElem?_set_ne (by decide)]; exact K3_F1
  have K4_F2 : F2[4]? = some (.int 0) := by rw [eF2]; exact List.getElem?_set_self (by rw [L_F1]; decide)
  have L_F2 : F2.length = 7 := by rw [eF2, List.length_set]; exact L_F1
  have hP : va_P (dC, dI) cls [(d, .inr (2, F2))] H := hP
  have hD : va_D A [(d, .inr (2, F2))] := hD
  exact W.vret hx hb hr (fun t ht9 hW => ⟨⟨(), rfl, trivial, by rw [ht9]; exact hP.sub [] rfl, va_K.moved hW.alike (hK.sub [] rfl), hD.sub [] (by decide) rfl⟩, hS.F ht9⟩) hS.2.2 dX2_forgetWaiting_10
set_option maxHeartbeats 4000000 in
set_option maxRecDepth 100000 in
theorem m2_writeWaiting (l : Launch) (dC : Nat → ClassId) (dI : Nat → Nat → Nat) (sz : Nat) (d : Nat) (gd : List Value) (L_gd : gd.length = 7) (K1_gd : gd[1]? = some (.int 0)) (K3_gd : gd[3]? = some (.int 0)) (K4_gd : gd[4]? = some (.int 0)) (K5_gd : gd[5]? = some (.int (-1))) : Met l yX2_writeWaiting (Cond.code yX2_writeWaiting cX2_writeWaiting 4 (some .int) :: tb) ({ frames := 1, cells := 0, slots := 0, locals := 20 }) (pcw [.ref d] (dC, dI) [(d, .inr (2, gd))] [] sz) (va_Qi (fun (r : Int32) => (fun (_ : Unit) => r = 0)) (bw (dC, dI) (va_A [(d, .inr (2, gd))] sz) (fun (_ : Unit) => []) (fun (_ : Unit) => [])) (va_A [(d, .inr (2, gd))] sz)) 0 0 (va_A [(d, .inr (2, gd))] sz) := by
  refine Met.ofW (cc := cX2_writeWaiting) (maxL := 4) (ret := (some .int)) (by decide) rfl ?_
  intro p e s m args below meth c s₁ B hml hv
  obtain ⟨rfl, hsz, hP, hK, hD0⟩ := hv
  have hx := B.exec
  have hb := B.bytes
  have hr := B.returns
  have hts := atoms_spec (ws := Cond.code yX2_writeWaiting cX2_writeWaiting 4 (some .int) :: tb) B.pre
  have ht : ∀ w ∈ tb, w.before _ s = true := fun w h => hts w (List.mem_cons_of_mem _ h)
  have hown : s.vm.findClass RX2 = some m.cls := findClass_of_methodNamed B.named
  have hlocks := B.notSynchronized
  subst hsz
  have hD := hD0.self (sz := s.heap.size)
  generalize hAe : va_A [(d, .inr (2, gd))] s.heap.size = A at hD ⊢
  have hA : ∀ q : Nat, s.heap.size ≤ q → A q := fun q h => by rw [← hAe]; exact Or.inr h
  have hS : va_S A s.heap s.heap [] := va_S.rf
  have hl := lv_entry ([.ref d]) (n := 4) (Nat.le_of_ble_eq_true rfl)
  rw [lg_entry_eq]
  generalize (lg_sl ([.ref d]) ++ List.replicate (4 - (lg_sl ([.ref d])).length) Slot.unset).toArray = ls at hl ⊢
  have hl : lv_has ls 4 [(0, .ref d)] := hl
  have hP : va_P (dC, dI) cls [(d, .inr (2, gd))] s.heap := hP
  refine lv_aload_n hx hb dX2_writeWaiting_0 rfl (lv_at hl 0 rfl) ?_
  refine va_get (D := (dC, dI)) (ci := 2) (v := .int 0) (C := RX2) (T := TX2) (N := 7) hx hb ht uX2 hown hK hP 0 rfl rfl 4 (by decide) (ht _ k_4_70) (fun _ h9 => h9) K4_gd dX2_writeWaiting_1 ?_
  refine lv_bipush (v := 121) hx hb dX2_writeWaiting_4 (by decide) ?_
  refine lv_iadd hx hb dX2_writeWaiting_6 ?_
  refine tk_i (y := 121) (by decide) ?_
  refine lv_iconst (v := 1) hx hb dX2_writeWaiting_7 (by decide) ?_
  refine lv_isub hx hb dX2_writeWaiting_8 ?_
  refine tk_i (y := 120) (by decide) ?_
  refine lv_bipush (v := 121) hx hb dX2_writeWaiting_9 (by decide) ?_
  refine lv_idiv hx hb dX2_writeWaiting_11 (by decide) ?_
  refine tk_i (y := 0) (by decide) ?_
  refine lv_istore_n (lv' := [(1, .int 0), (0, .ref d)]) hx hb dX2_writeWaiting_12 rfl hl (by decide) rfl (fun ls hl => ?_)
  refine lv_iconst (v := 0) hx hb dX2_writeWaiting_13 (by decide) ?_
  refine lv_istore_n (lv' := [(2, .int 0), (1, .int 0), (0, .ref d)]) hx hb dX2_writeWaiting_14 rfl hl (by decide) rfl (fun ls hl => ?_)
  refine lv_iload_n hx hb dX2_writeWaiting_15 rfl (lv_at hl 0 rfl) ?_
  refine lv_iload_n hx hb dX2_writeWaiting_16 rfl (lv_at hl 1 rfl) ?_
  refine lv_icmp_ge (tgt := 140) hx hb dX2_writeWaiting_17 (by decide) (fun _ => ?_) (fun c0 => absurd c0 (by decide))
  refine lv_aload_n hx hb dX2_writeWaiting_140 rfl (lv_at hl 2 rfl) ?_
  refine lv_dup hx hb dX2_writeWaiting_141 rfl ?_
  refine va_get (D := (dC, dI)) (ci := 2) (v := .int 0) (C := RX2) (T := TX2) (N := 7) hx hb ht uX2 hown hK hP 0 rfl rfl 1 (by decide) (ht _ k_4_64) (fun _ h9 => h9) K1_gd dX2_writeWaiting_142 ?_
  refine lv_iload_n hx hb dX2_writeWaiting_145 rfl (lv_at hl 1 rfl) ?_
  refine lv_iadd hx hb dX2_writeWaiting_146 ?_
  refine tk_i (y := 0) (by decide) ?_
  refine va_put (D := (dC, dI)) (ci := 2) (v := .int 0) (ty := .int) (C := RX2) (T := TX2) (N := 7) hx hb ht uX2 tyX2 tkX2 nmX2 hown hK hP hD hS 0 rfl rfl 1 (by decide) (ht _ k_4_64) (fun _ h9 => h9) rfl (by decide +kernel) rfl rfl (by rw [L_gd]; decide) dX2_writeWaiting_147 (fun H locs hP hD hS => ?_)
  obtain ⟨F1, eF1⟩ : ∃ g : List Value, g = gd.set 1 (.int 0) := ⟨_, rfl⟩
  rw [← eF1] at hP hD
  have K3_F1 : F1[3]? = some (.int 0) := by rw [eF1, List.getElem?_set_ne (by decide)]; exact K3_gd
  have K4_F1 : F1[4]? = some (.int 0) := by rw [eF1, List.getElem?_set_ne (by decide)]; exact K4_gd
  have K5_F1 : F1[5]? = some (.int (-1)) := by rw [eF1, List.getElem?_set_ne (by decide)]; exact K5_gd
  have K1_F1 : F1[1]? = some (.int 0) := by rw [eF1]; exact List.getElem?_set_self (by rw [L_gd]; decide)
  have L_F1 : F1.length = 7 := by rw [eF1, List.length_set]; exact L_gd
  have hP : va_P (dC, dI) cls [(d, .inr (2, F1))] H := hP
  have hD : va_D A [(d, .inr (2, F1))] := hD
  refine lv_aload_n hx hb dX2_writeWaiting_150 rfl (lv_at hl 2 rfl) ?_
  refine ca_v (wr := []) (va_runV (As := []) (rest := []) ⟨hx, hb, hml, hown, ht⟩ (m2_forgetWaiting l dC dI H.size d F1 L_F1 ) (cwV 0 ht (gdV k_9_49 k_9_46 k_9_47 k_9_48 k_1_16) rfl rfl rfl (by decide +kernel) ⟨Nat.le_of_ble_eq_true rfl, Nat.le_of_ble_eq_true rfl⟩) ⟨pcw_blind, va_recv hK hP (ci := 2) (q0 := 0) rfl rfl, pcw_at hP hD hK [0] [] (by decide) rfl rfl rfl⟩ rfl rfl hl.1 rfl (lv_room (Nat.le_of_ble_eq_true rfl)) dX2_writeWaiting_151 ⟨Nat.le_of_ble_eq_true rfl, Nat.le_of_ble_eq_true rfl⟩) hP hD hK hS hA [0] [] rfl rfl (by decide) (by decide) (fun u H locs w3 hK hP hD hS => ?_)
  have hK : va_K (dC, dI) cls [] s := hK
  have hP : va_P (dC, dI) cls [] H := hP
  have hD : va_D A [] := hD
  refine lv_iload_n hx hb dX2_writeWaiting_154 rfl (lv_at hl 1 rfl) ?_
  exact W.iret (v := 0) hx hb hr (fun t ht9 hW => ⟨⟨0, (), rfl, rfl, by rw [ht9]; exact hP.sub [] rfl, va_K.moved hW.alike (hK.sub [] rfl), hD.sub [] (by decide) rfl⟩, hS.F ht9⟩) hS.2.2 dX2_writeWaiting_155
set_option maxHeartbeats 4000000 in
set_option maxRecDepth 100000 in
theorem x_sync (l : Launch) (dC : Nat → ClassId) (dI : Nat → Nat → Nat) (sz : Nat) (q : Nat) (fs : List Value) (d : Nat) (gd : List Value) (L_fs : fs.length = 18) (K2_fs : fs[2]? = some (.int 0)) (K17_fs : fs[17]? = some (.ref d)) (L_gd : gd.length = 7) (K1_gd : gd[1]? = some (.int 0)) (K3_gd : gd[3]? = some (.int 0)) (K4_gd : gd[4]? = some (.int 0)) (K5_gd : gd[5]? = some (.int (-1))) : Met l yX11_sync (Cond.code yX11_sync cX11_sync 2 (some .int) :: tb) ({ frames := 2, cells := 0, slots := 0, locals := 43 }) (pcw [.ref q] (dC, dI) [(q, .inr (11, fs)), (d, .inr (2, gd))] [] sz) (va_Qi (fun (r : Int32) => (fun (_ : Unit) => r = 0)) (bw (dC, dI) (va_A [(q, .inr (11, fs)), (d, .inr (2, gd))] sz) (fun (_ : Unit) => []) (fun (_ : Unit) => [])) (va_A [(q, .inr (11, fs)), (d, .inr (2, gd))] sz)) 0 0 (va_A [(q, .inr (11, fs)), (d, .inr (2, gd))] sz) := by
  refine Met.ofW (cc := cX11_sync) (maxL := 2) (ret := (some .int)) (by decide) rfl ?_
  intro p e s m args below meth c s₁ B hml hv
  obtain ⟨rfl, hsz, hP, hK, hD0⟩ := hv
  have hx := B.exec
  have hb := B.bytes
  have hr := B.returns
  have hts := atoms_spec (ws := Cond.code yX11_sync cX11_sync 2 (some .int) :: tb) B.pre
  have ht : ∀ w ∈ tb, w.before _ s = true := fun w h => hts w (List.mem_cons_of_mem _ h)
  have hown : s.vm.findClass RX11 = some m.cls := findClass_of_methodNamed B.named
  have hlocks := B.notSynchronized
  subst hsz
  have hD := hD0.self (sz := s.heap.size)
  generalize hAe : va_A [(q, .inr (11, fs)), (d, .inr (2, gd))] s.heap.size = A at hD ⊢
  have hA : ∀ q : Nat, s.heap.size ≤ q → A q := fun q h => by rw [← hAe]; exact Or.inr h
  have hS : va_S A s.heap s.heap [] := va_S.rf
  have hl := lv_entry ([.ref q]) (n := 2) (Nat.le_of_ble_eq_true rfl)
  rw [lg_entry_eq]
  generalize (lg_sl ([.ref q]) ++ List.replicate (2 - (lg_sl ([.ref q])).length) Slot.unset).toArray = ls at hl ⊢
  have hl : lv_has ls 2 [(0, .ref q)] := hl
  have hP : va_P (dC, dI) cls [(q, .inr (11, fs)), (d, .inr (2, gd))] s.heap := hP
  refine lv_aload_n hx hb dX11_sync_0 rfl (lv_at hl 0 rfl) ?_
  refine va_get (D := (dC, dI)) (ci := 11) (v := .int 0) (C := RX11) (T := TX11) (N := 18) hx hb ht uX11 hown hK hP 0 rfl rfl 2 (by decide) (ht _ k_4_93) (fun _ h9 => h9) K2_fs dX11_sync_1 ?_
  refine lv_if_eq (tgt := 10) hx hb dX11_sync_4 (by decide) (fun _ => ?_) (fun c0 => absurd c0 (by decide))
  refine lv_aload_n hx hb dX11_sync_10 rfl (lv_at hl 0 rfl) ?_
  refine va_get (D := (dC, dI)) (ci := 11) (v := .ref d) (C := RX11) (T := TX11) (N := 18) hx hb ht uX11 hown hK hP 0 rfl rfl 17 (by decide) (ht _ k_4_108) (fun _ h9 => h9) K17_fs dX11_sync_11 ?_
  refine ca_i (wr := [(q, .inr (11, fs))]) (va_runV (As := []) (rest := []) ⟨hx, hb, hml, hown, ht⟩ (m2_writeWaiting l dC dI s.heap.size d gd L_gd K1_gd K3_gd K4_gd K5_gd ) (cwV 0 ht (gdV k_9_33 k_9_30 k_9_31 k_9_32 k_1_16) rfl rfl rfl (by decide +kernel) ⟨Nat.le_of_ble_eq_true rfl, Nat.le_of_ble_eq_true rfl⟩) ⟨pcw_blind, va_recv hK hP (ci := 2) (q0 := 1) rfl rfl, pcw_at hP hD hK [1] [] (by decide) rfl rfl rfl⟩ rfl rfl hl.1 rfl (lv_room (Nat.le_of_ble_eq_true rfl)) dX11_sync_14 ⟨Nat.le_of_ble_eq_true rfl, Nat.le_of_ble_eq_true rfl⟩) hP hD hK hS hA [1] [0] rfl rfl (by decide) (by decide) (fun r1 u H locs w2 hK hP hD hS => ?_)
  have hK : va_K (dC, dI) cls [] s := hK
  have hP : va_P (dC, dI) cls [(q, .inr (11, fs))] H := hP
  have hD : va_D A [(q, .inr (11, fs))] := hD
  obtain rfl : r1 = 0 := w2
  refine lv_istore_n (lv' := [(1, .int 0), (0, .ref q)]) hx hb dX11_sync_17 rfl hl (by decide) rfl (fun ls hl => ?_)
  refine lv_aload_n hx hb dX11_sync_18 rfl (lv_at hl 1 rfl) ?_
  refine lv_iload_n hx hb dX11_sync_19 rfl (lv_at hl 0 rfl) ?_
  refine lv_bipush (v := (-4)) hx hb dX11_sync_20 (by decide) ?_
  refine lv_icmp_ne (tgt := 29) hx hb dX11_sync_22 (by decide) (fun _ => ?_) (fun c0 => absurd c0 (by decide))
  refine lv_iconst (v := 0) hx hb dX11_sync_29 (by decide) ?_
  refine va_put (D := (dC, dI)) (ci := 11) (v := .int 0) (ty := .boolean) (C := RX11) (T := TX11) (N := 18) hx hb ht uX11 tyX11 tkX11 nmX11 hown hK hP hD hS 0 rfl rfl 2 (by decide) (ht _ k_4_93) (fun _ h9 => h9) rfl (by decide +kernel) rfl rfl (by rw [L_fs]; decide) dX11_sync_30 (fun H locs hP hD hS => ?_)
  obtain ⟨F3, eF3⟩ : ∃ g : List Value, g = fs.set 2 (.int 0) := ⟨_, rfl⟩
  rw [← eF3] at hP hD
  have K17_F3 : F3[17]? = some (.ref d) := by rw [eF3, List.getElem?_set_ne (by decide)]; exact K17_fs
  have K2_F3 : F3[2]? = some (.int 0) := by rw [eF3]; exact List.getElem?_set_self (by rw [L_fs]; decide)
  have L_F3 : F3.length = 18 := by rw [eF3, List.length_set]; exact L_fs
  have hP : va_P (dC, dI) cls [(q, .inr (11, F3))] H := hP
  have hD : va_D A [(q, .inr (11, F3))] := hD
  refine lv_iload_n hx hb dX11_sync_33 rfl (lv_at hl 0 rfl) ?_
  exact W.iret (v := 0) hx hb hr (fun t ht9 hW => ⟨⟨0, (), rfl, rfl, by rw [ht9]; exact hP.sub [] rfl, va_K.moved hW.alike (hK.sub [] rfl), hD.sub [] (by decide) rfl⟩, hS.F ht9⟩) hS.2.2 dX11_sync_34
