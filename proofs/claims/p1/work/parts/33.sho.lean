theorem dX5_cameBefore_0 : decode cX5_cameBefore 0 = .ok (.iconst 0, 1) := by decide +kernel
theorem dX5_cameBefore_1 : decode cX5_cameBefore 1 = .ok (.istore_n 2, 1) := by decide +kernel
theorem dX5_cameBefore_2 : decode cX5_cameBefore 2 = .ok (.iload_n 2, 1) := by decide +kernel
theorem dX5_cameBefore_3 : decode cX5_cameBefore 3 = .ok (.iload_n 1, 1) := by decide +kernel
theorem dX5_cameBefore_4 : decode cX5_cameBefore 4 = .ok (.if_icmp .ge 43, 3) := by decide +kernel
theorem dX5_cameBefore_47 : decode cX5_cameBefore 47 = .ok (.iconst 0, 1) := by decide +kernel
theorem dX5_cameBefore_48 : decode cX5_cameBefore 48 = .ok (.ireturn, 1) := by decide +kernel
theorem dX5_cameBefore_7 : decode cX5_cameBefore 7 = .ok (.aload_n 0, 1) := by decide +kernel
theorem dX5_cameBefore_8 : decode cX5_cameBefore 8 = .ok (.getfield 36, 3) := by decide +kernel
theorem dX5_cameBefore_11 : decode cX5_cameBefore 11 = .ok (.iload_n 2, 1) := by decide +kernel
theorem dX5_cameBefore_12 : decode cX5_cameBefore 12 = .ok (.laload, 1) := by decide +kernel
theorem dX5_cameBefore_13 : decode cX5_cameBefore 13 = .ok (.aload_n 0, 1) := by decide +kernel
theorem dX5_cameBefore_14 : decode cX5_cameBefore 14 = .ok (.getfield 36, 3) := by decide +kernel
theorem dX5_cameBefore_17 : decode cX5_cameBefore 17 = .ok (.iload_n 1, 1) := by decide +kernel
theorem dX5_cameBefore_18 : decode cX5_cameBefore 18 = .ok (.laload, 1) := by decide +kernel
theorem dX5_cameBefore_19 : decode cX5_cameBefore 19 = .ok (.lcmp, 1) := by decide +kernel
theorem dX5_cameBefore_20 : decode cX5_cameBefore 20 = .ok (.ifCond .ne 21, 3) := by decide +kernel
theorem dX5_cameBefore_41 : decode cX5_cameBefore 41 = .ok (.iinc 2 1, 3) := by decide +kernel
theorem dX5_cameBefore_44 : decode cX5_cameBefore 44 = .ok (.goto (-42), 3) := by decide +kernel
theorem dX5_cameBefore_23 : decode cX5_cameBefore 23 = .ok (.aload_n 0, 1) := by decide +kernel
theorem dX5_cameBefore_24 : decode cX5_cameBefore 24 = .ok (.getfield 40, 3) := by decide +kernel
theorem dX5_cameBefore_27 : decode cX5_cameBefore 27 = .ok (.iload_n 2, 1) := by decide +kernel
theorem dX5_cameBefore_28 : decode cX5_cameBefore 28 = .ok (.laload, 1) := by decide +kernel
theorem dX5_cameBefore_29 : decode cX5_cameBefore 29 = .ok (.aload_n 0, 1) := by decide +kernel
theorem dX5_cameBefore_30 : decode cX5_cameBefore 30 = .ok (.getfield 40, 3) := by decide +kernel
theorem dX5_cameBefore_33 : decode cX5_cameBefore 33 = .ok (.iload_n 1, 1) := by decide +kernel
theorem dX5_cameBefore_34 : decode cX5_cameBefore 34 = .ok (.laload, 1) := by decide +kernel
theorem dX5_cameBefore_35 : decode cX5_cameBefore 35 = .ok (.lcmp, 1) := by decide +kernel
theorem dX5_cameBefore_36 : decode cX5_cameBefore 36 = .ok (.ifCond .ne 5, 3) := by decide +kernel
theorem dX5_cameBefore_39 : decode cX5_cameBefore 39 = .ok (.iconst 1, 1) := by decide +kernel
theorem dX5_cameBefore_40 : decode cX5_cameBefore 40 = .ok (.ireturn, 1) := by decide +kernel
theorem dX5_goOn_0 : decode cX5_goOn 0 = .ok (.iload_n 2, 1) := by decide +kernel
theorem dX5_goOn_1 : decode cX5_goOn 1 = .ok (.ifCond .ne 23, 3) := by decide +kernel
theorem dX5_goOn_4 : decode cX5_goOn 4 = .ok (.aload_n 0, 1) := by decide +kernel
theorem dX5_goOn_5 : decode cX5_goOn 5 = .ok (.getfield 36, 3) := by decide +kernel
theorem dX5_goOn_8 : decode cX5_goOn 8 = .ok (.iload_n 1, 1) := by decide +kernel
theorem dX5_goOn_9 : decode cX5_goOn 9 = .ok (.laload, 1) := by decide +kernel
theorem dX5_goOn_10 : decode cX5_goOn 10 = .ok (.aload_n 0, 1) := by decide +kernel
theorem k_4_24 : Jvm.Cond.fieldLink "FinderHouse$Machines" (117 : Nat) "FinderHouse$Machines" "wanted" "J" ∈ tb := tb4 24 (by decide +kernel) (by decide +kernel)
theorem dX5_goOn_11 : decode cX5_goOn 11 = .ok (.getfield 117, 3) := by decide +kernel
theorem dX5_goOn_14 : decode cX5_goOn 14 = .ok (.lcmp, 1) := by decide +kernel
theorem dX5_goOn_15 : decode cX5_goOn 15 = .ok (.ifCond .ne 7, 3) := by decide +kernel
theorem dX5_goOn_22 : decode cX5_goOn 22 = .ok (.iconst 0, 1) := by decide +kernel
theorem dX5_goOn_23 : decode cX5_goOn 23 = .ok (.ireturn, 1) := by decide +kernel
theorem dX5_goOn_18 : decode cX5_goOn 18 = .ok (.iconst 1, 1) := by decide +kernel
theorem dX5_goOn_19 : decode cX5_goOn 19 = .ok (.goto 4, 3) := by decide +kernel
theorem dX5_goOn_24 : decode cX5_goOn 24 = .ok (.iconst 0, 1) := by decide +kernel
theorem dX5_goOn_25 : decode cX5_goOn 25 = .ok (.istore_n 3, 1) := by decide +kernel
theorem dX5_goOn_26 : decode cX5_goOn 26 = .ok (.iload_n 3, 1) := by decide +kernel
theorem dX5_goOn_27 : decode cX5_goOn 27 = .ok (.bipush 18, 2) := by decide +kernel
theorem dX5_goOn_29 : decode cX5_goOn 29 = .ok (.if_icmp .ge 116, 3) := by decide +kernel
theorem dX5_goOn_145 : decode cX5_goOn 145 = .ok (.iconst 0, 1) := by decide +kernel
theorem dX5_goOn_146 : decode cX5_goOn 146 = .ok (.ireturn, 1) := by decide +kernel
theorem dX5_goOn_32 : decode cX5_goOn 32 = .ok (.iload_n 1, 1) := by decide +kernel
theorem dX5_goOn_33 : decode cX5_goOn 33 = .ok (.iconst 5, 1) := by decide +kernel
theorem dX5_goOn_34 : decode cX5_goOn 34 = .ok (.if_icmp .ge 111, 3) := by decide +kernel
theorem dX5_goOn_37 : decode cX5_goOn 37 = .ok (.iload_n 3, 1) := by decide +kernel
theorem dX5_goOn_38 : decode cX5_goOn 38 = .ok (.aload_n 0, 1) := by decide +kernel
theorem dX5_goOn_39 : decode cX5_goOn 39 = .ok (.getfield 36, 3) := by decide +kernel
theorem dX5_goOn_42 : decode cX5_goOn 42 = .ok (.iload_n 1, 1) := by decide +kernel
theorem dX5_goOn_43 : decode cX5_goOn 43 = .ok (.laload, 1) := by decide +kernel
theorem dX5_goOn_44 : decode cX5_goOn 44 = .ok (.aload_n 0, 1) := by decide +kernel
theorem dX5_goOn_45 : decode cX5_goOn 45 = .ok (.getfield 40, 3) := by decide +kernel
theorem dX5_goOn_48 : decode cX5_goOn 48 = .ok (.iload_n 1, 1) := by decide +kernel
theorem dX5_goOn_49 : decode cX5_goOn 49 = .ok (.laload, 1) := by decide +kernel
theorem dX5_goOn_50 : decode cX5_goOn 50 = .ok (.invokestatic 110, 3) := by decide +kernel
theorem dX5_goOn_53 : decode cX5_goOn 53 = .ok (.lstore 4, 2) := by decide +kernel
theorem dX5_goOn_55 : decode cX5_goOn 55 = .ok (.iload_n 2, 1) := by decide +kernel
theorem dX5_goOn_56 : decode cX5_goOn 56 = .ok (.iconst 1, 1) := by decide +kernel
theorem dX5_goOn_57 : decode cX5_goOn 57 = .ok (.if_icmp .ne 16, 3) := by decide +kernel
theorem dX5_goOn_60 : decode cX5_goOn 60 = .ok (.lload 4, 2) := by decide +kernel
theorem dX5_goOn_62 : decode cX5_goOn 62 = .ok (.aload_n 0, 1) := by decide +kernel
theorem dX5_goOn_63 : decode cX5_goOn 63 = .ok (.getfield 117, 3) := by decide +kernel
theorem dX5_goOn_66 : decode cX5_goOn 66 = .ok (.lcmp, 1) := by decide +kernel
theorem dX5_goOn_67 : decode cX5_goOn 67 = .ok (.ifCond .eq 6, 3) := by decide +kernel
theorem dX5_goOn_73 : decode cX5_goOn 73 = .ok (.aload_n 0, 1) := by decide +kernel
theorem dX5_goOn_74 : decode cX5_goOn 74 = .ok (.getfield 36, 3) := by decide +kernel
theorem dX5_goOn_77 : decode cX5_goOn 77 = .ok (.iload_n 1, 1) := by decide +kernel
theorem dX5_goOn_78 : decode cX5_goOn 78 = .ok (.iconst 1, 1) := by decide +kernel
theorem dX5_goOn_79 : decode cX5_goOn 79 = .ok (.iadd, 1) := by decide +kernel
theorem dX5_goOn_80 : decode cX5_goOn 80 = .ok (.lload 4, 2) := by decide +kernel
theorem dX5_goOn_82 : decode cX5_goOn 82 = .ok (.lastore, 1) := by decide +kernel
theorem dX5_goOn_83 : decode cX5_goOn 83 = .ok (.aload_n 0, 1) := by decide +kernel
theorem dX5_goOn_84 : decode cX5_goOn 84 = .ok (.getfield 40, 3) := by decide +kernel
theorem dX5_goOn_87 : decode cX5_goOn 87 = .ok (.iload_n 1, 1) := by decide +kernel
theorem dX5_goOn_88 : decode cX5_goOn 88 = .ok (.iconst 1, 1) := by decide +kernel
theorem dX5_goOn_89 : decode cX5_goOn 89 = .ok (.iadd, 1) := by decide +kernel
theorem dX5_goOn_90 : decode cX5_goOn 90 = .ok (.iload_n 3, 1) := by decide +kernel
theorem dX5_goOn_91 : decode cX5_goOn 91 = .ok (.aload_n 0, 1) := by decide +kernel
theorem dX5_goOn_92 : decode cX5_goOn 92 = .ok (.getfield 36, 3) := by decide +kernel
theorem dX5_goOn_95 : decode cX5_goOn 95 = .ok (.iload_n 1, 1) := by decide +kernel
theorem dX5_goOn_96 : decode cX5_goOn 96 = .ok (.laload, 1) := by decide +kernel
theorem dX5_goOn_97 : decode cX5_goOn 97 = .ok (.aload_n 0, 1) := by decide +kernel
theorem dX5_goOn_98 : decode cX5_goOn 98 = .ok (.getfield 40, 3) := by decide +kernel
theorem dX5_goOn_101 : decode cX5_goOn 101 = .ok (.iload_n 1, 1) := by decide +kernel
theorem dX5_goOn_102 : decode cX5_goOn 102 = .ok (.laload, 1) := by decide +kernel
theorem dX5_goOn_103 : decode cX5_goOn 103 = .ok (.invokestatic 114, 3) := by decide +kernel
theorem dX5_goOn_106 : decode cX5_goOn 106 = .ok (.lastore, 1) := by decide +kernel
theorem dX5_goOn_107 : decode cX5_goOn 107 = .ok (.aload_n 0, 1) := by decide +kernel
theorem dX5_goOn_108 : decode cX5_goOn 108 = .ok (.getfield 33, 3) := by decide +kernel
theorem dX5_goOn_111 : decode cX5_goOn 111 = .ok (.iload_n 1, 1) := by decide +kernel
theorem dX5_goOn_112 : decode cX5_goOn 112 = .ok (.iload_n 3, 1) := by decide +kernel
theorem dX5_goOn_113 : decode cX5_goOn 113 = .ok (.iastore, 1) := by decide +kernel
theorem dX5_goOn_114 : decode cX5_goOn 114 = .ok (.aload_n 0, 1) := by decide +kernel
theorem dX5_goOn_115 : decode cX5_goOn 115 = .ok (.iload_n 1, 1) := by decide +kernel
theorem dX5_goOn_116 : decode cX5_goOn 116 = .ok (.iconst 1, 1) := by decide +kernel
theorem dX5_goOn_117 : decode cX5_goOn 117 = .ok (.iadd, 1) := by decide +kernel
theorem k_9_14 : Jvm.Cond.code ({ cls := "FinderHouse$Machines", name := "cameBefore", desc := "(I)Z" } : Jvm.MethodName) prog_7_method_20_code (3 : Nat) (Option.some Jvm.ClassFile.FieldType.boolean) ∈ tb := tb9 14 (by decide +kernel) (by decide +kernel)
theorem k_9_11 : Jvm.Cond.methodLink "FinderHouse$Machines" (128 : Nat) ({ cls := "FinderHouse$Machines", name := "cameBefore", desc := "(I)Z" } : Jvm.MethodName) ∈ tb := tb9 11 (by decide +kernel) (by decide +kernel)
theorem k_9_13 : Jvm.Cond.instanceMethod ({ cls := "FinderHouse$Machines", name := "cameBefore", desc := "(I)Z" } : Jvm.MethodName) ∈ tb := tb9 13 (by decide +kernel) (by decide +kernel)
theorem ks_102 : Jvm.Cond.selects "FinderHouse$Machines" ({ cls := "FinderHouse$Machines", name := "cameBefore", desc := "(I)Z" } : Jvm.MethodName) ({ cls := "FinderHouse$Machines", name := "cameBefore", desc := "(I)Z" } : Jvm.MethodName) ∈ tb := tbp 102 (by decide +kernel) (by decide +kernel)
theorem dX5_goOn_118 : decode cX5_goOn 118 = .ok (.invokevirtual 128, 3) := by decide +kernel
theorem dX5_goOn_121 : decode cX5_goOn 121 = .ok (.ifCond .ne 18, 3) := by decide +kernel
theorem dX5_goOn_139 : decode cX5_goOn 139 = .ok (.iinc 3 1, 3) := by decide +kernel
theorem dX5_goOn_142 : decode cX5_goOn 142 = .ok (.goto (-116), 3) := by decide +kernel
theorem dX5_goOn_124 : decode cX5_goOn 124 = .ok (.aload_n 0, 1) := by decide +kernel
theorem dX5_goOn_125 : decode cX5_goOn 125 = .ok (.iload_n 1, 1) := by decide +kernel
theorem dX5_goOn_126 : decode cX5_goOn 126 = .ok (.iconst 1, 1) := by decide +kernel
theorem dX5_goOn_127 : decode cX5_goOn 127 = .ok (.iadd, 1) := by decide +kernel
theorem dX5_goOn_128 : decode cX5_goOn 128 = .ok (.iload_n 2, 1) := by decide +kernel
theorem dX5_goOn_129 : decode cX5_goOn 129 = .ok (.iconst 1, 1) := by decide +kernel
theorem dX5_goOn_130 : decode cX5_goOn 130 = .ok (.isub, 1) := by decide +kernel
theorem k_8_230 : Jvm.Cond.code ({ cls := "FinderHouse$Machines", name := "goOn", desc := "(II)Z" } : Jvm.MethodName) prog_7_method_19_code (6 : Nat) (Option.some Jvm.ClassFile.FieldType.boolean) ∈ tb := tb8 230 (by decide +kernel) (by decide +kernel)
theorem k_8_227 : Jvm.Cond.methodLink "FinderHouse$Machines" (121 : Nat) ({ cls := "FinderHouse$Machines", name := "goOn", desc := "(II)Z" } : Jvm.MethodName) ∈ tb := tb8 227 (by decide +kernel) (by decide +kernel)
theorem k_8_229 : Jvm.Cond.instanceMethod ({ cls := "FinderHouse$Machines", name := "goOn", desc := "(II)Z" } : Jvm.MethodName) ∈ tb := tb8 229 (by decide +kernel) (by decide +kernel)
theorem ks_101 : Jvm.Cond.selects "FinderHouse$Machines" ({ cls := "FinderHouse$Machines", name := "goOn", desc := "(II)Z" } : Jvm.MethodName) ({ cls := "FinderHouse$Machines", name := "goOn", desc := "(II)Z" } : Jvm.MethodName) ∈ tb := tbp 101 (by decide +kernel) (by decide +kernel)
theorem dX5_goOn_131 : decode cX5_goOn 131 = .ok (.invokevirtual 121, 3) := by decide +kernel
theorem dX5_goOn_134 : decode cX5_goOn 134 = .ok (.ifCond .eq 5, 3) := by decide +kernel
theorem dX5_goOn_137 : decode cX5_goOn 137 = .ok (.iconst 1, 1) := by decide +kernel
theorem dX5_goOn_138 : decode cX5_goOn 138 = .ok (.ireturn, 1) := by decide +kernel
theorem dX5_goOn_70 : decode cX5_goOn 70 = .ok (.goto 69, 3) := by decide +kernel
theorem dX5_findRow_0 : decode cX5_findRow 0 = .ok (.aload_n 0, 1) := by decide +kernel
theorem dX5_findRow_1 : decode cX5_findRow 1 = .ok (.lload_n 1, 1) := by decide +kernel
theorem dX5_findRow_2 : decode cX5_findRow 2 = .ok (.putfield 117, 3) := by decide +kernel
theorem dX5_findRow_5 : decode cX5_findRow 5 = .ok (.aload_n 0, 1) := by decide +kernel
theorem dX5_findRow_6 : decode cX5_findRow 6 = .ok (.getfield 36, 3) := by decide +kernel
theorem dX5_findRow_9 : decode cX5_findRow 9 = .ok (.iconst 0, 1) := by decide +kernel
theorem dX5_findRow_10 : decode cX5_findRow 10 = .ok (.ldc2_w 108, 3) := by decide +kernel
theorem dX5_findRow_13 : decode cX5_findRow 13 = .ok (.lastore, 1) := by decide +kernel
theorem dX5_findRow_14 : decode cX5_findRow 14 = .ok (.aload_n 0, 1) := by decide +kernel
theorem dX5_findRow_15 : decode cX5_findRow 15 = .ok (.getfield 40, 3) := by decide +kernel
theorem dX5_findRow_18 : decode cX5_findRow 18 = .ok (.iconst 0, 1) := by decide +kernel
theorem dX5_findRow_19 : decode cX5_findRow 19 = .ok (.lconst 0, 1) := by decide +kernel
theorem dX5_findRow_20 : decode cX5_findRow 20 = .ok (.lastore, 1) := by decide +kernel
theorem dX5_findRow_21 : decode cX5_findRow 21 = .ok (.iconst 0, 1) := by decide +kernel
theorem dX5_findRow_22 : decode cX5_findRow 22 = .ok (.istore 4, 2) := by decide +kernel
theorem dX5_findRow_24 : decode cX5_findRow 24 = .ok (.iload 4, 2) := by decide +kernel
theorem dX5_findRow_26 : decode cX5_findRow 26 = .ok (.iload_n 3, 1) := by decide +kernel
theorem dX5_findRow_27 : decode cX5_findRow 27 = .ok (.if_icmp .gt 34, 3) := by decide +kernel
theorem dX5_findRow_30 : decode cX5_findRow 30 = .ok (.iload 4, 2) := by decide +kernel
theorem dX5_findRow_32 : decode cX5_findRow 32 = .ok (.iconst 5, 1) := by decide +kernel
theorem dX5_findRow_33 : decode cX5_findRow 33 = .ok (.if_icmp .gt 28, 3) := by decide +kernel
theorem dX5_findRow_36 : decode cX5_findRow 36 = .ok (.aload_n 0, 1) := by decide +kernel
theorem dX5_findRow_37 : decode cX5_findRow 37 = .ok (.iconst 0, 1) := by decide +kernel
theorem dX5_findRow_38 : decode cX5_findRow 38 = .ok (.iload 4, 2) := by decide +kernel
theorem dX5_findRow_40 : decode cX5_findRow 40 = .ok (.invokevirtual 121, 3) := by decide +kernel
theorem dX5_findRow_43 : decode cX5_findRow 43 = .ok (.ifCond .eq 12, 3) := by decide +kernel
theorem dX5_findRow_46 : decode cX5_findRow 46 = .ok (.aload_n 0, 1) := by decide +kernel
theorem dX5_findRow_47 : decode cX5_findRow 47 = .ok (.iload 4, 2) := by decide +kernel
theorem k_4_20 : Jvm.Cond.fieldLink "FinderHouse$Machines" (125 : Nat) "FinderHouse$Machines" "rowSize" "I" ∈ tb := tb4 20 (by decide +kernel) (by decide +kernel)
theorem dX5_findRow_49 : decode cX5_findRow 49 = .ok (.putfield 125, 3) := by decide +kernel
theorem dX5_findRow_52 : decode cX5_findRow 52 = .ok (.iload 4, 2) := by decide +kernel
theorem dX5_findRow_54 : decode cX5_findRow 54 = .ok (.ireturn, 1) := by decide +kernel
theorem dX5_findRow_55 : decode cX5_findRow 55 = .ok (.iinc 4 1, 3) := by decide +kernel
theorem dX5_findRow_58 : decode cX5_findRow 58 = .ok (.goto (-34), 3) := by decide +kernel
theorem dX5_findRow_61 : decode cX5_findRow 61 = .ok (.aload_n 0, 1) := by decide +kernel
theorem dX5_findRow_62 : decode cX5_findRow 62 = .ok (.iconst 0, 1) := by decide +kernel
theorem dX5_findRow_63 : decode cX5_findRow 63 = .ok (.putfield 125, 3) := by decide +kernel
theorem dX5_findRow_66 : decode cX5_findRow 66 = .ok (.bipush 100, 2) := by decide +kernel
theorem dX5_findRow_68 : decode cX5_findRow 68 = .ok (.ireturn, 1) := by decide +kernel
theorem dX11_shortest_0 : decode cX11_shortest 0 = .ok (.aload_n 0, 1) := by decide +kernel
theorem dX11_shortest_1 : decode cX11_shortest 1 = .ok (.getfield 107, 3) := by decide +kernel
theorem dX11_shortest_4 : decode cX11_shortest 4 = .ok (.ifCond .eq 6, 3) := by decide +kernel
theorem dX11_shortest_10 : decode cX11_shortest 10 = .ok (.iload_n 3, 1) := by decide +kernel
theorem dX11_shortest_11 : decode cX11_shortest 11 = .ok (.ifCond .lt 8, 3) := by decide +kernel
theorem dX11_shortest_19 : decode cX11_shortest 19 = .ok (.iconst (-1), 1) := by decide +kernel
theorem dX11_shortest_20 : decode cX11_shortest 20 = .ok (.ireturn, 1) := by decide +kernel
theorem dX11_shortest_14 : decode cX11_shortest 14 = .ok (.iload_n 3, 1) := by decide +kernel
theorem dX11_shortest_15 : decode cX11_shortest 15 = .ok (.iconst 5, 1) := by decide +kernel
theorem dX11_shortest_16 : decode cX11_shortest 16 = .ok (.if_icmp .le 5, 3) := by decide +kernel
theorem dX11_shortest_21 : decode cX11_shortest 21 = .ok (.aload_n 0, 1) := by decide +kernel
theorem dX11_shortest_22 : decode cX11_shortest 22 = .ok (.getfield 77, 3) := by decide +kernel
theorem dX11_shortest_25 : decode cX11_shortest 25 = .ok (.lload_n 1, 1) := by decide +kernel
theorem dX11_shortest_26 : decode cX11_shortest 26 = .ok (.iload_n 3, 1) := by decide +kernel
theorem k_8_225 : Jvm.Cond.code ({ cls := "FinderHouse$Machines", name := "findRow", desc := "(JI)I" } : Jvm.MethodName) prog_7_method_18_code (5 : Nat) (Option.some Jvm.ClassFile.FieldType.int) ∈ tb := tb8 225 (by decide +kernel) (by decide +kernel)
theorem k_8_222 : Jvm.Cond.methodLink "FinderHouse" (478 : Nat) ({ cls := "FinderHouse$Machines", name := "findRow", desc := "(JI)I" } : Jvm.MethodName) ∈ tb := tb8 222 (by decide +kernel) (by decide +kernel)
theorem k_8_223 : Jvm.Cond.instanceMethod ({ cls := "FinderHouse$Machines", name := "findRow", desc := "(JI)I" } : Jvm.MethodName) ∈ tb := tb8 223 (by decide +kernel) (by decide +kernel)
theorem k_8_224 : Jvm.Cond.selects "FinderHouse$Machines" ({ cls := "FinderHouse$Machines", name := "findRow", desc := "(JI)I" } : Jvm.MethodName) ({ cls := "FinderHouse$Machines", name := "findRow", desc := "(JI)I" } : Jvm.MethodName) ∈ tb := tb8 224 (by decide +kernel) (by decide +kernel)
theorem dX11_shortest_27 : decode cX11_shortest 27 = .ok (.invokevirtual 478, 3) := by decide +kernel
theorem dX11_shortest_30 : decode cX11_shortest 30 = .ok (.ireturn, 1) := by decide +kernel
theorem no_step {P : Nat → Prop} {i : Nat} (h : ∀ k, k < i → ¬ P k) (hi : ¬ P i) : ∀ k, k < i + 1 → ¬ P k := by
  intro k hk
  rcases Nat.lt_or_ge k i with h1 | h1
  · exact h k h1
  · have : k = i := by omega
    subst this; exact hi
theorem lt18' {j : Nat} (hj : j ≤ 18) (h : ¬ 18 ≤ nI j) : j < 18 := by
  rcases Nat.lt_or_ge j 18 with h1 | h1
  · exact h1
  · exact absurd (show nI 18 ≤ nI j from nI_le h1 (by omega)) h
theorem eq18' {j : Nat} (hj : j ≤ 18) (h : 18 ≤ nI j) : j = 18 := ge_of hj (by decide) (show nI 18 ≤ nI j from h)
theorem uL_all {f g h : Nat → Int64} {p : Nat} {v : Int64} (hp : p + 1 < 2 ^ 31) (e : g = vp_updL f (nI (p + 1)).toNatClampNeg v) (hf : ∀ i, i ≤ p → f i = h i) : ∀ i, i ≤ p → g i = h i := by
  intro i hi
  rw [e, nI_clamp hp, pk_uLn (by omega)]; exact hf i hi
theorem uL_at {f g : Nat → Int64} {p : Nat} {v : Int64} (hp : p + 1 < 2 ^ 31) (e : g = vp_updL f (nI (p + 1)).toNatClampNeg v) : g (p + 1) = v := by
  rw [e, nI_clamp hp, pk_uLs]
set_option maxHeartbeats 4000000 in
set_option maxRecDepth 100000 in
theorem x_came (l : Launch) (dC : Nat → ClassId) (dI : Nat → Nat → Nat) (sz : Nat) (q : Nat) (fs : List Value) (rw9 : Nat) (pa : Nat) (pb : Nat) (gl : Int64) (cA : ClassId) (cB : ClassId) (fA : Nat → Int64) (fB : Nat → Int64) (put : Nat) (L_fs : fs.length = 15) (K10_fs : fs[10]? = some (.ref rw9)) (K12_fs : fs[12]? = some (.ref pa)) (K13_fs : fs[13]? = some (.ref pb)) (K14_fs : fs[14]? = some (.long gl)) (hput : put < 6) : Met l yX5_cameBefore (Cond.code yX5_cameBefore cX5_cameBefore 3 (some .boolean) :: tb) ({ frames := 0, cells := 0, slots := 0, locals := 0 }) (pcw [.ref q, .int (nI put)] (dC, dI) [(q, .inr (5, fs)), (pa, .inl (cA, 6, .inr (.inl fA))), (pb, .inl (cB, 6, .inr (.inl fB)))] [(cA, .long), (cB, .long)] sz) (va_Qi (fun (r : Int32) => (fun (_ : Unit) => (r = 1 ∧ ∃ i, i < put ∧ fA i = fA put ∧ fB i = fB put) ∨ (r = 0 ∧ ¬ ∃ i, i < put ∧ fA i = fA put ∧ fB i = fB put))) (bw (dC, dI) (va_A [(q, .inr (5, fs)), (pa, .inl (cA, 6, .inr (.inl fA))), (pb, .inl (cB, 6, .inr (.inl fB)))] sz) (fun (_ : Unit) => [(q, .inr (5, fs)), (pa, .inl (cA, 6, .inr (.inl fA))), (pb, .inl (cB, 6, .inr (.inl fB)))]) (fun (_ : Unit) => [])) (va_A [(q, .inr (5, fs)), (pa, .inl (cA, 6, .inr (.inl fA))), (pb, .inl (cB, 6, .inr (.inl fB)))] sz)) 0 0 (va_A [(q, .inr (5, fs)), (pa, .inl (cA, 6, .inr (.inl fA))), (pb, .inl (cB, 6, .inr (.inl fB)))] sz) := by
  refine Met.ofW (cc := cX5_cameBefore) (maxL := 3) (ret := (some .boolean)) (by decide) rfl ?_
  intro p e s m args below meth c s₁ B hml hv
  obtain ⟨rfl, hsz, hP, hK, hD0⟩ := hv
  have hx := B.exec
  have hb := B.bytes
  have hr := B.returns
  have hts := atoms_spec (ws := Cond.code yX5_cameBefore cX5_cameBefore 3 (some .boolean) :: tb) B.pre
  have ht : ∀ w ∈ tb, w.before _ s = true := fun w h => hts w (List.mem_cons_of_mem _ h)
  have hown : s.vm.findClass RX5 = some m.cls := findClass_of_methodNamed B.named
  have hlocks := B.notSynchronized
  subst hsz
  have hD := hD0.self (sz := s.heap.size)
  generalize hAe : va_A [(q, .inr (5, fs)), (pa, .inl (cA, 6, .inr (.inl fA))), (pb, .inl (cB, 6, .inr (.inl fB)))] s.heap.size = A at hD ⊢
  have hA : ∀ q : Nat, s.heap.size ≤ q → A q := fun q h => by rw [← hAe]; exact Or.inr h
  have hS : va_S A s.heap s.heap [] := va_S.rf
  have hl := lv_entry ([.ref q, .int (nI put)]) (n := 3) (Nat.le_of_ble_eq_true rfl)
  rw [lg_entry_eq]
  generalize (lg_sl ([.ref q, .int (nI put)]) ++ List.replicate (3 - (lg_sl ([.ref q, .int (nI put)])).length) Slot.unset).toArray = ls at hl ⊢
  have hl : lv_has ls 3 [(0, .ref q), (1, .int (nI put))] := hl
  have hP : va_P (dC, dI) cls [(q, .inr (5, fs)), (pa, .inl (cA, 6, .inr (.inl fA))), (pb, .inl (cB, 6, .inr (.inl fB)))] s.heap := hP
  refine lv_iconst (v := 0) hx hb dX5_cameBefore_0 (by decide) ?_
  refine lv_istore_n (lv' := [(2, .int 0), (0, .ref q), (1, .int (nI put))]) hx hb dX5_cameBefore_1 rfl hl (by decide) rfl (fun ls hl => ?_)
  refine lp_rule (fun H locs ls => W p l e _ s m _ below meth c H locs _ _ _ (F0 m 2 ls [])) (fun (z : Nat) H locs ls => match z with | i => va_P (dC, dI) cls [(q, .inr (5, fs)), (pa, .inl (cA, 6, .inr (.inl fA))), (pb, .inl (cB, 6, .inr (.inl fB)))] H ∧ va_D A [(q, .inr (5, fs)), (pa, .inl (cA, 6, .inr (.inl fA))), (pb, .inl (cB, 6, .inr (.inl fB)))] ∧ va_S A s.heap H locs ∧ lv_has ls 3 [(2, .int (nI i)), (1, .int (nI put)), (0, .ref q)] ∧ True ∧ i ≤ put ∧ ∀ k, k < i → ¬ (fA k = fA put ∧ fB k = fB put)) (fun (z : Nat) => match z with | i => put - i) ?_ (0) s.heap [] ls ⟨hP, hD, hS, lv_sub hl [0, 2, 1] rfl, trivial, (Nat.zero_le _), (fun k hk => absurd hk (Nat.not_lt_zero _))⟩
  intro z H locs ls hI ih2
  obtain ⟨i, rfl⟩ : ∃ y, y = z := ⟨_, rfl⟩
  obtain ⟨hP, hD, hS, hl, -, hi, hno⟩ := hI
  have hP : va_P (dC, dI) cls [(q, .inr (5, fs)), (pa, .inl (cA, 6, .inr (.inl fA))), (pb, .inl (cB, 6, .inr (.inl fB)))] H := hP
  have hD : va_D A [(q, .inr (5, fs)), (pa, .inl (cA, 6, .inr (.inl fA))), (pb, .inl (cB, 6, .inr (.inl fB)))] := hD
  have hl : lv_has ls 3 [(2, .int (nI i)), (1, .int (nI put)), (0, .ref q)] := hl
  refine lv_iload_n hx hb dX5_cameBefore_2 rfl (lv_at hl 0 rfl) ?_
  refine lv_iload_n hx hb dX5_cameBefore_3 rfl (lv_at hl 1 rfl) ?_
  refine lv_icmp_ge (tgt := 47) hx hb dX5_cameBefore_4 (by decide) (fun b_1 => ?_) (fun b_1 => ?_)
  · refine lv_iconst (v := 0) hx hb dX5_cameBefore_47 (by decide) ?_
    exact W.zret (v := 0) hx hb hr rfl (fun t ht9 hW => ⟨⟨0, (), rfl, (Or.inr ⟨rfl, by rintro ⟨k, hk, e1, e2⟩; exact hno k (by have := ge_of hi (by omega) b_1; omega) ⟨e1, e2⟩⟩), by rw [ht9]; exact hP.sub [0, 1, 2] rfl, va_K.moved hW.alike (hK.sub [] rfl), hD.sub [0, 1, 2] (by decide) rfl⟩, hS.F ht9⟩) hS.2.2 dX5_cameBefore_48
  · have hip : i < put := nI_lej (by omega) (by omega) b_1
    refine lv_aload_n hx hb dX5_cameBefore_7 rfl (lv_at hl 2 rfl) ?_
    refine va_get (D := (dC, dI)) (ci := 5) (v := .ref pa) (C := RX5) (T := TX5) (N := 15) hx hb ht uX5 hown hK hP 0 rfl rfl 12 (by decide) (ht _ k_4_22) (fun _ h9 => h9) K12_fs dX5_cameBefore_8 ?_
    refine lv_iload_n hx hb dX5_cameBefore_11 rfl (lv_at hl 0 rfl) ?_
    refine va_lald hx hb hK hP 1 0 rfl rfl (vp_in_nI (by omega) (by decide)) dX5_cameBefore_12 ?_
    refine tk_l (y := (fA i)) (by rw [nI_clamp (by omega)]) ?_
    refine lv_aload_n hx hb dX5_cameBefore_13 rfl (lv_at hl 2 rfl) ?_
    refine va_get (D := (dC, dI)) (ci := 5) (v := .ref pa) (C := RX5) (T := TX5) (N := 15) hx hb ht uX5 hown hK hP 0 rfl rfl 12 (by decide) (ht _ k_4_22) (fun _ h9 => h9) K12_fs dX5_cameBefore_14 ?_
    refine lv_iload_n hx hb dX5_cameBefore_17 rfl (lv_at hl 1 rfl) ?_
    refine va_lald hx hb hK hP 1 0 rfl rfl (vp_in_nI (by omega) (by decide)) dX5_cameBefore_18 ?_
    refine tk_l (y := (fA put)) (by rw [nI_clamp (by omega)]) ?_
    refine W.lcmp hx hb dX5_cameBefore_19 ?_
    refine lv_if_ne (tgt := 41) hx hb dX5_cameBefore_20 (by decide) (fun b_2 => ?_) (fun b_2 => ?_)
    · refine lv_iinc (v := (nI (i + 1))) (lv' := [(2, .int (nI (i + 1))), (1, .int (nI put)), (0, .ref q)]) hx hb dX5_cameBefore_41 hl (k := 0) rfl (nI_1 i) (by decide) rfl (fun ls hl => ?_)
      refine lv_goto (tgt := 2) hx hb dX5_cameBefore_44 (by decide) ?_
      exact ih2 (i + 1) H locs ls (show put - (i + 1) < put - i by omega) ⟨hP.sub [0, 1, 2] rfl, hD.sub [0, 1, 2] (by decide) rfl, hS, lv_sub hl [0, 1, 2] rfl, trivial, (by omega), (no_step (P := fun k => fA k = fA put ∧ fB k = fB put) hno (fun h => b_2 ((lg_cmp_eq _ _).mpr h.1)))⟩
    · refine lv_aload_n hx hb dX5_cameBefore_23 rfl (lv_at hl 2 rfl) ?_
      refine va_get (D := (dC, dI)) (ci := 5) (v := .ref pb) (C := RX5) (T := TX5) (N := 15) hx hb ht uX5 hown hK hP 0 rfl rfl 13 (by decide) (ht _ k_4_23) (fun _ h9 => h9) K13_fs dX5_cameBefore_24 ?_
      refine lv_iload_n hx hb dX5_cameBefore_27 rfl (lv_at hl 0 rfl) ?_
      refine va_lald hx hb hK hP 2 1 rfl rfl (vp_in_nI (by omega) (by decide)) dX5_cameBefore_28 ?_
      refine tk_l (y := (fB i)) (by rw [nI_clamp (by omega)]) ?_
      refine lv_aload_n hx hb dX5_cameBefore_29 rfl (lv_at hl 2 rfl) ?_
      refine va_get (D := (dC, dI)) (ci := 5) (v := .ref pb) (C := RX5) (T := TX5) (N := 15) hx hb ht uX5 hown hK hP 0 rfl rfl 13 (by decide) (ht _ k_4_23) (fun _ h9 => h9) K13_fs dX5_cameBefore_30 ?_
      refine lv_iload_n hx hb dX5_cameBefore_33 rfl (lv_at hl 1 rfl) ?_
      refine va_lald hx hb hK hP 2 1 rfl rfl (vp_in_nI (by omega) (by decide)) dX5_cameBefore_34 ?_
      refine tk_l (y := (fB put)) (by rw [nI_clamp (by omega)]) ?_
      refine W.lcmp hx hb dX5_cameBefore_35 ?_
      refine lv_if_ne (tgt := 41) hx hb dX5_cameBefore_36 (by decide) (fun b_3 => ?_) (fun b_3 => ?_)
      · refine lv_iinc (v := (nI (i + 1))) (lv' := [(2, .int (nI (i + 1))), (1, .int (nI put)), (0, .ref q)]) hx hb dX5_cameBefore_41 hl (k := 0) rfl (nI_1 i) (by decide) rfl (fun ls hl => ?_)
        refine lv_goto (tgt := 2) hx hb dX5_cameBefore_44 (by decide) ?_
        exact ih2 (i + 1) H locs ls (show put - (i + 1) < put - i by omega) ⟨hP.sub [0, 1, 2] rfl, hD.sub [0, 1, 2] (by decide) rfl, hS, lv_sub hl [0, 1, 2] rfl, trivial, (by omega), (no_step (P := fun k => fA k = fA put ∧ fB k = fB put) hno (fun h => b_3 ((lg_cmp_eq _ _).mpr h.2)))⟩
      · refine lv_iconst (v := 1) hx hb dX5_cameBefore_39 (by decide) ?_
        exact W.zret (v := 1) hx hb hr rfl (fun t ht9 hW => ⟨⟨1, (), rfl, (Or.inl ⟨rfl, i, hip, (lg_cmp_eq _ _).mp b_2, (lg_cmp_eq _ _).mp b_3⟩), by rw [ht9]; exact hP.sub [0, 1, 2] rfl, va_K.moved hW.alike (hK.sub [] rfl), hD.sub [0, 1, 2] (by decide) rfl⟩, hS.F ht9⟩) hS.2.2 dX5_cameBefore_40
set_option maxHeartbeats 4000000 in
set_option maxRecDepth 100000 in
theorem x_goOn_0 (l : Launch) (dC : Nat → ClassId) (dI : Nat → Nat → Nat) (sz : Nat) (q : Nat) (fs : List Value) (rw9 : Nat) (pa : Nat) (pb : Nat) (gl : Int64) (cA : ClassId) (cB : ClassId) (fA : Nat → Int64) (fB : Nat → Int64) (cR : ClassId) (fr : Nat → Int32) (put : Nat) (L_fs : fs.length = 15) (K10_fs : fs[10]? = some (.ref rw9)) (K12_fs : fs[12]? = some (.ref pa)) (K13_fs : fs[13]? = some (.ref pb)) (K14_fs : fs[14]? = some (.long gl)) (hput : put + 0 ≤ 5) : Met l yX5_goOn (Cond.code yX5_goOn cX5_goOn 6 (some .boolean) :: tb) ({ frames := 0, cells := 0, slots := 0, locals := 0 }) (pcw [.ref q, .int (nI put), .int 0] (dC, dI) [(q, .inr (5, fs)), (pa, .inl (cA, 6, .inr (.inl fA))), (pb, .inl (cB, 6, .inr (.inl fB))), (rw9, .inl (cR, 5, .inl fr))] [(cA, .long), (cB, .long), (cR, .int)] sz) (va_Qi (fun (r : Int32) => (fun (u : (Nat → Int64) × (Nat → Int64) × (Nat → Int32)) => match u with | (gA, gB, gr) => ((∀ i, i ≤ put → gA i = fA i) ∧ (∀ i, i ≤ put → gB i = fB i)) ∧ ((r = 1 ∧ dfs gl 0 (pastOf fA fB put) (fA put, fB put)) ∨ (r = 0 ∧ ¬ dfs gl 0 (pastOf fA fB put) (fA put, fB put))))) (bw (dC, dI) (va_A [(q, .inr (5, fs)), (pa, .inl (cA, 6, .inr (.inl fA))), (pb, .inl (cB, 6, .inr (.inl fB))), (rw9, .inl (cR, 5, .inl fr))] sz) (fun (u : (Nat → Int64) × (Nat → Int64) × (Nat → Int32)) => match u with | (gA, gB, gr) => [(q, .inr (5, fs)), (pa, .inl (cA, 6, .inr (.inl gA))), (pb, .inl (cB, 6, .inr (.inl gB))), (rw9, .inl (cR, 5, .inl gr))]) (fun (u : (Nat → Int64) × (Nat → Int64) × (Nat → Int32)) => match u with | (gA, gB, gr) => [])) (va_A [(q, .inr (5, fs)), (pa, .inl (cA, 6, .inr (.inl fA))), (pb, .inl (cB, 6, .inr (.inl fB))), (rw9, .inl (cR, 5, .inl fr))] sz)) 0 0 (va_A [(q, .inr (5, fs)), (pa, .inl (cA, 6, .inr (.inl fA))), (pb, .inl (cB, 6, .inr (.inl fB))), (rw9, .inl (cR, 5, .inl fr))] sz) := by
  refine Met.ofW (cc := cX5_goOn) (maxL := 6) (ret := (some .boolean)) (by decide) rfl ?_
  intro p e s m args below meth c s₁ B hml hv
  obtain ⟨rfl, hsz, hP, hK, hD0⟩ := hv
  have hx := B.exec
  have hb := B.bytes
  have hr := B.returns
  have hts := atoms_spec (ws := Cond.code yX5_goOn cX5_goOn 6 (some .boolean) :: tb) B.pre
  have ht : ∀ w ∈ tb, w.before _ s = true := fun w h => hts w (List.mem_cons_of_mem _ h)
  have hown : s.vm.findClass RX5 = some m.cls := findClass_of_methodNamed B.named
  have hlocks := B.notSynchronized
  subst hsz
  have hD := hD0.self (sz := s.heap.size)
  generalize hAe : va_A [(q, .inr (5, fs)), (pa, .inl (cA, 6, .inr (.inl fA))), (pb, .inl (cB, 6, .inr (.inl fB))), (rw9, .inl (cR, 5, .inl fr))] s.heap.size = A at hD ⊢
  have hA : ∀ q : Nat, s.heap.size ≤ q → A q := fun q h => by rw [← hAe]; exact Or.inr h
  have hS : va_S A s.heap s.heap [] := va_S.rf
  have hl := lv_entry ([.ref q, .int (nI put), .int 0]) (n := 6) (Nat.le_of_ble_eq_true rfl)
  rw [lg_entry_eq]
  generalize (lg_sl ([.ref q, .int (nI put), .int 0]) ++ List.replicate (6 - (lg_sl ([.ref q, .int (nI put), .int 0])).length) Slot.unset).toArray = ls at hl ⊢
  have hl : lv_has ls 6 [(0, .ref q), (1, .int (nI put)), (2, .int 0)] := hl
  have hP : va_P (dC, dI) cls [(q, .inr (5, fs)), (pa, .inl (cA, 6, .inr (.inl fA))), (pb, .inl (cB, 6, .inr (.inl fB))), (rw9, .inl (cR, 5, .inl fr))] s.heap := hP
  refine lv_iload_n hx hb dX5_goOn_0 rfl (lv_at hl 2 rfl) ?_
  refine lv_if_ne (tgt := 24) hx hb dX5_goOn_1 (by decide) (fun c0 => absurd c0 (by decide)) (fun _ => ?_)
  refine lv_aload_n hx hb dX5_goOn_4 rfl (lv_at hl 0 rfl) ?_
  refine va_get (D := (dC, dI)) (ci := 5) (v := .ref pa) (C := RX5) (T := TX5) (N := 15) hx hb ht uX5 hown hK hP 0 rfl rfl 12 (by decide) (ht _ k_4_22) (fun _ h9 => h9) K12_fs dX5_goOn_5 ?_
  refine lv_iload_n hx hb dX5_goOn_8 rfl (lv_at hl 1 rfl) ?_
  refine va_lald hx hb hK hP 1 0 rfl rfl (vp_in_nI (by omega) (by decide)) dX5_goOn_9 ?_
  refine tk_l (y := (fA put)) (by rw [nI_clamp (by omega)]) ?_
  refine lv_aload_n hx hb dX5_goOn_10 rfl (lv_at hl 0 rfl) ?_
  refine va_get (D := (dC, dI)) (ci := 5) (v := .long gl) (C := RX5) (T := TX5) (N := 15) hx hb ht uX5 hown hK hP 0 rfl rfl 14 (by decide) (ht _ k_4_24) (fun _ h9 => h9) K14_fs dX5_goOn_11 ?_
  refine W.lcmp hx hb dX5_goOn_14 ?_
  refine lv_if_ne (tgt := 22) hx hb dX5_goOn_15 (by decide) (fun b_1 => ?_) (fun b_1 => ?_)
  · refine lv_iconst (v := 0) hx hb dX5_goOn_22 (by decide) ?_
    exact W.zret (v := 0) hx hb hr rfl (fun t ht9 hW => ⟨⟨0, (fA, fB, fr), rfl, ⟨⟨fun _ _ => rfl, fun _ _ => rfl⟩, Or.inr ⟨rfl, fun h => b_1 ((lg_cmp_eq _ _).mpr h)⟩⟩, by rw [ht9]; exact hP.sub [0, 1, 2, 3] rfl, va_K.moved hW.alike (hK.sub [] rfl), hD.sub [0, 1, 2, 3] (by decide) rfl⟩, hS.F ht9⟩) hS.2.2 dX5_goOn_23
  · refine lv_iconst (v := 1) hx hb dX5_goOn_18 (by decide) ?_
    refine lv_goto (tgt := 23) hx hb dX5_goOn_19 (by decide) ?_
    exact W.zret (v := 1) hx hb hr rfl (fun t ht9 hW => ⟨⟨1, (fA, fB, fr), rfl, ⟨⟨fun _ _ => rfl, fun _ _ => rfl⟩, Or.inl ⟨rfl, (lg_cmp_eq _ _).mp b_1⟩⟩, by rw [ht9]; exact hP.sub [0, 1, 2, 3] rfl, va_K.moved hW.alike (hK.sub [] rfl), hD.sub [0, 1, 2, 3] (by decide) rfl⟩, hS.F ht9⟩) hS.2.2 dX5_goOn_23
set_option maxHeartbeats 4000000 in
set_option maxRecDepth 100000 in
theorem x_goOn_1 (l : Launch) (dC : Nat → ClassId) (dI : Nat → Nat → Nat) (sz : Nat) (q : Nat) (fs : List Value) (rw9 : Nat) (pa : Nat) (pb : Nat) (gl : Int64) (cA : ClassId) (cB : ClassId) (fA : Nat → Int64) (fB : Nat → Int64) (cR : ClassId) (fr : Nat → Int32) (put : Nat) (L_fs : fs.length = 15) (K10_fs : fs[10]? = some (.ref rw9)) (K12_fs : fs[12]? = some (.ref pa)) (K13_fs : fs[13]? = some (.ref pb)) (K14_fs : fs[14]? = some (.long gl)) (hput : put + 1 ≤ 5) : Met l yX5_goOn (Cond.code yX5_goOn cX5_goOn 6 (some .boolean) :: tb) ({ frames := 5, cells := 0, slots := 0, locals := 144 }) (pcw [.ref q, .int (nI put), .int 1] (dC, dI) [(q, .inr (5, fs)), (pa, .inl (cA, 6, .inr (.inl fA))), (pb, .inl (cB, 6, .inr (.inl fB))), (rw9, .inl (cR, 5, .inl fr))] [(cA, .long), (cB, .long), (cR, .int)] sz) (va_Qi (fun (r : Int32) => (fun (u : (Nat → Int64) × (Nat → Int64) × (Nat → Int32)) => match u with | (gA, gB, gr) => ((∀ i, i ≤ put → gA i = fA i) ∧ (∀ i, i ≤ put → gB i = fB i)) ∧ ((r = 1 ∧ dfs gl 1 (pastOf fA fB put) (fA put, fB put)) ∨ (r = 0 ∧ ¬ dfs gl 1 (pastOf fA fB put) (fA put, fB put))))) (bw (dC, dI) (va_A [(q, .inr (5, fs)), (pa, .inl (cA, 6, .inr (.inl fA))), (pb, .inl (cB, 6, .inr (.inl fB))), (rw9, .inl (cR, 5, .inl fr))] sz) (fun (u : (Nat → Int64) × (Nat → Int64) × (Nat → Int32)) => match u with | (gA, gB, gr) => [(q, .inr (5, fs)), (pa, .inl (cA, 6, .inr (.inl gA))), (pb, .inl (cB, 6, .inr (.inl gB))), (rw9, .inl (cR, 5, .inl gr))]) (fun (u : (Nat → Int64) × (Nat → Int64) × (Nat → Int32)) => match u with | (gA, gB, gr) => [])) (va_A [(q, .inr (5, fs)), (pa, .inl (cA, 6, .inr (.inl fA))), (pb, .inl (cB, 6, .inr (.inl fB))), (rw9, .inl (cR, 5, .inl fr))] sz)) 0 0 (va_A [(q, .inr (5, fs)), (pa, .inl (cA, 6, .inr (.inl fA))), (pb, .inl (cB, 6, .inr (.inl fB))), (rw9, .inl (cR, 5, .inl fr))] sz) := by
  refine Met.ofW (cc := cX5_goOn) (maxL := 6) (ret := (some .boolean)) (by decide) rfl ?_
  intro p e s m args below meth c s₁ B hml hv
  obtain ⟨rfl, hsz, hP, hK, hD0⟩ := hv
  have hx := B.exec
  have hb := B.bytes
  have hr := B.returns
  have hts := atoms_spec (ws := Cond.code yX5_goOn cX5_goOn 6 (some .boolean) :: tb) B.pre
  have ht : ∀ w ∈ tb, w.before _ s = true := fun w h => hts w (List.mem_cons_of_mem _ h)
  have hown : s.vm.findClass RX5 = some m.cls := findClass_of_methodNamed B.named
  have hlocks := B.notSynchronized
  subst hsz
  have hD := hD0.self (sz := s.heap.size)
  generalize hAe : va_A [(q, .inr (5, fs)), (pa, .inl (cA, 6, .inr (.inl fA))), (pb, .inl (cB, 6, .inr (.inl fB))), (rw9, .inl (cR, 5, .inl fr))] s.heap.size = A at hD ⊢
  have hA : ∀ q : Nat, s.heap.size ≤ q → A q := fun q h => by rw [← hAe]; exact Or.inr h
  have hS : va_S A s.heap s.heap [] := va_S.rf
  have hl := lv_entry ([.ref q, .int (nI put), .int 1]) (n := 6) (Nat.le_of_ble_eq_true rfl)
  rw [lg_entry_eq]
  generalize (lg_sl ([.ref q, .int (nI put), .int 1]) ++ List.replicate (6 - (lg_sl ([.ref q, .int (nI put), .int 1])).length) Slot.unset).toArray = ls at hl ⊢
  have hl : lv_has ls 6 [(0, .ref q), (1, .int (nI put)), (2, .int 1)] := hl
  have hP : va_P (dC, dI) cls [(q, .inr (5, fs)), (pa, .inl (cA, 6, .inr (.inl fA))), (pb, .inl (cB, 6, .inr (.inl fB))), (rw9, .inl (cR, 5, .inl fr))] s.heap := hP
  refine lv_iload_n hx hb dX5_goOn_0 rfl (lv_at hl 2 rfl) ?_
  refine lv_if_ne (tgt := 24) hx hb dX5_goOn_1 (by decide) (fun _ => ?_) (fun c0 => absurd c0 (by decide))
  refine lv_iconst (v := 0) hx hb dX5_goOn_24 (by decide) ?_
  refine lv_istore_n (lv' := [(3, .int 0), (0, .ref q), (1, .int (nI put)), (2, .int 1)]) hx hb dX5_goOn_25 rfl hl (by decide) rfl (fun ls hl => ?_)
  refine lp_rule (fun H locs ls => W p l e _ s m _ below meth c H locs _ _ _ (F0 m 26 ls [])) (fun (z : Nat × (Nat → Int64) × (Nat → Int64) × (Nat → Int32)) H locs ls => match z with | (j, hA9, hB9, hr9) => va_P (dC, dI) cls [(q, .inr (5, fs)), (pa, .inl (cA, 6, .inr (.inl hA9))), (pb, .inl (cB, 6, .inr (.inl hB9))), (rw9, .inl (cR, 5, .inl hr9))] H ∧ va_D A [(q, .inr (5, fs)), (pa, .inl (cA, 6, .inr (.inl hA9))), (pb, .inl (cB, 6, .inr (.inl hB9))), (rw9, .inl (cR, 5, .inl hr9))] ∧ va_S A s.heap H locs ∧ lv_has ls 6 [(3, .int (nI j)), (2, .int 1), (1, .int (nI put)), (0, .ref q)] ∧ True ∧ j ≤ 18 ∧ (∀ i, i ≤ put → hA9 i = fA i) ∧ (∀ i, i ≤ put → hB9 i = fB i) ∧ ∀ i, i < j → ¬ tryOf gl 0 fA fB put i) (fun (z : Nat × (Nat → Int64) × (Nat → Int64) × (Nat → Int32)) => match z with | (j, hA9, hB9, hr9) => 18 - j) ?_ (0, fA, fB, fr) s.heap [] ls ⟨hP, hD, hS, lv_sub hl [0, 3, 2, 1] rfl, trivial, (by decide), (fun _ _ => rfl), (fun _ _ => rfl), (fun i hi => absurd hi (Nat.not_lt_zero _))⟩
  intro z H locs ls hI ih26
  obtain ⟨j, hA9, hB9, hr9⟩ := z
  obtain ⟨hP, hD, hS, hl, -, hj, hgA, hgB, hno⟩ := hI
  have hP : va_P (dC, dI) cls [(q, .inr (5, fs)), (pa, .inl (cA, 6, .inr (.inl hA9))), (pb, .inl (cB, 6, .inr (.inl hB9))), (rw9, .inl (cR, 5, .inl hr9))] H := hP
  have hD : va_D A [(q, .inr (5, fs)), (pa, .inl (cA, 6, .inr (.inl hA9))), (pb, .inl (cB, 6, .inr (.inl hB9))), (rw9, .inl (cR, 5, .inl hr9))] := hD
  have hl : lv_has ls 6 [(3, .int (nI j)), (2, .int 1), (1, .int (nI put)), (0, .ref q)] := hl
  refine lv_iload_n hx hb dX5_goOn_26 rfl (lv_at hl 0 rfl) ?_
  refine lv_bipush (v := 18) hx hb dX5_goOn_27 (by decide) ?_
  refine lv_icmp_ge (tgt := 145) hx hb dX5_goOn_29 (by decide) (fun b_1 => ?_) (fun b_1 => ?_)
  · refine lv_iconst (v := 0) hx hb dX5_goOn_145 (by decide) ?_
    exact W.zret (v := 0) hx hb hr rfl (fun t ht9 hW => ⟨⟨0, (hA9, hB9, hr9), rfl, ⟨⟨hgA, hgB⟩, Or.inr ⟨rfl, dfs_no (fun i hi => hno i (by have := eq18' hj b_1; omega))⟩⟩, by rw [ht9]; exact hP.sub [0, 1, 2, 3] rfl, va_K.moved hW.alike (hK.sub [] rfl), hD.sub [0, 1, 2, 3] (by decide) rfl⟩, hS.F ht9⟩) hS.2.2 dX5_goOn_146
  · have hj18 : j < 18 := lt18' hj b_1
    refine lv_iload_n hx hb dX5_goOn_32 rfl (lv_at hl 2 rfl) ?_
    refine lv_iconst (v := 5) hx hb dX5_goOn_33 (by decide) ?_
    refine lv_icmp_ge (tgt := 145) hx hb dX5_goOn_34 (by decide) (fun c0 => absurd c0 ((show ¬ nI 5 ≤ nI put from nI_ge (by omega) (by decide)))) (fun _ => ?_)
    refine lv_iload_n hx hb dX5_goOn_37 rfl (lv_at hl 0 rfl) ?_
    refine lv_aload_n hx hb dX5_goOn_38 rfl (lv_at hl 3 rfl) ?_
    refine va_get (D := (dC, dI)) (ci := 5) (v := .ref pa) (C := RX5) (T := TX5) (N := 15) hx hb ht uX5 hown hK hP 0 rfl rfl 12 (by decide) (ht _ k_4_22) (fun _ h9 => h9) K12_fs dX5_goOn_39 ?_
    refine lv_iload_n hx hb dX5_goOn_42 rfl (lv_at hl 2 rfl) ?_
    refine va_lald hx hb hK hP 1 0 rfl rfl (vp_in_nI (by omega) (by decide)) dX5_goOn_43 ?_
    refine tk_l (y := (fA put)) (by rw [nI_clamp (by omega)]; exact hgA put (Nat.le_refl _)) ?_
    refine lv_aload_n hx hb dX5_goOn_44 rfl (lv_at hl 3 rfl) ?_
    refine va_get (D := (dC, dI)) (ci := 5) (v := .ref pb) (C := RX5) (T := TX5) (N := 15) hx hb ht uX5 hown hK hP 0 rfl rfl 13 (by decide) (ht _ k_4_23) (fun _ h9 => h9) K13_fs dX5_goOn_45 ?_
    refine lv_iload_n hx hb dX5_goOn_48 rfl (lv_at hl 2 rfl) ?_
    refine va_lald hx hb hK hP 2 1 rfl rfl (vp_in_nI (by omega) (by decide)) dX5_goOn_49 ?_
    refine tk_l (y := (fB put)) (by rw [nI_clamp (by omega)]; exact hgB put (Nat.le_refl _)) ?_
    refine ca_l (wr := [(q, .inr (5, fs)), (pa, .inl (cA, 6, .inr (.inl hA9))), (pb, .inl (cB, 6, .inr (.inl hB9))), (rw9, .inl (cR, 5, .inl hr9))]) (va_runS (As := [.int (nI j), .long (fA put), .long (fB put)]) (rest := []) ⟨hx, hb, hml, hown, ht⟩ (x_nextA l dC dI H.size j (fA put) (fB put)  hj18) (cwS 3 ht (gdS k_8_233 k_8_231 k_8_232 k_1_15) rfl rfl rfl (by decide +kernel) ⟨Nat.le_of_ble_eq_true rfl, Nat.le_of_ble_eq_true rfl⟩) ⟨pcw_blind, pcw_at hP hD hK [] [] (by decide) rfl rfl rfl⟩ rfl rfl hl.1 rfl (lv_room (Nat.le_of_ble_eq_true rfl)) dX5_goOn_50 ⟨Nat.le_of_ble_eq_true rfl, Nat.le_of_ble_eq_true rfl⟩) hP hD hK hS hA [] [0, 1, 2, 3] rfl rfl (by decide) (by decide) (fun r_2 u H locs w_3 hK hP hD hS => ?_)
    have hK : va_K (dC, dI) cls [(cA, .long), (cB, .long), (cR, .int)] s := hK
    have hP : va_P (dC, dI) cls [(q, .inr (5, fs)), (pa, .inl (cA, 6, .inr (.inl hA9))), (pb, .inl (cB, 6, .inr (.inl hB9))), (rw9, .inl (cR, 5, .inl hr9))] H := hP
    have hD : va_D A [(q, .inr (5, fs)), (pa, .inl (cA, 6, .inr (.inl hA9))), (pb, .inl (cB, 6, .inr (.inl hB9))), (rw9, .inl (cR, 5, .inl hr9))] := hD
    refine lv_lstore (lv' := [(4, .long r_2), (3, .int (nI j)), (2, .int 1), (1, .int (nI put)), (0, .ref q)]) hx hb dX5_goOn_53 hl (by decide) rfl (fun ls hl => ?_)
    refine lv_iload_n hx hb dX5_goOn_55 rfl (lv_at hl 2 rfl) ?_
    refine lv_iconst (v := 1) hx hb dX5_goOn_56 (by decide) ?_
    refine lv_icmp_ne (tgt := 73) hx hb dX5_goOn_57 (by decide) (fun c0 => absurd c0 (by decide)) (fun _ => ?_)
    refine lv_lload hx hb dX5_goOn_60 (lv_at hl 0 rfl) ?_
    refine lv_aload_n hx hb dX5_goOn_62 rfl (lv_at hl 4 rfl) ?_
    refine va_get (D := (dC, dI)) (ci := 5) (v := .long gl) (C := RX5) (T := TX5) (N := 15) hx hb ht uX5 hown hK hP 0 rfl rfl 14 (by decide) (ht _ k_4_24) (fun _ h9 => h9) K14_fs dX5_goOn_63 ?_
    refine W.lcmp hx hb dX5_goOn_66 ?_
    refine lv_if_eq (tgt := 73) hx hb dX5_goOn_67 (by decide) (fun b_4 => ?_) (fun b_4 => ?_)
    · refine lv_aload_n hx hb dX5_goOn_73 rfl (lv_at hl 4 rfl) ?_
      refine va_get (D := (dC, dI)) (ci := 5) (v := .ref pa) (C := RX5) (T := TX5) (N := 15) hx hb ht uX5 hown hK hP 0 rfl rfl 12 (by decide) (ht _ k_4_22) (fun _ h9 => h9) K12_fs dX5_goOn_74 ?_
      refine lv_iload_n hx hb dX5_goOn_77 rfl (lv_at hl 3 rfl) ?_
      refine lv_iconst (v := 1) hx hb dX5_goOn_78 (by decide) ?_
      refine lv_iadd hx hb dX5_goOn_79 ?_
      refine tk_i (y := (nI (put + 1))) (nI_1 put) ?_
      refine lv_lload hx hb dX5_goOn_80 (lv_at hl 0 rfl) ?_
      refine va_last (i := (nI (put + 1))) (x := r_2) hx hb hK hP hD hS 1 0 rfl rfl (vp_in_nI (by omega) (by decide)) dX5_goOn_82 (fun H locs hP hD hS => ?_)
      obtain ⟨f_5, ef_5⟩ : ∃ g : Nat → Int64, g = vp_updL hA9 (nI (put + 1)).toNatClampNeg r_2 := ⟨_, rfl⟩
      rw [← ef_5] at hP hD
      have hP : va_P (dC, dI) cls [(q, .inr (5, fs)), (pa, .inl (cA, 6, .inr (.inl f_5))), (pb, .inl (cB, 6, .inr (.inl hB9))), (rw9, .inl (cR, 5, .inl hr9))] H := hP
      have hD : va_D A [(q, .inr (5, fs)), (pa, .inl (cA, 6, .inr (.inl f_5))), (pb, .inl (cB, 6, .inr (.inl hB9))), (rw9, .inl (cR, 5, .inl hr9))] := hD
      refine lv_aload_n hx hb dX5_goOn_83 rfl (lv_at hl 4 rfl) ?_
      refine va_get (D := (dC, dI)) (ci := 5) (v := .ref pb) (C := RX5) (T := TX5) (N := 15) hx hb ht uX5 hown hK hP 0 rfl rfl 13 (by decide) (ht _ k_4_23) (fun _ h9 => h9) K13_fs dX5_goOn_84 ?_
      refine lv_iload_n hx hb dX5_goOn_87 rfl (lv_at hl 3 rfl) ?_
      refine lv_iconst (v := 1) hx hb dX5_goOn_88 (by decide) ?_
      refine lv_iadd hx hb dX5_goOn_89 ?_
      refine tk_i (y := (nI (put + 1))) (nI_1 put) ?_
      refine lv_iload_n hx hb dX5_goOn_90 rfl (lv_at hl 1 rfl) ?_
      refine lv_aload_n hx hb dX5_goOn_91 rfl (lv_at hl 4 rfl) ?_
      refine va_get (D := (dC, dI)) (ci := 5) (v := .ref pa) (C := RX5) (T := TX5) (N := 15) hx hb ht uX5 hown hK hP 0 rfl rfl 12 (by decide) (ht _ k_4_22) (fun _ h9 => h9) K12_fs dX5_goOn_92 ?_
      refine lv_iload_n hx hb dX5_goOn_95 rfl (lv_at hl 3 rfl) ?_
      refine va_lald hx hb hK hP 1 0 rfl rfl (vp_in_nI (by omega) (by decide)) dX5_goOn_96 ?_
      refine tk_l (y := (fA put)) (by rw [nI_clamp (by omega)]; exact uL_all (by omega) ef_5 hgA put (Nat.le_refl _)) ?_
      refine lv_aload_n hx hb dX5_goOn_97 rfl (lv_at hl 4 rfl) ?_
      refine va_get (D := (dC, dI)) (ci := 5) (v := .ref pb) (C := RX5) (T := TX5) (N := 15) hx hb ht uX5 hown hK hP 0 rfl rfl 13 (by decide) (ht _ k_4_23) (fun _ h9 => h9) K13_fs dX5_goOn_98 ?_
      refine lv_iload_n hx hb dX5_goOn_101 rfl (lv_at hl 3 rfl) ?_
      refine va_lald hx hb hK hP 2 1 rfl rfl (vp_in_nI (by omega) (by decide)) dX5_goOn_102 ?_
      refine tk_l (y := (fB put)) (by rw [nI_clamp (by omega)]; exact hgB put (Nat.le_refl _)) ?_
      refine ca_l (wr := [(q, .inr (5, fs)), (pa, .inl (cA, 6, .inr (.inl f_5))), (pb, .inl (cB, 6, .inr (.inl hB9))), (rw9, .inl (cR, 5, .inl hr9))]) (va_runS (As := [.int (nI j), .long (fA put), .long (fB put)]) (rest := [.int (nI (put + 1)), .ref pb]) ⟨hx, hb, hml, hown, ht⟩ (x_nextB l dC dI H.size j (fA put) (fB put)  hj18) (cwS 3 ht (gdS k_9_10 k_9_8 k_9_9 k_1_15) rfl rfl rfl (by decide +kernel) ⟨Nat.le_of_ble_eq_true rfl, Nat.le_of_ble_eq_true rfl⟩) ⟨pcw_blind, pcw_at hP hD hK [] [] (by decide) rfl rfl rfl⟩ rfl rfl hl.1 rfl (lv_room (Nat.le_of_ble_eq_true rfl)) dX5_goOn_103 ⟨Nat.le_of_ble_eq_true rfl, Nat.le_of_ble_eq_true rfl⟩) hP hD hK hS hA [] [0, 1, 2, 3] rfl rfl (by decide) (by decide) (fun r_6 u H locs w_7 hK hP hD hS => ?_)
      have hK : va_K (dC, dI) cls [(cA, .long), (cB, .long), (cR, .int)] s := hK
      have hP : va_P (dC, dI) cls [(q, .inr (5, fs)), (pa, .inl (cA, 6, .inr (.inl f_5))), (pb, .inl (cB, 6, .inr (.inl hB9))), (rw9, .inl (cR, 5, .inl hr9))] H := hP
      have hD : va_D A [(q, .inr (5, fs)), (pa, .inl (cA, 6, .inr (.inl f_5))), (pb, .inl (cB, 6, .inr (.inl hB9))), (rw9, .inl (cR, 5, .inl hr9))] := hD
      refine va_last (i := (nI (put + 1))) (x := r_6) hx hb hK hP hD hS 2 1 rfl rfl (vp_in_nI (by omega) (by decide)) dX5_goOn_106 (fun H locs hP hD hS => ?_)
      obtain ⟨f_8, ef_8⟩ : ∃ g : Nat → Int64, g = vp_updL hB9 (nI (put + 1)).toNatClampNeg r_6 := ⟨_, rfl⟩
      rw [← ef_8] at hP hD
      have hP : va_P (dC, dI) cls [(q, .inr (5, fs)), (pa, .inl (cA, 6, .inr (.inl f_5))), (pb, .inl (cB, 6, .inr (.inl f_8))), (rw9, .inl (cR, 5, .inl hr9))] H := hP
      have hD : va_D A [(q, .inr (5, fs)), (pa, .inl (cA, 6, .inr (.inl f_5))), (pb, .inl (cB, 6, .inr (.inl f_8))), (rw9, .inl (cR, 5, .inl hr9))] := hD
      refine lv_aload_n hx hb dX5_goOn_107 rfl (lv_at hl 4 rfl) ?_
      refine va_get (D := (dC, dI)) (ci := 5) (v := .ref rw9) (C := RX5) (T := TX5) (N := 15) hx hb ht uX5 hown hK hP 0 rfl rfl 10 (by decide) (ht _ k_4_18) (fun _ h9 => h9) K10_fs dX5_goOn_108 ?_
      refine lv_iload_n hx hb dX5_goOn_111 rfl (lv_at hl 3 rfl) ?_
      refine lv_iload_n hx hb dX5_goOn_112 rfl (lv_at hl 1 rfl) ?_
      refine va_iast (i := (nI put)) (x := (nI j)) hx hb hK hP hD hS 3 2 rfl rfl (vp_in_nI (by omega) (by decide)) dX5_goOn_113 (fun H locs hP hD hS => ?_)
      obtain ⟨f_9, ef_9⟩ : ∃ g : Nat → Int32, g = upd hr9 (nI put).toNatClampNeg (nI j) := ⟨_, rfl⟩
      rw [← ef_9] at hP hD
      have hP : va_P (dC, dI) cls [(q, .inr (5, fs)), (pa, .inl (cA, 6, .inr (.inl f_5))), (pb, .inl (cB, 6, .inr (.inl f_8))), (rw9, .inl (cR, 5, .inl f_9))] H := hP
      have hD : va_D A [(q, .inr (5, fs)), (pa, .inl (cA, 6, .inr (.inl f_5))), (pb, .inl (cB, 6, .inr (.inl f_8))), (rw9, .inl (cR, 5, .inl f_9))] := hD
      have hA1 := uL_all (by omega) ef_5 hgA
      have hB1 := uL_all (by omega) ef_8 hgB
      have hst : (f_5 (put + 1), f_8 (put + 1)) = stp j (fA put, fB put) := by rw [uL_at (by omega) ef_5, uL_at (by omega) ef_8, w_3, w_7]; rfl
      refine lv_aload_n hx hb dX5_goOn_114 rfl (lv_at hl 4 rfl) ?_
      refine lv_iload_n hx hb dX5_goOn_115 rfl (lv_at hl 3 rfl) ?_
      refine lv_iconst (v := 1) hx hb dX5_goOn_116 (by decide) ?_
      refine lv_iadd hx hb dX5_goOn_117 ?_
      refine tk_i (y := (nI (put + 1))) (nI_1 put) ?_
      refine ca_i (wr := [(rw9, .inl (cR, 5, .inl f_9))]) (va_runV (As := [.int (nI (put + 1))]) (rest := []) ⟨hx, hb, hml, hown, ht⟩ (x_came l dC dI H.size q fs rw9 pa pb gl cA cB f_5 f_8 (put + 1) L_fs K10_fs K12_fs K13_fs K14_fs (by omega)) (cwV 1 ht (gdV k_9_14 k_9_11 k_9_13 ks_102 k_1_15) rfl rfl rfl (by decide +kernel) ⟨Nat.le_of_ble_eq_true rfl, Nat.le_of_ble_eq_true rfl⟩) ⟨pcw_blind, va_recv hK hP (ci := 5) (q0 := 0) rfl rfl, pcw_at hP hD hK [0, 1, 2] [0, 1] (by decide) rfl rfl rfl⟩ rfl rfl hl.1 rfl (lv_room (Nat.le_of_ble_eq_true rfl)) dX5_goOn_118 ⟨Nat.le_of_ble_eq_true rfl, Nat.le_of_ble_eq_true rfl⟩) hP hD hK hS hA [0, 1, 2] [3] rfl rfl (by decide) (by decide) (fun r_10 u H locs w_11 hK hP hD hS => ?_)
      have hK : va_K (dC, dI) cls [(cA, .long), (cB, .long), (cR, .int)] s := hK
      have hP : va_P (dC, dI) cls [(rw9, .inl (cR, 5, .inl f_9)), (q, .inr (5, fs)), (pa, .inl (cA, 6, .inr (.inl f_5))), (pb, .inl (cB, 6, .inr (.inl f_8)))] H := hP
      have hD : va_D A [(rw9, .inl (cR, 5, .inl f_9)), (q, .inr (5, fs)), (pa, .inl (cA, 6, .inr (.inl f_5))), (pb, .inl (cB, 6, .inr (.inl f_8)))] := hD
      rcases w_11 with ⟨rfl, n_12⟩ | ⟨rfl, n_12⟩
      · refine lv_if_ne (tgt := 139) hx hb dX5_goOn_121 (by decide) (fun _ => ?_) (fun c0 => absurd c0 (by decide))
        have hnt : ¬ tryOf gl 0 fA fB put j := fun h => h.1 ((try_past hA1 hB1 hst).mp n_12)
        refine lv_iinc (v := (nI (j + 1))) (lv' := [(3, .int (nI (j + 1))), (4, .long r_2), (2, .int 1), (1, .int (nI put)), (0, .ref q)]) hx hb dX5_goOn_139 hl (k := 1) rfl (nI_1 j) (by decide) rfl (fun ls hl => ?_)
        refine lv_goto (tgt := 26) hx hb dX5_goOn_142 (by decide) ?_
        exact ih26 (j + 1, f_5, f_8, f_9) H locs ls (show 18 - (j + 1) < 18 - j by omega) ⟨hP.sub [1, 2, 3, 0] rfl, hD.sub [1, 2, 3, 0] (by decide) rfl, hS, lv_sub hl [0, 2, 3, 4] rfl, trivial, (by omega), hA1, hB1, (tries_step hno hnt)⟩
      · refine lv_if_ne (tgt := 139) hx hb dX5_goOn_121 (by decide) (fun c0 => absurd c0 (by decide)) (fun _ => ?_)
        refine lv_aload_n hx hb dX5_goOn_124 rfl (lv_at hl 4 rfl) ?_
        refine lv_iload_n hx hb dX5_goOn_125 rfl (lv_at hl 3 rfl) ?_
        refine lv_iconst (v := 1) hx hb dX5_goOn_126 (by decide) ?_
        refine lv_iadd hx hb dX5_goOn_127 ?_
        refine tk_i (y := (nI (put + 1))) (nI_1 put) ?_
        refine lv_iload_n hx hb dX5_goOn_128 rfl (lv_at hl 2 rfl) ?_
        refine lv_iconst (v := 1) hx hb dX5_goOn_129 (by decide) ?_
        refine lv_isub hx hb dX5_goOn_130 ?_
        refine tk_i (y := 0) (by decide) ?_
        refine ca_i (wr := []) (va_runV (As := [.int (nI (put + 1)), .int 0]) (rest := []) ⟨hx, hb, hml, hown, ht⟩ (x_goOn_0 l dC dI H.size q fs rw9 pa pb gl cA cB f_5 f_8 cR f_9 (put + 1) L_fs K10_fs K12_fs K13_fs K14_fs (by omega)) (cwV 2 ht (gdV k_8_230 k_8_227 k_8_229 ks_101 k_1_15) rfl rfl rfl (by decide +kernel) ⟨Nat.le_of_ble_eq_true rfl, Nat.le_of_ble_eq_true rfl⟩) ⟨pcw_blind, va_recv hK hP (ci := 5) (q0 := 1) rfl rfl, pcw_at hP hD hK [1, 2, 3, 0] [0, 1, 2] (by decide) rfl rfl rfl⟩ rfl rfl hl.1 rfl (lv_room (Nat.le_of_ble_eq_true rfl)) dX5_goOn_131 ⟨Nat.le_of_ble_eq_true rfl, Nat.le_of_ble_eq_true rfl⟩) hP hD hK hS hA [1, 2, 3, 0] [] rfl rfl (by decide) (by decide) (fun r_13 u H locs w_14 hK hP hD hS => ?_)
        obtain ⟨y_15, y_16, y_17⟩ := u
        have hK : va_K (dC, dI) cls [(cA, .long), (cB, .long), (cR, .int)] s := hK
        have hP : va_P (dC, dI) cls [(q, .inr (5, fs)), (pa, .inl (cA, 6, .inr (.inl y_15))), (pb, .inl (cB, 6, .inr (.inl y_16))), (rw9, .inl (cR, 5, .inl y_17))] H := hP
        have hD : va_D A [(q, .inr (5, fs)), (pa, .inl (cA, 6, .inr (.inl y_15))), (pb, .inl (cB, 6, .inr (.inl y_16))), (rw9, .inl (cR, 5, .inl y_17))] := hD
        obtain ⟨⟨hA2, hB2⟩, w_14⟩ := w_14
        have hA3 : ∀ i, i ≤ put → y_15 i = fA i := fun i hi => (hA2 i (by omega)).trans (hA1 i hi)
        have hB3 : ∀ i, i ≤ put → y_16 i = fB i := fun i hi => (hB2 i (by omega)).trans (hB1 i hi)
        rcases w_14 with ⟨rfl, n_18⟩ | ⟨rfl, n_18⟩
        · refine lv_if_eq (tgt := 139) hx hb dX5_goOn_134 (by decide) (fun c0 => absurd c0 (by decide)) (fun _ => ?_)
          refine lv_iconst (v := 1) hx hb dX5_goOn_137 (by decide) ?_
          exact W.zret (v := 1) hx hb hr rfl (fun t ht9 hW => ⟨⟨1, (y_15, y_16, y_17), rfl, ⟨⟨hA3, hB3⟩, Or.inl ⟨rfl, dfs_yes hj18 ⟨fun h => n_12 ((try_past hA1 hB1 hst).mpr h), (try_dfs hA1 hB1 hst).mp n_18⟩⟩⟩, by rw [ht9]; exact hP.sub [0, 1, 2, 3] rfl, va_K.moved hW.alike (hK.sub [] rfl), hD.sub [0, 1, 2, 3] (by decide) rfl⟩, hS.F ht9⟩) hS.2.2 dX5_goOn_138
        · refine lv_if_eq (tgt := 139) hx hb dX5_goOn_134 (by decide) (fun _ => ?_) (fun c0 => absurd c0 (by decide))
          have hnt : ¬ tryOf gl 0 fA fB put j := fun h => n_18 ((try_dfs hA1 hB1 hst).mpr h.2)
          refine lv_iinc (v := (nI (j + 1))) (lv' := [(3, .int (nI (j + 1))), (4, .long r_2), (2, .int 1), (1, .int (nI put)), (0, .ref q)]) hx hb dX5_goOn_139 hl (k := 1) rfl (nI_1 j) (by decide) rfl (fun ls hl => ?_)
          refine lv_goto (tgt := 26) hx hb dX5_goOn_142 (by decide) ?_
          exact ih26 (j + 1, y_15, y_16, y_17) H locs ls (show 18 - (j + 1) < 18 - j by omega) ⟨hP.sub [0, 1, 2, 3] rfl, hD.sub [0, 1, 2, 3] (by decide) rfl, hS, lv_sub hl [0, 2, 3, 4] rfl, trivial, (by omega), hA3, hB3, (tries_step hno hnt)⟩
    · refine lv_goto (tgt := 139) hx hb dX5_goOn_70 (by decide) ?_
      have hnt : ¬ tryOf gl 0 fA fB put j := fun h => b_4 ((lg_cmp_eq _ _).mpr (w_3.trans h.2))
      refine lv_iinc (v := (nI (j + 1))) (lv' := [(3, .int (nI (j + 1))), (4, .long r_2), (2, .int 1), (1, .int (nI put)), (0, .ref q)]) hx hb dX5_goOn_139 hl (k := 1) rfl (nI_1 j) (by decide) rfl (fun ls hl => ?_)
      refine lv_goto (tgt := 26) hx hb dX5_goOn_142 (by decide) ?_
      exact ih26 (j + 1, hA9, hB9, hr9) H locs ls (show 18 - (j + 1) < 18 - j by omega) ⟨hP.sub [0, 1, 2, 3] rfl, hD.sub [0, 1, 2, 3] (by decide) rfl, hS, lv_sub hl [0, 2, 3, 4] rfl, trivial, (by omega), hgA, hgB, (tries_step hno hnt)⟩
set_option maxHeartbeats 4000000 in
set_option maxRecDepth 100000 in
theorem x_goOn_2 (l : Launch) (dC : Nat → ClassId) (dI : Nat → Nat → Nat) (sz : Nat) (q : Nat) (fs : List Value) (rw9 : Nat) (pa : Nat) (pb : Nat) (gl : Int64) (cA : ClassId) (cB : ClassId) (fA : Nat → Int64) (fB : Nat → Int64) (cR : ClassId) (fr : Nat → Int32) (put : Nat) (L_fs : fs.length = 15) (K10_fs : fs[10]? = some (.ref rw9)) (K12_fs : fs[12]? = some (.ref pa)) (K13_fs : fs[13]? = some (.ref pb)) (K14_fs : fs[14]? = some (.long gl)) (hput : put + 2 ≤ 5) : Met l yX5_goOn (Cond.code yX5_goOn cX5_goOn 6 (some .boolean) :: tb) ({ frames := 6, cells := 0, slots := 0, locals := 169 }) (pcw [.ref q, .int (nI put), .int 2] (dC, dI) [(q, .inr (5, fs)), (pa, .inl (cA, 6, .inr (.inl fA))), (pb, .inl (cB, 6, .inr (.inl fB))), (rw9, .inl (cR, 5, .inl fr))] [(cA, .long), (cB, .long), (cR, .int)] sz) (va_Qi (fun (r : Int32) => (fun (u : (Nat → Int64) × (Nat → Int64) × (Nat → Int32)) => match u with | (gA, gB, gr) => ((∀ i, i ≤ put → gA i = fA i) ∧ (∀ i, i ≤ put → gB i = fB i)) ∧ ((r = 1 ∧ dfs gl 2 (pastOf fA fB put) (fA put, fB put)) ∨ (r = 0 ∧ ¬ dfs gl 2 (pastOf fA fB put) (fA put, fB put))))) (bw (dC, dI) (va_A [(q, .inr (5, fs)), (pa, .inl (cA, 6, .inr (.inl fA))), (pb, .inl (cB, 6, .inr (.inl fB))), (rw9, .inl (cR, 5, .inl fr))] sz) (fun (u : (Nat → Int64) × (Nat → Int64) × (Nat → Int32)) => match u with | (gA, gB, gr) => [(q, .inr (5, fs)), (pa, .inl (cA, 6, .inr (.inl gA))), (pb, .inl (cB, 6, .inr (.inl gB))), (rw9, .inl (cR, 5, .inl gr))]) (fun (u : (Nat → Int64) × (Nat → Int64) × (Nat → Int32)) => match u with | (gA, gB, gr) => [])) (va_A [(q, .inr (5, fs)), (pa, .inl (cA, 6, .inr (.inl fA))), (pb, .inl (cB, 6, .inr (.inl fB))), (rw9, .inl (cR, 5, .inl fr))] sz)) 0 0 (va_A [(q, .inr (5, fs)), (pa, .inl (cA, 6, .inr (.inl fA))), (pb, .inl (cB, 6, .inr (.inl fB))), (rw9, .inl (cR, 5, .inl fr))] sz) := by
  refine Met.ofW (cc := cX5_goOn) (maxL := 6) (ret := (some .boolean)) (by decide) rfl ?_
  intro p e s m args below meth c s₁ B hml hv
  obtain ⟨rfl, hsz, hP, hK, hD0⟩ := hv
  have hx := B.exec
  have hb := B.bytes
  have hr := B.returns
  have hts := atoms_spec (ws := Cond.code yX5_goOn cX5_goOn 6 (some .boolean) :: tb) B.pre
  have ht : ∀ w ∈ tb, w.before _ s = true := fun w h => hts w (List.mem_cons_of_mem _ h)
  have hown : s.vm.findClass RX5 = some m.cls := findClass_of_methodNamed B.named
  have hlocks := B.notSynchronized
  subst hsz
  have hD := hD0.self (sz := s.heap.size)
  generalize hAe : va_A [(q, .inr (5, fs)), (pa, .inl (cA, 6, .inr (.inl fA))), (pb, .inl (cB, 6, .inr (.inl fB))), (rw9, .inl (cR, 5, .inl fr))] s.heap.size = A at hD ⊢
  have hA : ∀ q : Nat, s.heap.size ≤ q → A q := fun q h => by rw [← hAe]; exact Or.inr h
  have hS : va_S A s.heap s.heap [] := va_S.rf
  have hl := lv_entry ([.ref q, .int (nI put), .int 2]) (n := 6) (Nat.le_of_ble_eq_true rfl)
  rw [lg_entry_eq]
  generalize (lg_sl ([.ref q, .int (nI put), .int 2]) ++ List.replicate (6 - (lg_sl ([.ref q, .int (nI put), .int 2])).length) Slot.unset).toArray = ls at hl ⊢
  have hl : lv_has ls 6 [(0, .ref q), (1, .int (nI put)), (2, .int 2)] := hl
  have hP : va_P (dC, dI) cls [(q, .inr (5, fs)), (pa, .inl (cA, 6, .inr (.inl fA))), (pb, .inl (cB, 6, .inr (.inl fB))), (rw9, .inl (cR, 5, .inl fr))] s.heap := hP
  refine lv_iload_n hx hb dX5_goOn_0 rfl (lv_at hl 2 rfl) ?_
  refine lv_if_ne (tgt := 24) hx hb dX5_goOn_1 (by decide) (fun _ => ?_) (fun c0 => absurd c0 (by decide))
  refine lv_iconst (v := 0) hx hb dX5_goOn_24 (by decide) ?_
  refine lv_istore_n (lv' := [(3, .int 0), (0, .ref q), (1, .int (nI put)), (2, .int 2)]) hx hb dX5_goOn_25 rfl hl (by decide) rfl (fun ls hl => ?_)
  refine lp_rule (fun H locs ls => W p l e _ s m _ below meth c H locs _ _ _ (F0 m 26 ls [])) (fun (z : Nat × (Nat → Int64) × (Nat → Int64) × (Nat → Int32)) H locs ls => match z with | (j, hA9, hB9, hr9) => va_P (dC, dI) cls [(q, .inr (5, fs)), (pa, .inl (cA, 6, .inr (.inl hA9))), (pb, .inl (cB, 6, .inr (.inl hB9))), (rw9, .inl (cR, 5, .inl hr9))] H ∧ va_D A [(q, .inr (5, fs)), (pa, .inl (cA, 6, .inr (.inl hA9))), (pb, .inl (cB, 6, .inr (.inl hB9))), (rw9, .inl (cR, 5, .inl hr9))] ∧ va_S A s.heap H locs ∧ lv_has ls 6 [(3, .int (nI j)), (2, .int 2), (1, .int (nI put)), (0, .ref q)] ∧ True ∧ j ≤ 18 ∧ (∀ i, i ≤ put → hA9 i = fA i) ∧ (∀ i, i ≤ put → hB9 i = fB i) ∧ ∀ i, i < j → ¬ tryOf gl 1 fA fB put i) (fun (z : Nat × (Nat → Int64) × (Nat → Int64) × (Nat → Int32)) => match z with | (j, hA9, hB9, hr9) => 18 - j) ?_ (0, fA, fB, fr) s.heap [] ls ⟨hP, hD, hS, lv_sub hl [0, 3, 2, 1] rfl, trivial, (by decide), (fun _ _ => rfl), (fun _ _ => rfl), (fun i hi => absurd hi (Nat.not_lt_zero _))⟩
  intro z H locs ls hI ih26
  obtain ⟨j, hA9, hB9, hr9⟩ := z
  obtain ⟨hP, hD, hS, hl, -, hj, hgA, hgB, hno⟩ := hI
  have hP : va_P (dC, dI) cls [(q, .inr (5, fs)), (pa, .inl (cA, 6, .inr (.inl hA9))), (pb, .inl (cB, 6, .inr (.inl hB9))), (rw9, .inl (cR, 5, .inl hr9))] H := hP
  have hD : va_D A [(q, .inr (5, fs)), (pa, .inl (cA, 6, .inr (.inl hA9))), (pb, .inl (cB, 6, .inr (.inl hB9))), (rw9, .inl (cR, 5, .inl hr9))] := hD
  have hl : lv_has ls 6 [(3, .int (nI j)), (2, .int 2), (1, .int (nI put)), (0, .ref q)] := hl
  refine lv_iload_n hx hb dX5_goOn_26 rfl (lv_at hl 0 rfl) ?_
  refine lv_bipush (v := 18) hx hb dX5_goOn_27 (by decide) ?_
  refine lv_icmp_ge (tgt := 145) hx hb dX5_goOn_29 (by decide) (fun b_1 => ?_) (fun b_1 => ?_)
  · refine lv_iconst (v := 0) hx hb dX5_goOn_145 (by decide) ?_
    exact W.zret (v := 0) hx hb hr rfl (fun t ht9 hW => ⟨⟨0, (hA9, hB9, hr9), rfl, ⟨⟨hgA, hgB⟩, Or.inr ⟨rfl, dfs_no (fun i hi => hno i (by have := eq18' hj b_1; omega))⟩⟩, by rw [ht9]; exact hP.sub [0, 1, 2, 3] rfl, va_K.moved hW.alike (hK.sub [] rfl), hD.sub [0, 1, 2, 3] (by decide) rfl⟩, hS.F ht9⟩) hS.2.2 dX5_goOn_146
  · have hj18 : j < 18 := lt18' hj b_1
    refine lv_iload_n hx hb dX5_goOn_32 rfl (lv_at hl 2 rfl) ?_
    refine lv_iconst (v := 5) hx hb dX5_goOn_33 (by decide) ?_
    refine lv_icmp_ge (tgt := 145) hx hb dX5_goOn_34 (by decide) (fun c0 => absurd c0 ((show ¬ nI 5 ≤ nI put from nI_ge (by omega) (by decide)))) (fun _ => ?_)
    refine lv_iload_n hx hb dX5_goOn_37 rfl (lv_at hl 0 rfl) ?_
    refine lv_aload_n hx hb dX5_goOn_38 rfl (lv_at hl 3 rfl) ?_
    refine va_get (D := (dC, dI)) (ci := 5) (v := .ref pa) (C := RX5) (T := TX5) (N := 15) hx hb ht uX5 hown hK hP 0 rfl rfl 12 (by decide) (ht _ k_4_22) (fun _ h9 => h9) K12_fs dX5_goOn_39 ?_
    refine lv_iload_n hx hb dX5_goOn_42 rfl (lv_at hl 2 rfl) ?_
    refine va_lald hx hb hK hP 1 0 rfl rfl (vp_in_nI (by omega) (by decide)) dX5_goOn_43 ?_
    refine tk_l (y := (fA put)) (by rw [nI_clamp (by omega)]; exact hgA put (Nat.le_refl _)) ?_
    refine lv_aload_n hx hb dX5_goOn_44 rfl (lv_at hl 3 rfl) ?_
    refine va_get (D := (dC, dI)) (ci := 5) (v := .ref pb) (C := RX5) (T := TX5) (N := 15) hx hb ht uX5 hown hK hP 0 rfl rfl 13 (by decide) (ht _ k_4_23) (fun _ h9 => h9) K13_fs dX5_goOn_45 ?_
    refine lv_iload_n hx hb dX5_goOn_48 rfl (lv_at hl 2 rfl) ?_
    refine va_lald hx hb hK hP 2 1 rfl rfl (vp_in_nI (by omega) (by decide)) dX5_goOn_49 ?_
    refine tk_l (y := (fB put)) (by rw [nI_clamp (by omega)]; exact hgB put (Nat.le_refl _)) ?_
    refine ca_l (wr := [(q, .inr (5, fs)), (pa, .inl (cA, 6, .inr (.inl hA9))), (pb, .inl (cB, 6, .inr (.inl hB9))), (rw9, .inl (cR, 5, .inl hr9))]) (va_runS (As := [.int (nI j), .long (fA put), .long (fB put)]) (rest := []) ⟨hx, hb, hml, hown, ht⟩ (x_nextA l dC dI H.size j (fA put) (fB put)  hj18) (cwS 3 ht (gdS k_8_233 k_8_231 k_8_232 k_1_15) rfl rfl rfl (by decide +kernel) ⟨Nat.le_of_ble_eq_true rfl, Nat.le_of_ble_eq_true rfl⟩) ⟨pcw_blind, pcw_at hP hD hK [] [] (by decide) rfl rfl rfl⟩ rfl rfl hl.1 rfl (lv_room (Nat.le_of_ble_eq_true rfl)) dX5_goOn_50 ⟨Nat.le_of_ble_eq_true rfl, Nat.le_of_ble_eq_true rfl⟩) hP hD hK hS hA [] [0, 1, 2, 3] rfl rfl (by decide) (by decide) (fun r_2 u H locs w_3 hK hP hD hS => ?_)
    have hK : va_K (dC, dI) cls [(cA, .long), (cB, .long), (cR, .int)] s := hK
    have hP : va_P (dC, dI) cls [(q, .inr (5, fs)), (pa, .inl (cA, 6, .inr (.inl hA9))), (pb, .inl (cB, 6, .inr (.inl hB9))), (rw9, .inl (cR, 5, .inl hr9))] H := hP
    have hD : va_D A [(q, .inr (5, fs)), (pa, .inl (cA, 6, .inr (.inl hA9))), (pb, .inl (cB, 6, .inr (.inl hB9))), (rw9, .inl (cR, 5, .inl hr9))] := hD
    refine lv_lstore (lv' := [(4, .long r_2), (3, .int (nI j)), (2, .int 2), (1, .int (nI put)), (0, .ref q)]) hx hb dX5_goOn_53 hl (by decide) rfl (fun ls hl => ?_)
    refine lv_iload_n hx hb dX5_goOn_55 rfl (lv_at hl 2 rfl) ?_
    refine lv_iconst (v := 1) hx hb dX5_goOn_56 (by decide) ?_
    refine lv_icmp_ne (tgt := 73) hx hb dX5_goOn_57 (by decide) (fun _ => ?_) (fun c0 => absurd c0 (by decide))
    refine lv_aload_n hx hb dX5_goOn_73 rfl (lv_at hl 4 rfl) ?_
    refine va_get (D := (dC, dI)) (ci := 5) (v := .ref pa) (C := RX5) (T := TX5) (N := 15) hx hb ht uX5 hown hK hP 0 rfl rfl 12 (by decide) (ht _ k_4_22) (fun _ h9 => h9) K12_fs dX5_goOn_74 ?_
    refine lv_iload_n hx hb dX5_goOn_77 rfl (lv_at hl 3 rfl) ?_
    refine lv_iconst (v := 1) hx hb dX5_goOn_78 (by decide) ?_
    refine lv_iadd hx hb dX5_goOn_79 ?_
    refine tk_i (y := (nI (put + 1))) (nI_1 put) ?_
    refine lv_lload hx hb dX5_goOn_80 (lv_at hl 0 rfl) ?_
    refine va_last (i := (nI (put + 1))) (x := r_2) hx hb hK hP hD hS 1 0 rfl rfl (vp_in_nI (by omega) (by decide)) dX5_goOn_82 (fun H locs hP hD hS => ?_)
    obtain ⟨f_4, ef_4⟩ : ∃ g : Nat → Int64, g = vp_updL hA9 (nI (put + 1)).toNatClampNeg r_2 := ⟨_, rfl⟩
    rw [← ef_4] at hP hD
    have hP : va_P (dC, dI) cls [(q, .inr (5, fs)), (pa, .inl (cA, 6, .inr (.inl f_4))), (pb, .inl (cB, 6, .inr (.inl hB9))), (rw9, .inl (cR, 5, .inl hr9))] H := hP
    have hD : va_D A [(q, .inr (5, fs)), (pa, .inl (cA, 6, .inr (.inl f_4))), (pb, .inl (cB, 6, .inr (.inl hB9))), (rw9, .inl (cR, 5, .inl hr9))] := hD
    refine lv_aload_n hx hb dX5_goOn_83 rfl (lv_at hl 4 rfl) ?_
    refine va_get (D := (dC, dI)) (ci := 5) (v := .ref pb) (C := RX5) (T := TX5) (N := 15) hx hb ht uX5 hown hK hP 0 rfl rfl 13 (by decide) (ht _ k_4_23) (fun _ h9 => h9) K13_fs dX5_goOn_84 ?_
    refine lv_iload_n hx hb dX5_goOn_87 rfl (lv_at hl 3 rfl) ?_
    refine lv_iconst (v := 1) hx hb dX5_goOn_88 (by decide) ?_
    refine lv_iadd hx hb dX5_goOn_89 ?_
    refine tk_i (y := (nI (put + 1))) (nI_1 put) ?_
    refine lv_iload_n hx hb dX5_goOn_90 rfl (lv_at hl 1 rfl) ?_
    refine lv_aload_n hx hb dX5_goOn_91 rfl (lv_at hl 4 rfl) ?_
    refine va_get (D := (dC, dI)) (ci := 5) (v := .ref pa) (C := RX5) (T := TX5) (N := 15) hx hb ht uX5 hown hK hP 0 rfl rfl 12 (by decide) (ht _ k_4_22) (fun _ h9 => h9) K12_fs dX5_goOn_92 ?_
    refine lv_iload_n hx hb dX5_goOn_95 rfl (lv_at hl 3 rfl) ?_
    refine va_lald hx hb hK hP 1 0 rfl rfl (vp_in_nI (by omega) (by decide)) dX5_goOn_96 ?_
    refine tk_l (y := (fA put)) (by rw [nI_clamp (by omega)]; exact uL_all (by omega) ef_4 hgA put (Nat.le_refl _)) ?_
    refine lv_aload_n hx hb dX5_goOn_97 rfl (lv_at hl 4 rfl) ?_
    refine va_get (D := (dC, dI)) (ci := 5) (v := .ref pb) (C := RX5) (T := TX5) (N := 15) hx hb ht uX5 hown hK hP 0 rfl rfl 13 (by decide) (ht _ k_4_23) (fun _ h9 => h9) K13_fs dX5_goOn_98 ?_
    refine lv_iload_n hx hb dX5_goOn_101 rfl (lv_at hl 3 rfl) ?_
    refine va_lald hx hb hK hP 2 1 rfl rfl (vp_in_nI (by omega) (by decide)) dX5_goOn_102 ?_
    refine tk_l (y := (fB put)) (by rw [nI_clamp (by omega)]; exact hgB put (Nat.le_refl _)) ?_
    refine ca_l (wr := [(q, .inr (5, fs)), (pa, .inl (cA, 6, .inr (.inl f_4))), (pb, .inl (cB, 6, .inr (.inl hB9))), (rw9, .inl (cR, 5, .inl hr9))]) (va_runS (As := [.int (nI j), .long (fA put), .long (fB put)]) (rest := [.int (nI (put + 1)), .ref pb]) ⟨hx, hb, hml, hown, ht⟩ (x_nextB l dC dI H.size j (fA put) (fB put)  hj18) (cwS 3 ht (gdS k_9_10 k_9_8 k_9_9 k_1_15) rfl rfl rfl (by decide +kernel) ⟨Nat.le_of_ble_eq_true rfl, Nat.le_of_ble_eq_true rfl⟩) ⟨pcw_blind, pcw_at hP hD hK [] [] (by decide) rfl rfl rfl⟩ rfl rfl hl.1 rfl (lv_room (Nat.le_of_ble_eq_true rfl)) dX5_goOn_103 ⟨Nat.le_of_ble_eq_true rfl, Nat.le_of_ble_eq_true rfl⟩) hP hD hK hS hA [] [0, 1, 2, 3] rfl rfl (by decide) (by decide) (fun r_5 u H locs w_6 hK hP hD hS => ?_)
    have hK : va_K (dC, dI) cls [(cA, .long), (cB, .long), (cR, .int)] s := hK
    have hP : va_P (dC, dI) cls [(q, .inr (5, fs)), (pa, .inl (cA, 6, .inr (.inl f_4))), (pb, .inl (cB, 6, .inr (.inl hB9))), (rw9, .inl (cR, 5, .inl hr9))] H := hP
    have hD : va_D A [(q, .inr (5, fs)), (pa, .inl (cA, 6, .inr (.inl f_4))), (pb, .inl (cB, 6, .inr (.inl hB9))), (rw9, .inl (cR, 5, .inl hr9))] := hD
    refine va_last (i := (nI (put + 1))) (x := r_5) hx hb hK hP hD hS 2 1 rfl rfl (vp_in_nI (by omega) (by decide)) dX5_goOn_106 (fun H locs hP hD hS => ?_)
    obtain ⟨f_7, ef_7⟩ : ∃ g : Nat → Int64, g = vp_updL hB9 (nI (put + 1)).toNatClampNeg r_5 := ⟨_, rfl⟩
    rw [← ef_7] at hP hD
    have hP : va_P (dC, dI) cls [(q, .inr (5, fs)), (pa, .inl (cA, 6, .inr (.inl f_4))), (pb, .inl (cB, 6, .inr (.inl f_7))), (rw9, .inl (cR, 5, .inl hr9))] H := hP
    have hD : va_D A [(q, .inr (5, fs)), (pa, .inl (cA, 6, .inr (.inl f_4))), (pb, .inl (cB, 6, .inr (.inl f_7))), (rw9, .inl (cR, 5, .inl hr9))] := hD
    refine lv_aload_n hx hb dX5_goOn_107 rfl (lv_at hl 4 rfl) ?_
    refine va_get (D := (dC, dI)) (ci := 5) (v := .ref rw9) (C := RX5) (T := TX5) (N := 15) hx hb ht uX5 hown hK hP 0 rfl rfl 10 (by decide) (ht _ k_4_18) (fun _ h9 => h9) K10_fs dX5_goOn_108 ?_
    refine lv_iload_n hx hb dX5_goOn_111 rfl (lv_at hl 3 rfl) ?_
    refine lv_iload_n hx hb dX5_goOn_112 rfl (lv_at hl 1 rfl) ?_
    refine va_iast (i := (nI put)) (x := (nI j)) hx hb hK hP hD hS 3 2 rfl rfl (vp_in_nI (by omega) (by decide)) dX5_goOn_113 (fun H locs hP hD hS => ?_)
    obtain ⟨f_8, ef_8⟩ : ∃ g : Nat → Int32, g = upd hr9 (nI put).toNatClampNeg (nI j) := ⟨_, rfl⟩
    rw [← ef_8] at hP hD
    have hP : va_P (dC, dI) cls [(q, .inr (5, fs)), (pa, .inl (cA, 6, .inr (.inl f_4))), (pb, .inl (cB, 6, .inr (.inl f_7))), (rw9, .inl (cR, 5, .inl f_8))] H := hP
    have hD : va_D A [(q, .inr (5, fs)), (pa, .inl (cA, 6, .inr (.inl f_4))), (pb, .inl (cB, 6, .inr (.inl f_7))), (rw9, .inl (cR, 5, .inl f_8))] := hD
    have hA1 := uL_all (by omega) ef_4 hgA
    have hB1 := uL_all (by omega) ef_7 hgB
    have hst : (f_4 (put + 1), f_7 (put + 1)) = stp j (fA put, fB put) := by rw [uL_at (by omega) ef_4, uL_at (by omega) ef_7, w_3, w_6]; rfl
    refine lv_aload_n hx hb dX5_goOn_114 rfl (lv_at hl 4 rfl) ?_
    refine lv_iload_n hx hb dX5_goOn_115 rfl (lv_at hl 3 rfl) ?_
    refine lv_iconst (v := 1) hx hb dX5_goOn_116 (by decide) ?_
    refine lv_iadd hx hb dX5_goOn_117 ?_
    refine tk_i (y := (nI (put + 1))) (nI_1 put) ?_
    refine ca_i (wr := [(rw9, .inl (cR, 5, .inl f_8))]) (va_runV (As := [.int (nI (put + 1))]) (rest := []) ⟨hx, hb, hml, hown, ht⟩ (x_came l dC dI H.size q fs rw9 pa pb gl cA cB f_4 f_7 (put + 1) L_fs K10_fs K12_fs K13_fs K14_fs (by omega)) (cwV 1 ht (gdV k_9_14 k_9_11 k_9_13 ks_102 k_1_15) rfl rfl rfl (by decide +kernel) ⟨Nat.le_of_ble_eq_true rfl, Nat.le_of_ble_eq_true rfl⟩) ⟨pcw_blind, va_recv hK hP (ci := 5) (q0 := 0) rfl rfl, pcw_at hP hD hK [0, 1, 2] [0, 1] (by decide) rfl rfl rfl⟩ rfl rfl hl.1 rfl (lv_room (Nat.le_of_ble_eq_true rfl)) dX5_goOn_118 ⟨Nat.le_of_ble_eq_true rfl, Nat.le_of_ble_eq_true rfl⟩) hP hD hK hS hA [0, 1, 2] [3] rfl rfl (by decide) (by decide) (fun r_9 u H locs w_10 hK hP hD hS => ?_)
    have hK : va_K (dC, dI) cls [(cA, .long), (cB, .long), (cR, .int)] s := hK
    have hP : va_P (dC, dI) cls [(rw9, .inl (cR, 5, .inl f_8)), (q, .inr (5, fs)), (pa, .inl (cA, 6, .inr (.inl f_4))), (pb, .inl (cB, 6, .inr (.inl f_7)))] H := hP
    have hD : va_D A [(rw9, .inl (cR, 5, .inl f_8)), (q, .inr (5, fs)), (pa, .inl (cA, 6, .inr (.inl f_4))), (pb, .inl (cB, 6, .inr (.inl f_7)))] := hD
    rcases w_10 with ⟨rfl, n_11⟩ | ⟨rfl, n_11⟩
    · refine lv_if_ne (tgt := 139) hx hb dX5_goOn_121 (by decide) (fun _ => ?_) (fun c0 => absurd c0 (by decide))
      have hnt : ¬ tryOf gl 1 fA fB put j := fun h => h.1 ((try_past hA1 hB1 hst).mp n_11)
      refine lv_iinc (v := (nI (j + 1))) (lv' := [(3, .int (nI (j + 1))), (4, .long r_2), (2, .int 2), (1, .int (nI put)), (0, .ref q)]) hx hb dX5_goOn_139 hl (k := 1) rfl (nI_1 j) (by decide) rfl (fun ls hl => ?_)
      refine lv_goto (tgt := 26) hx hb dX5_goOn_142 (by decide) ?_
      exact ih26 (j + 1, f_4, f_7, f_8) H locs ls (show 18 - (j + 1) < 18 - j by omega) ⟨hP.sub [1, 2, 3, 0] rfl, hD.sub [1, 2, 3, 0] (by decide) rfl, hS, lv_sub hl [0, 2, 3, 4] rfl, trivial, (by omega), hA1, hB1, (tries_step hno hnt)⟩
    · refine lv_if_ne (tgt := 139) hx hb dX5_goOn_121 (by decide) (fun c0 => absurd c0 (by decide)) (fun _ => ?_)
      refine lv_aload_n hx hb dX5_goOn_124 rfl (lv_at hl 4 rfl) ?_
      refine lv_iload_n hx hb dX5_goOn_125 rfl (lv_at hl 3 rfl) ?_
      refine lv_iconst (v := 1) hx hb dX5_goOn_126 (by decide) ?_
      refine lv_iadd hx hb dX5_goOn_127 ?_
      refine tk_i (y := (nI (put + 1))) (nI_1 put) ?_
      refine lv_iload_n hx hb dX5_goOn_128 rfl (lv_at hl 2 rfl) ?_
      refine lv_iconst (v := 1) hx hb dX5_goOn_129 (by decide) ?_
      refine lv_isub hx hb dX5_goOn_130 ?_
      refine tk_i (y := 1) (by decide) ?_
      refine ca_i (wr := []) (va_runV (As := [.int (nI (put + 1)), .int 1]) (rest := []) ⟨hx, hb, hml, hown, ht⟩ (x_goOn_1 l dC dI H.size q fs rw9 pa pb gl cA cB f_4 f_7 cR f_8 (put + 1) L_fs K10_fs K12_fs K13_fs K14_fs (by omega)) (cwV 2 ht (gdV k_8_230 k_8_227 k_8_229 ks_101 k_1_15) rfl rfl rfl (by decide +kernel) ⟨Nat.le_of_ble_eq_true rfl, Nat.le_of_ble_eq_true rfl⟩) ⟨pcw_blind, va_recv hK hP (ci := 5) (q0 := 1) rfl rfl, pcw_at hP hD hK [1, 2, 3, 0] [0, 1, 2] (by decide) rfl rfl rfl⟩ rfl rfl hl.1 rfl (lv_room (Nat.le_of_ble_eq_true rfl)) dX5_goOn_131 ⟨Nat.le_of_ble_eq_true rfl, Nat.le_of_ble_eq_true rfl⟩) hP hD hK hS hA [1, 2, 3, 0] [] rfl rfl (by decide) (by decide) (fun r_12 u H locs w_13 hK hP hD hS => ?_)
      obtain ⟨y_14, y_15, y_16⟩ := u
      have hK : va_K (dC, dI) cls [(cA, .long), (cB, .long), (cR, .int)] s := hK
      have hP : va_P (dC, dI) cls [(q, .inr (5, fs)), (pa, .inl (cA, 6, .inr (.inl y_14))), (pb, .inl (cB, 6, .inr (.inl y_15))), (rw9, .inl (cR, 5, .inl y_16))] H := hP
      have hD : va_D A [(q, .inr (5, fs)), (pa, .inl (cA, 6, .inr (.inl y_14))), (pb, .inl (cB, 6, .inr (.inl y_15))), (rw9, .inl (cR, 5, .inl y_16))] := hD
      obtain ⟨⟨hA2, hB2⟩, w_13⟩ := w_13
      have hA3 : ∀ i, i ≤ put → y_14 i = fA i := fun i hi => (hA2 i (by omega)).trans (hA1 i hi)
      have hB3 : ∀ i, i ≤ put → y_15 i = fB i := fun i hi => (hB2 i (by omega)).trans (hB1 i hi)
      rcases w_13 with ⟨rfl, n_17⟩ | ⟨rfl, n_17⟩
      · refine lv_if_eq (tgt := 139) hx hb dX5_goOn_134 (by decide) (fun c0 => absurd c0 (by decide)) (fun _ => ?_)
        refine lv_iconst (v := 1) hx hb dX5_goOn_137 (by decide) ?_
        exact W.zret (v := 1) hx hb hr rfl (fun t ht9 hW => ⟨⟨1, (y_14, y_15, y_16), rfl, ⟨⟨hA3, hB3⟩, Or.inl ⟨rfl, dfs_yes hj18 ⟨fun h => n_11 ((try_past hA1 hB1 hst).mpr h), (try_dfs hA1 hB1 hst).mp n_17⟩⟩⟩, by rw [ht9]; exact hP.sub [0, 1, 2, 3] rfl, va_K.moved hW.alike (hK.sub [] rfl), hD.sub [0, 1, 2, 3] (by decide) rfl⟩, hS.F ht9⟩) hS.2.2 dX5_goOn_138
      · refine lv_if_eq (tgt := 139) hx hb dX5_goOn_134 (by decide) (fun _ => ?_) (fun c0 => absurd c0 (by decide))
        have hnt : ¬ tryOf gl 1 fA fB put j := fun h => n_17 ((try_dfs hA1 hB1 hst).mpr h.2)
        refine lv_iinc (v := (nI (j + 1))) (lv' := [(3, .int (nI (j + 1))), (4, .long r_2), (2, .int 2), (1, .int (nI put)), (0, .ref q)]) hx hb dX5_goOn_139 hl (k := 1) rfl (nI_1 j) (by decide) rfl (fun ls hl => ?_)
        refine lv_goto (tgt := 26) hx hb dX5_goOn_142 (by decide) ?_
        exact ih26 (j + 1, y_14, y_15, y_16) H locs ls (show 18 - (j + 1) < 18 - j by omega) ⟨hP.sub [0, 1, 2, 3] rfl, hD.sub [0, 1, 2, 3] (by decide) rfl, hS, lv_sub hl [0, 2, 3, 4] rfl, trivial, (by omega), hA3, hB3, (tries_step hno hnt)⟩
set_option maxHeartbeats 4000000 in
set_option maxRecDepth 100000 in
theorem x_goOn_3 (l : Launch) (dC : Nat → ClassId) (dI : Nat → Nat → Nat) (sz : Nat) (q : Nat) (fs : List Value) (rw9 : Nat) (pa : Nat) (pb : Nat) (gl : Int64) (cA : ClassId) (cB : ClassId) (fA : Nat → Int64) (fB : Nat → Int64) (cR : ClassId) (fr : Nat → Int32) (put : Nat) (L_fs : fs.length = 15) (K10_fs : fs[10]? = some (.ref rw9)) (K12_fs : fs[12]? = some (.ref pa)) (K13_fs : fs[13]? = some (.ref pb)) (K14_fs : fs[14]? = some (.long gl)) (hput : put + 3 ≤ 5) : Met l yX5_goOn (Cond.code yX5_goOn cX5_goOn 6 (some .boolean) :: tb) ({ frames := 7, cells := 0, slots := 0, locals := 194 }) (pcw [.ref q, .int (nI put), .int 3] (dC, dI) [(q, .inr (5, fs)), (pa, .inl (cA, 6, .inr (.inl fA))), (pb, .inl (cB, 6, .inr (.inl fB))), (rw9, .inl (cR, 5, .inl fr))] [(cA, .long), (cB, .long), (cR, .int)] sz) (va_Qi (fun (r : Int32) => (fun (u : (Nat → Int64) × (Nat → Int64) × (Nat → Int32)) => match u with | (gA, gB, gr) => ((∀ i, i ≤ put → gA i = fA i) ∧ (∀ i, i ≤ put → gB i = fB i)) ∧ ((r = 1 ∧ dfs gl 3 (pastOf fA fB put) (fA put, fB put)) ∨ (r = 0 ∧ ¬ dfs gl 3 (pastOf fA fB put) (fA put, fB put))))) (bw (dC, dI) (va_A [(q, .inr (5, fs)), (pa, .inl (cA, 6, .inr (.inl fA))), (pb, .inl (cB, 6, .inr (.inl fB))), (rw9, .inl (cR, 5, .inl fr))] sz) (fun (u : (Nat → Int64) × (Nat → Int64) × (Nat → Int32)) => match u with | (gA, gB, gr) => [(q, .inr (5, fs)), (pa, .inl (cA, 6, .inr (.inl gA))), (pb, .inl (cB, 6, .inr (.inl gB))), (rw9, .inl (cR, 5, .inl gr))]) (fun (u : (Nat → Int64) × (Nat → Int64) × (Nat → Int32)) => match u with | (gA, gB, gr) => [])) (va_A [(q, .inr (5, fs)), (pa, .inl (cA, 6, .inr (.inl fA))), (pb, .inl (cB, 6, .inr (.inl fB))), (rw9, .inl (cR, 5, .inl fr))] sz)) 0 0 (va_A [(q, .inr (5, fs)), (pa, .inl (cA, 6, .inr (.inl fA))), (pb, .inl (cB, 6, .inr (.inl fB))), (rw9, .inl (cR, 5, .inl fr))] sz) := by
  refine Met.ofW (cc := cX5_goOn) (maxL := 6) (ret := (some .boolean)) (by decide) rfl ?_
  intro p e s m args below meth c s₁ B hml hv
  obtain ⟨rfl, hsz, hP, hK, hD0⟩ := hv
  have hx := B.exec
  have hb := B.bytes
  have hr := B.returns
  have hts := atoms_spec (ws := Cond.code yX5_goOn cX5_goOn 6 (some .boolean) :: tb) B.pre
  have ht : ∀ w ∈ tb, w.before _ s = true := fun w h => hts w (List.mem_cons_of_mem _ h)
  have hown : s.vm.findClass RX5 = some m.cls := findClass_of_methodNamed B.named
  have hlocks := B.notSynchronized
  subst hsz
  have hD := hD0.self (sz := s.heap.size)
  generalize hAe : va_A [(q, .inr (5, fs)), (pa, .inl (cA, 6, .inr (.inl fA))), (pb, .inl (cB, 6, .inr (.inl fB))), (rw9, .inl (cR, 5, .inl fr))] s.heap.size = A at hD ⊢
  have hA : ∀ q : Nat, s.heap.size ≤ q → A q := fun q h => by rw [← hAe]; exact Or.inr h
  have hS : va_S A s.heap s.heap [] := va_S.rf
  have hl := lv_entry ([.ref q, .int (nI put), .int 3]) (n := 6) (Nat.le_of_ble_eq_true rfl)
  rw [lg_entry_eq]
  generalize (lg_sl ([.ref q, .int (nI put), .int 3]) ++ List.replicate (6 - (lg_sl ([.ref q, .int (nI put), .int 3])).length) Slot.unset).toArray = ls at hl ⊢
  have hl : lv_has ls 6 [(0, .ref q), (1, .int (nI put)), (2, .int 3)] := hl
  have hP : va_P (dC, dI) cls [(q, .inr (5, fs)), (pa, .inl (cA, 6, .inr (.inl fA))), (pb, .inl (cB, 6, .inr (.inl fB))), (rw9, .inl (cR, 5, .inl fr))] s.heap := hP
  refine lv_iload_n hx hb dX5_goOn_0 rfl (lv_at hl 2 rfl) ?_
  refine lv_if_ne (tgt := 24) hx hb dX5_goOn_1 (by decide) (fun _ => ?_) (fun c0 => absurd c0 (by decide))
  refine lv_iconst (v := 0) hx hb dX5_goOn_24 (by decide) ?_
  refine lv_istore_n (lv' := [(3, .int 0), (0, .ref q), (1, .int (nI put)), (2, .int 3)]) hx hb dX5_goOn_25 rfl hl (by decide) rfl (fun ls hl => ?_)
  refine lp_rule (fun H locs ls => W p l e _ s m _ below meth c H locs _ _ _ (F0 m 26 ls [])) (fun (z : Nat × (Nat → Int64) × (Nat → Int64) × (Nat → Int32)) H locs ls => match z with | (j, hA9, hB9, hr9) => va_P (dC, dI) cls [(q, .inr (5, fs)), (pa, .inl (cA, 6, .inr (.inl hA9))), (pb, .inl (cB, 6, .inr (.inl hB9))), (rw9, .inl (cR, 5, .inl hr9))] H ∧ va_D A [(q, .inr (5, fs)), (pa, .inl (cA, 6, .inr (.inl hA9))), (pb, .inl (cB, 6, .inr (.inl hB9))), (rw9, .inl (cR, 5, .inl hr9))] ∧ va_S A s.heap H locs ∧ lv_has ls 6 [(3, .int (nI j)), (2, .int 3), (1, .int (nI put)), (0, .ref q)] ∧ True ∧ j ≤ 18 ∧ (∀ i, i ≤ put → hA9 i = fA i) ∧ (∀ i, i ≤ put → hB9 i = fB i) ∧ ∀ i, i < j → ¬ tryOf gl 2 fA fB put i) (fun (z : Nat × (Nat → Int64) × (Nat → Int64) × (Nat → Int32)) => match z with | (j, hA9, hB9, hr9) => 18 - j) ?_ (0, fA, fB, fr) s.heap [] ls ⟨hP, hD, hS, lv_sub hl [0, 3, 2, 1] rfl, trivial, (by decide), (fun _ _ => rfl), (fun _ _ => rfl), (fun i hi => absurd hi (Nat.not_lt_zero _))⟩
  intro z H locs ls hI ih26
  obtain ⟨j, hA9, hB9, hr9⟩ := z
  obtain ⟨hP, hD, hS, hl, -, hj, hgA, hgB, hno⟩ := hI
  have hP : va_P (dC, dI) cls [(q, .inr (5, fs)), (pa, .inl (cA, 6, .inr (.inl hA9))), (pb, .inl (cB, 6, .inr (.inl hB9))), (rw9, .inl (cR, 5, .inl hr9))] H := hP
  have hD : va_D A [(q, .inr (5, fs)), (pa, .inl (cA, 6, .inr (.inl hA9))), (pb, .inl (cB, 6, .inr (.inl hB9))), (rw9, .inl (cR, 5, .inl hr9))] := hD
  have hl : lv_has ls 6 [(3, .int (nI j)), (2, .int 3), (1, .int (nI put)), (0, .ref q)] := hl
  refine lv_iload_n hx hb dX5_goOn_26 rfl (lv_at hl 0 rfl) ?_
  refine lv_bipush (v := 18) hx hb dX5_goOn_27 (by decide) ?_
  refine lv_icmp_ge (tgt := 145) hx hb dX5_goOn_29 (by decide) (fun b_1 => ?_) (fun b_1 => ?_)
  · refine lv_iconst (v := 0) hx hb dX5_goOn_145 (by decide) ?_
    exact W.zret (v := 0) hx hb hr rfl (fun t ht9 hW => ⟨⟨0, (hA9, hB9, hr9), rfl, ⟨⟨hgA, hgB⟩, Or.inr ⟨rfl, dfs_no (fun i hi => hno i (by have := eq18' hj b_1; omega))⟩⟩, by rw [ht9]; exact hP.sub [0, 1, 2, 3] rfl, va_K.moved hW.alike (hK.sub [] rfl), hD.sub [0, 1, 2, 3] (by decide) rfl⟩, hS.F ht9⟩) hS.2.2 dX5_goOn_146
  · have hj18 : j < 18 := lt18' hj b_1
    refine lv_iload_n hx hb dX5_goOn_32 rfl (lv_at hl 2 rfl) ?_
    refine lv_iconst (v := 5) hx hb dX5_goOn_33 (by decide) ?_
    refine lv_icmp_ge (tgt := 145) hx hb dX5_goOn_34 (by decide) (fun c0 => absurd c0 ((show ¬ nI 5 ≤ nI put from nI_ge (by omega) (by decide)))) (fun _ => ?_)
    refine lv_iload_n hx hb dX5_goOn_37 rfl (lv_at hl 0 rfl) ?_
    refine lv_aload_n hx hb dX5_goOn_38 rfl (lv_at hl 3 rfl) ?_
    refine va_get (D := (dC, dI)) (ci := 5) (v := .ref pa) (C := RX5) (T := TX5) (N := 15) hx hb ht uX5 hown hK hP 0 rfl rfl 12 (by decide) (ht _ k_4_22) (fun _ h9 => h9) K12_fs dX5_goOn_39 ?_
    refine lv_iload_n hx hb dX5_goOn_42 rfl (lv_at hl 2 rfl) ?_
    refine va_lald hx hb hK hP 1 0 rfl rfl (vp_in_nI (by omega) (by decide)) dX5_goOn_43 ?_
    refine tk_l (y := (fA put)) (by rw [nI_clamp (by omega)]; exact hgA put (Nat.le_refl _)) ?_
    refine lv_aload_n hx hb dX5_goOn_44 rfl (lv_at hl 3 rfl) ?_
    refine va_get (D := (dC, dI)) (ci := 5) (v := .ref pb) (C := RX5) (T := TX5) (N := 15) hx hb ht uX5 hown hK hP 0 rfl rfl 13 (by decide) (ht _ k_4_23) (fun _ h9 => h9) K13_fs dX5_goOn_45 ?_
    refine lv_iload_n hx hb dX5_goOn_48 rfl (lv_at hl 2 rfl) ?_
    refine va_lald hx hb hK hP 2 1 rfl rfl (vp_in_nI (by omega) (by decide)) dX5_goOn_49 ?_
    refine tk_l (y := (fB put)) (by rw [nI_clamp (by omega)]; exact hgB put (Nat.le_refl _)) ?_
    refine ca_l (wr := [(q, .inr (5, fs)), (pa, .inl (cA, 6, .inr (.inl hA9))), (pb, .inl (cB, 6, .inr (.inl hB9))), (rw9, .inl (cR, 5, .inl hr9))]) (va_runS (As := [.int (nI j), .long (fA put), .long (fB put)]) (rest := []) ⟨hx, hb, hml, hown, ht⟩ (x_nextA l dC dI H.size j (fA put) (fB put)  hj18) (cwS 3 ht (gdS k_8_233 k_8_231 k_8_232 k_1_15) rfl rfl rfl (by decide +kernel) ⟨Nat.le_of_ble_eq_true rfl, Nat.le_of_ble_eq_true rfl⟩) ⟨pcw_blind, pcw_at hP hD hK [] [] (by decide) rfl rfl rfl⟩ rfl rfl hl.1 rfl (lv_room (Nat.le_of_ble_eq_true rfl)) dX5_goOn_50 ⟨Nat.le_of_ble_eq_true rfl, Nat.le_of_ble_eq_true rfl⟩) hP hD hK hS hA [] [0, 1, 2, 3] rfl rfl (by decide) (by decide) (fun r_2 u H locs w_3 hK hP hD hS => ?_)
    have hK : va_K (dC, dI) cls [(cA, .long), (cB, .long), (cR, .int)] s := hK
    have hP : va_P (dC, dI) cls [(q, .inr (5, fs)), (pa, .inl (cA, 6, .inr (.inl hA9))), (pb, .inl (cB, 6, .inr (.inl hB9))), (rw9, .inl (cR, 5, .inl hr9))] H := hP
    have hD : va_D A [(q, .inr (5, fs)), (pa, .inl (cA, 6, .inr (.inl hA9))), (pb, .inl (cB, 6, .inr (.inl hB9))), (rw9, .inl (cR, 5, .inl hr9))] := hD
    refine lv_lstore (lv' := [(4, .long r_2), (3, .int (nI j)), (2, .int 3), (1, .int (nI put)), (0, .ref q)]) hx hb dX5_goOn_53 hl (by decide) rfl (fun ls hl => ?_)
    refine lv_iload_n hx hb dX5_goOn_55 rfl (lv_at hl 2 rfl) ?_
    refine lv_iconst (v := 1) hx hb dX5_goOn_56 (by decide) ?_
    refine lv_icmp_ne (tgt := 73) hx hb dX5_goOn_57 (by decide) (fun _ => ?_) (fun c0 => absurd c0 (by decide))
    refine lv_aload_n hx hb dX5_goOn_73 rfl (lv_at hl 4 rfl) ?_
    refine va_get (D := (dC, dI)) (ci := 5) (v := .ref pa) (C := RX5) (T := TX5) (N := 15) hx hb ht uX5 hown hK hP 0 rfl rfl 12 (by decide) (ht _ k_4_22) (fun _ h9 => h9) K12_fs dX5_goOn_74 ?_
    refine lv_iload_n hx hb dX5_goOn_77 rfl (lv_at hl 3 rfl) ?_
    refine lv_iconst (v := 1) hx hb dX5_goOn_78 (by decide) ?_
    refine lv_iadd hx hb dX5_goOn_79 ?_
    refine tk_i (y := (nI (put + 1))) (nI_1 put) ?_
    refine lv_lload hx hb dX5_goOn_80 (lv_at hl 0 rfl) ?_
    refine va_last (i := (nI (put + 1))) (x := r_2) hx hb hK hP hD hS 1 0 rfl rfl (vp_in_nI (by omega) (by decide)) dX5_goOn_82 (fun H locs hP hD hS => ?_)
    obtain ⟨f_4, ef_4⟩ : ∃ g : Nat → Int64, g = vp_updL hA9 (nI (put + 1)).toNatClampNeg r_2 := ⟨_, rfl⟩
    rw [← ef_4] at hP hD
    have hP : va_P (dC, dI) cls [(q, .inr (5, fs)), (pa, .inl (cA, 6, .inr (.inl f_4))), (pb, .inl (cB, 6, .inr (.inl hB9))), (rw9, .inl (cR, 5, .inl hr9))] H := hP
    have hD : va_D A [(q, .inr (5, fs)), (pa, .inl (cA, 6, .inr (.inl f_4))), (pb, .inl (cB, 6, .inr (.inl hB9))), (rw9, .inl (cR, 5, .inl hr9))] := hD
    refine lv_aload_n hx hb dX5_goOn_83 rfl (lv_at hl 4 rfl) ?_
    refine va_get (D := (dC, dI)) (ci := 5) (v := .ref pb) (C := RX5) (T := TX5) (N := 15) hx hb ht uX5 hown hK hP 0 rfl rfl 13 (by decide) (ht _ k_4_23) (fun _ h9 => h9) K13_fs dX5_goOn_84 ?_
    refine lv_iload_n hx hb dX5_goOn_87 rfl (lv_at hl 3 rfl) ?_
    refine lv_iconst (v := 1) hx hb dX5_goOn_88 (by decide) ?_
    refine lv_iadd hx hb dX5_goOn_89 ?_
    refine tk_i (y := (nI (put + 1))) (nI_1 put) ?_
    refine lv_iload_n hx hb dX5_goOn_90 rfl (lv_at hl 1 rfl) ?_
    refine lv_aload_n hx hb dX5_goOn_91 rfl (lv_at hl 4 rfl) ?_
    refine va_get (D := (dC, dI)) (ci := 5) (v := .ref pa) (C := RX5) (T := TX5) (N := 15) hx hb ht uX5 hown hK hP 0 rfl rfl 12 (by decide) (ht _ k_4_22) (fun _ h9 => h9) K12_fs dX5_goOn_92 ?_
    refine lv_iload_n hx hb dX5_goOn_95 rfl (lv_at hl 3 rfl) ?_
    refine va_lald hx hb hK hP 1 0 rfl rfl (vp_in_nI (by omega) (by decide)) dX5_goOn_96 ?_
    refine tk_l (y := (fA put)) (by rw [nI_clamp (by omega)]; exact uL_all (by omega) ef_4 hgA put (Nat.le_refl _)) ?_
    refine lv_aload_n hx hb dX5_goOn_97 rfl (lv_at hl 4 rfl) ?_
    refine va_get (D := (dC, dI)) (ci := 5) (v := .ref pb) (C := RX5) (T := TX5) (N := 15) hx hb ht uX5 hown hK hP 0 rfl rfl 13 (by decide) (ht _ k_4_23) (fun _ h9 => h9) K13_fs dX5_goOn_98 ?_
    refine lv_iload_n hx hb dX5_goOn_101 rfl (lv_at hl 3 rfl) ?_
    refine va_lald hx hb hK hP 2 1 rfl rfl (vp_in_nI (by omega) (by decide)) dX5_goOn_102 ?_
    refine tk_l (y := (fB put)) (by rw [nI_clamp (by omega)]; exact hgB put (Nat.le_refl _)) ?_
    refine ca_l (wr := [(q, .inr (5, fs)), (pa, .inl (cA, 6, .inr (.inl f_4))), (pb, .inl (cB, 6, .inr (.inl hB9))), (rw9, .inl (cR, 5, .inl hr9))]) (va_runS (As := [.int (nI j), .long (fA put), .long (fB put)]) (rest := [.int (nI (put + 1)), .ref pb]) ⟨hx, hb, hml, hown, ht⟩ (x_nextB l dC dI H.size j (fA put) (fB put)  hj18) (cwS 3 ht (gdS k_9_10 k_9_8 k_9_9 k_1_15) rfl rfl rfl (by decide +kernel) ⟨Nat.le_of_ble_eq_true rfl, Nat.le_of_ble_eq_true rfl⟩) ⟨pcw_blind, pcw_at hP hD hK [] [] (by decide) rfl rfl rfl⟩ rfl rfl hl.1 rfl (lv_room (Nat.le_of_ble_eq_true rfl)) dX5_goOn_103 ⟨Nat.le_of_ble_eq_true rfl, Nat.le_of_ble_eq_true rfl⟩) hP hD hK hS hA [] [0, 1, 2, 3] rfl rfl (by decide) (by decide) (fun r_5 u H locs w_6 hK hP hD hS => ?_)
    have hK : va_K (dC, dI) cls [(cA, .long), (cB, .long), (cR, .int)] s := hK
    have hP : va_P (dC, dI) cls [(q, .inr (5, fs)), (pa, .inl (cA, 6, .inr (.inl f_4))), (pb, .inl (cB, 6, .inr (.inl hB9))), (rw9, .inl (cR, 5, .inl hr9))] H := hP
    have hD : va_D A [(q, .inr (5, fs)), (pa, .inl (cA, 6, .inr (.inl f_4))), (pb, .inl (cB, 6, .inr (.inl hB9))), (rw9, .inl (cR, 5, .inl hr9))] := hD
    refine va_last (i := (nI (put + 1))) (x := r_5) hx hb hK hP hD hS 2 1 rfl rfl (vp_in_nI (by omega) (by decide)) dX5_goOn_106 (fun H locs hP hD hS => ?_)
    obtain ⟨f_7, ef_7⟩ : ∃ g : Nat → Int64, g = vp_updL hB9 (nI (put + 1)).toNatClampNeg r_5 := ⟨_, rfl⟩
    rw [← ef_7] at hP hD
    have hP : va_P (dC, dI) cls [(q, .inr (5, fs)), (pa, .inl (cA, 6, .inr (.inl f_4))), (pb, .inl (cB, 6, .inr (.inl f_7))), (rw9, .inl (cR, 5, .inl hr9))] H := hP
    have hD : va_D A [(q, .inr (5, fs)), (pa, .inl (cA, 6, .inr (.inl f_4))), (pb, .inl (cB, 6, .inr (.inl f_7))), (rw9, .inl (cR, 5, .inl hr9))] := hD
    refine lv_aload_n hx hb dX5_goOn_107 rfl (lv_at hl 4 rfl) ?_
    refine va_get (D := (dC, dI)) (ci := 5) (v := .ref rw9) (C := RX5) (T := TX5) (N := 15) hx hb ht uX5 hown hK hP 0 rfl rfl 10 (by decide) (ht _ k_4_18) (fun _ h9 => h9) K10_fs dX5_goOn_108 ?_
    refine lv_iload_n hx hb dX5_goOn_111 rfl (lv_at hl 3 rfl) ?_
    refine lv_iload_n hx hb dX5_goOn_112 rfl (lv_at hl 1 rfl) ?_
    refine va_iast (i := (nI put)) (x := (nI j)) hx hb hK hP hD hS 3 2 rfl rfl (vp_in_nI (by omega) (by decide)) dX5_goOn_113 (fun H locs hP hD hS => ?_)
    obtain ⟨f_8, ef_8⟩ : ∃ g : Nat → Int32, g = upd hr9 (nI put).toNatClampNeg (nI j) := ⟨_, rfl⟩
    rw [← ef_8] at hP hD
    have hP : va_P (dC, dI) cls [(q, .inr (5, fs)), (pa, .inl (cA, 6, .inr (.inl f_4))), (pb, .inl (cB, 6, .inr (.inl f_7))), (rw9, .inl (cR, 5, .inl f_8))] H := hP
    have hD : va_D A [(q, .inr (5, fs)), (pa, .inl (cA, 6, .inr (.inl f_4))), (pb, .inl (cB, 6, .inr (.inl f_7))), (rw9, .inl (cR, 5, .inl f_8))] := hD
    have hA1 := uL_all (by omega) ef_4 hgA
    have hB1 := uL_all (by omega) ef_7 hgB
    have hst : (f_4 (put + 1), f_7 (put + 1)) = stp j (fA put, fB put) := by rw [uL_at (by omega) ef_4, uL_at (by omega) ef_7, w_3, w_6]; rfl
    refine lv_aload_n hx hb dX5_goOn_114 rfl (lv_at hl 4 rfl) ?_
    refine lv_iload_n hx hb dX5_goOn_115 rfl (lv_at hl 3 rfl) ?_
    refine lv_iconst (v := 1) hx hb dX5_goOn_116 (by decide) ?_
    refine lv_iadd hx hb dX5_goOn_117 ?_
    refine tk_i (y := (nI (put + 1))) (nI_1 put) ?_
    refine ca_i (wr := [(rw9, .inl (cR, 5, .inl f_8))]) (va_runV (As := [.int (nI (put + 1))]) (rest := []) ⟨hx, hb, hml, hown, ht⟩ (x_came l dC dI H.size q fs rw9 pa pb gl cA cB f_4 f_7 (put + 1) L_fs K10_fs K12_fs K13_fs K14_fs (by omega)) (cwV 1 ht (gdV k_9_14 k_9_11 k_9_13 ks_102 k_1_15) rfl rfl rfl (by decide +kernel) ⟨Nat.le_of_ble_eq_true rfl, Nat.le_of_ble_eq_true rfl⟩) ⟨pcw_blind, va_recv hK hP (ci := 5) (q0 := 0) rfl rfl, pcw_at hP hD hK [0, 1, 2] [0, 1] (by decide) rfl rfl rfl⟩ rfl rfl hl.1 rfl (lv_room (Nat.le_of_ble_eq_true rfl)) dX5_goOn_118 ⟨Nat.le_of_ble_eq_true rfl, Nat.le_of_ble_eq_true rfl⟩) hP hD hK hS hA [0, 1, 2] [3] rfl rfl (by decide) (by decide) (fun r_9 u H locs w_10 hK hP hD hS => ?_)
    have hK : va_K (dC, dI) cls [(cA, .long), (cB, .long), (cR, .int)] s := hK
    have hP : va_P (dC, dI) cls [(rw9, .inl (cR, 5, .inl f_8)), (q, .inr (5, fs)), (pa, .inl (cA, 6, .inr (.inl f_4))), (pb, .inl (cB, 6, .inr (.inl f_7)))] H := hP
    have hD : va_D A [(rw9, .inl (cR, 5, .inl f_8)), (q, .inr (5, fs)), (pa, .inl (cA, 6, .inr (.inl f_4))), (pb, .inl (cB, 6, .inr (.inl f_7)))] := hD
    rcases w_10 with ⟨rfl, n_11⟩ | ⟨rfl, n_11⟩
    · refine lv_if_ne (tgt := 139) hx hb dX5_goOn_121 (by decide) (fun _ => ?_) (fun c0 => absurd c0 (by decide))
      have hnt : ¬ tryOf gl 2 fA fB put j := fun h => h.1 ((try_past hA1 hB1 hst).mp n_11)
      refine lv_iinc (v := (nI (j + 1))) (lv' := [(3, .int (nI (j + 1))), (4, .long r_2), (2, .int 3), (1, .int (nI put)), (0, .ref q)]) hx hb dX5_goOn_139 hl (k := 1) rfl (nI_1 j) (by decide) rfl (fun ls hl => ?_)
      refine lv_goto (tgt := 26) hx hb dX5_goOn_142 (by decide) ?_
      exact ih26 (j + 1, f_4, f_7, f_8) H locs ls (show 18 - (j + 1) < 18 - j by omega) ⟨hP.sub [1, 2, 3, 0] rfl, hD.sub [1, 2, 3, 0] (by decide) rfl, hS, lv_sub hl [0, 2, 3, 4] rfl, trivial, (by omega), hA1, hB1, (tries_step hno hnt)⟩
    · refine lv_if_ne (tgt := 139) hx hb dX5_goOn_121 (by decide) (fun c0 => absurd c0 (by decide)) (fun _ => ?_)
      refine lv_aload_n hx hb dX5_goOn_124 rfl (lv_at hl 4 rfl) ?_
      refine lv_iload_n hx hb dX5_goOn_125 rfl (lv_at hl 3 rfl) ?_
      refine lv_iconst (v := 1) hx hb dX5_goOn_126 (by decide) ?_
      refine lv_iadd hx hb dX5_goOn_127 ?_
      refine tk_i (y := (nI (put + 1))) (nI_1 put) ?_
      refine lv_iload_n hx hb dX5_goOn_128 rfl (lv_at hl 2 rfl) ?_
      refine lv_iconst (v := 1) hx hb dX5_goOn_129 (by decide) ?_
      refine lv_isub hx hb dX5_goOn_130 ?_
      refine tk_i (y := 2) (by decide) ?_
      refine ca_i (wr := []) (va_runV (As := [.int (nI (put + 1)), .int 2]) (rest := []) ⟨hx, hb, hml, hown, ht⟩ (x_goOn_2 l dC dI H.size q fs rw9 pa pb gl cA cB f_4 f_7 cR f_8 (put + 1) L_fs K10_fs K12_fs K13_fs K14_fs (by omega)) (cwV 2 ht (gdV k_8_230 k_8_227 k_8_229 ks_101 k_1_15) rfl rfl rfl (by decide +kernel) ⟨Nat.le_of_ble_eq_true rfl, Nat.le_of_ble_eq_true rfl⟩) ⟨pcw_blind, va_recv hK hP (ci := 5) (q0 := 1) rfl rfl, pcw_at hP hD hK [1, 2, 3, 0] [0, 1, 2] (by decide) rfl rfl rfl⟩ rfl rfl hl.1 rfl (lv_room (Nat.le_of_ble_eq_true rfl)) dX5_goOn_131 ⟨Nat.le_of_ble_eq_true rfl, Nat.le_of_ble_eq_true rfl⟩) hP hD hK hS hA [1, 2, 3, 0] [] rfl rfl (by decide) (by decide) (fun r_12 u H locs w_13 hK hP hD hS => ?_)
      obtain ⟨y_14, y_15, y_16⟩ := u
      have hK : va_K (dC, dI) cls [(cA, .long), (cB, .long), (cR, .int)] s := hK
      have hP : va_P (dC, dI) cls [(q, .inr (5, fs)), (pa, .inl (cA, 6, .inr (.inl y_14))), (pb, .inl (cB, 6, .inr (.inl y_15))), (rw9, .inl (cR, 5, .inl y_16))] H := hP
      have hD : va_D A [(q, .inr (5, fs)), (pa, .inl (cA, 6, .inr (.inl y_14))), (pb, .inl (cB, 6, .inr (.inl y_15))), (rw9, .inl (cR, 5, .inl y_16))] := hD
      obtain ⟨⟨hA2, hB2⟩, w_13⟩ := w_13
      have hA3 : ∀ i, i ≤ put → y_14 i = fA i := fun i hi => (hA2 i (by omega)).trans (hA1 i hi)
      have hB3 : ∀ i, i ≤ put → y_15 i = fB i := fun i hi => (hB2 i (by omega)).trans (hB1 i hi)
      rcases w_13 with ⟨rfl, n_17⟩ | ⟨rfl, n_17⟩
      · refine lv_if_eq (tgt := 139) hx hb dX5_goOn_134 (by decide) (fun c0 => absurd c0 (by decide)) (fun _ => ?_)
        refine lv_iconst (v := 1) hx hb dX5_goOn_137 (by decide) ?_
        exact W.zret (v := 1) hx hb hr rfl (fun t ht9 hW => ⟨⟨1, (y_14, y_15, y_16), rfl, ⟨⟨hA3, hB3⟩, Or.inl ⟨rfl, dfs_yes hj18 ⟨fun h => n_11 ((try_past hA1 hB1 hst).mpr h), (try_dfs hA1 hB1 hst).mp n_17⟩⟩⟩, by rw [ht9]; exact hP.sub [0, 1, 2, 3] rfl, va_K.moved hW.alike (hK.sub [] rfl), hD.sub [0, 1, 2, 3] (by decide) rfl⟩, hS.F ht9⟩) hS.2.2 dX5_goOn_138
      · refine lv_if_eq (tgt := 139) hx hb dX5_goOn_134 (by decide) (fun _ => ?_) (fun c0 => absurd c0 (by decide))
        have hnt : ¬ tryOf gl 2 fA fB put j := fun h => n_17 ((try_dfs hA1 hB1 hst).mpr h.2)
        refine lv_iinc (v := (nI (j + 1))) (lv' := [(3, .int (nI (j + 1))), (4, .long r_2), (2, .int 3), (1, .int (nI put)), (0, .ref q)]) hx hb dX5_goOn_139 hl (k := 1) rfl (nI_1 j) (by decide) rfl (fun ls hl => ?_)
        refine lv_goto (tgt := 26) hx hb dX5_goOn_142 (by decide) ?_
        exact ih26 (j + 1, y_14, y_15, y_16) H locs ls (show 18 - (j + 1) < 18 - j by omega) ⟨hP.sub [0, 1, 2, 3] rfl, hD.sub [0, 1, 2, 3] (by decide) rfl, hS, lv_sub hl [0, 2, 3, 4] rfl, trivial, (by omega), hA3, hB3, (tries_step hno hnt)⟩
set_option maxHeartbeats 4000000 in
set_option maxRecDepth 100000 in
theorem x_goOn_4 (l : Launch) (dC : Nat → ClassId) (dI : Nat → Nat → Nat) (sz : Nat) (q : Nat) (fs : List Value) (rw9 : Nat) (pa : Nat) (pb : Nat) (gl : Int64) (cA : ClassId) (cB : ClassId) (fA : Nat → Int64) (fB : Nat → Int64) (cR : ClassId) (fr : Nat → Int32) (put : Nat) (L_fs : fs.length = 15) (K10_fs : fs[10]? = some (.ref rw9)) (K12_fs : fs[12]? = some (.ref pa)) (K13_fs : fs[13]? = some (.ref pb)) (K14_fs : fs[14]? = some (.long gl)) (hput : put + 4 ≤ 5) : Met l yX5_goOn (Cond.code yX5_goOn cX5_goOn 6 (some .boolean) :: tb) ({ frames := 8, cells := 0, slots := 0, locals := 219 }) (pcw [.ref q, .int (nI put), .int 4] (dC, dI) [(q, .inr (5, fs)), (pa, .inl (cA, 6, .inr (.inl fA))), (pb, .inl (cB, 6, .inr (.inl fB))), (rw9, .inl (cR, 5, .inl fr))] [(cA, .long), (cB, .long), (cR, .int)] sz) (va_Qi (fun (r : Int32) => (fun (u : (Nat → Int64) × (Nat → Int64) × (Nat → Int32)) => match u with | (gA, gB, gr) => ((∀ i, i ≤ put → gA i = fA i) ∧ (∀ i, i ≤ put → gB i = fB i)) ∧ ((r = 1 ∧ dfs gl 4 (pastOf fA fB put) (fA put, fB put)) ∨ (r = 0 ∧ ¬ dfs gl 4 (pastOf fA fB put) (fA put, fB put))))) (bw (dC, dI) (va_A [(q, .inr (5, fs)), (pa, .inl (cA, 6, .inr (.inl fA))), (pb, .inl (cB, 6, .inr (.inl fB))), (rw9, .inl (cR, 5, .inl fr))] sz) (fun (u : (Nat → Int64) × (Nat → Int64) × (Nat → Int32)) => match u with | (gA, gB, gr) => [(q, .inr (5, fs)), (pa, .inl (cA, 6, .inr (.inl gA))), (pb, .inl (cB, 6, .inr (.inl gB))), (rw9, .inl (cR, 5, .inl gr))]) (fun (u : (Nat → Int64) × (Nat → Int64) × (Nat → Int32)) => match u with | (gA, gB, gr) => [])) (va_A [(q, .inr (5, fs)), (pa, .inl (cA, 6, .inr (.inl fA))), (pb, .inl (cB, 6, .inr (.inl fB))), (rw9, .inl (cR, 5, .inl fr))] sz)) 0 0 (va_A [(q, .inr (5, fs)), (pa, .inl (cA, 6, .inr (.inl fA))), (pb, .inl (cB, 6, .inr (.inl fB))), (rw9, .inl (cR, 5, .inl fr))] sz) := by
  refine Met.ofW (cc := cX5_goOn) (maxL := 6) (ret := (some .boolean)) (by decide) rfl ?_
  intro p e s m args below meth c s₁ B hml hv
  obtain ⟨rfl, hsz, hP, hK, hD0⟩ := hv
  have hx := B.exec
  have hb := B.bytes
  have hr := B.returns
  have hts := atoms_spec (ws := Cond.code yX5_goOn cX5_goOn 6 (some .boolean) :: tb) B.pre
  have ht : ∀ w ∈ tb, w.before _ s = true := fun w h => hts w (List.mem_cons_of_mem _ h)
  have hown : s.vm.findClass RX5 = some m.cls := findClass_of_methodNamed B.named
  have hlocks := B.notSynchronized
  subst hsz
  have hD := hD0.self (sz := s.heap.size)
  generalize hAe : va_A [(q, .inr (5, fs)), (pa, .inl (cA, 6, .inr (.inl fA))), (pb, .inl (cB, 6, .inr (.inl fB))), (rw9, .inl (cR, 5, .inl fr))] s.heap.size = A at hD ⊢
  have hA : ∀ q : Nat, s.heap.size ≤ q → A q := fun q h => by rw [← hAe]; exact Or.inr h
  have hS : va_S A s.heap s.heap [] := va_S.rf
  have hl := lv_entry ([.ref q, .int (nI put), .int 4]) (n := 6) (Nat.le_of_ble_eq_true rfl)
  rw [lg_entry_eq]
  generalize (lg_sl ([.ref q, .int (nI put), .int 4]) ++ List.replicate (6 - (lg_sl ([.ref q, .int (nI put), .int 4])).length) Slot.unset).toArray = ls at hl ⊢
  have hl : lv_has ls 6 [(0, .ref q), (1, .int (nI put)), (2, .int 4)] := hl
  have hP : va_P (dC, dI) cls [(q, .inr (5, fs)), (pa, .inl (cA, 6, .inr (.inl fA))), (pb, .inl (cB, 6, .inr (.inl fB))), (rw9, .inl (cR, 5, .inl fr))] s.heap := hP
  refine lv_iload_n hx hb dX5_goOn_0 rfl (lv_at hl 2 rfl) ?_
  refine lv_if_ne (tgt := 24) hx hb dX5_goOn_1 (by decide) (fun _ => ?_) (fun c0 => absurd c0 (by decide))
  refine lv_iconst (v := 0) hx hb dX5_goOn_24 (by decide) ?_
  refine lv_istore_n (lv' := [(3, .int 0), (0, .ref q), (1, .int (nI put)), (2, .int 4)]) hx hb dX5_goOn_25 rfl hl (by decide) rfl (fun ls hl => ?_)
  refine lp_rule (fun H locs ls => W p l e _ s m _ below meth c H locs _ _ _ (F0 m 26 ls [])) (fun (z : Nat × (Nat → Int64) × (Nat → Int64) × (Nat → Int32)) H locs ls => match z with | (j, hA9, hB9, hr9) => va_P (dC, dI) cls [(q, .inr (5, fs)), (pa, .inl (cA, 6, .inr (.inl hA9))), (pb, .inl (cB, 6, .inr (.inl hB9))), (rw9, .inl (cR, 5, .inl hr9))] H ∧ va_D A [(q, .inr (5, fs)), (pa, .inl (cA, 6, .inr (.inl hA9))), (pb, .inl (cB, 6, .inr (.inl hB9))), (rw9, .inl (cR, 5, .inl hr9))] ∧ va_S A s.heap H locs ∧ lv_has ls 6 [(3, .int (nI j)), (2, .int 4), (1, .int (nI put)), (0, .ref q)] ∧ True ∧ j ≤ 18 ∧ (∀ i, i ≤ put → hA9 i = fA i) ∧ (∀ i, i ≤ put → hB9 i = fB i) ∧ ∀ i, i < j → ¬ tryOf gl 3 fA fB put i) (fun (z : Nat × (Nat → Int64) × (Nat → Int64) × (Nat → Int32)) => match z with | (j, hA9, hB9, hr9) => 18 - j) ?_ (0, fA, fB, fr) s.heap [] ls ⟨hP, hD, hS, lv_sub hl [0, 3, 2, 1] rfl, trivial, (by decide), (fun _ _ => rfl), (fun _ _ => rfl), (fun i hi => absurd hi (Nat.not_lt_zero _))⟩
  intro z H locs ls hI ih26
  obtain ⟨j, hA9, hB9, hr9⟩ := z
  obtain ⟨hP, hD, hS, hl, -, hj, hgA, hgB, hno⟩ := hI
  have hP : va_P (dC, dI) cls [(q, .inr (5, fs)), (pa, .inl (cA, 6, .inr (.inl hA9))), (pb, .inl (cB, 6, .inr (.inl hB9))), (rw9, .inl (cR, 5, .inl hr9))] H := hP
  have hD : va_D A [(q, .inr (5, fs)), (pa, .inl (cA, 6, .inr (.inl hA9))), (pb, .inl (cB, 6, .inr (.inl hB9))), (rw9, .inl (cR, 5, .inl hr9))] := hD
  have hl : lv_has ls 6 [(3, .int (nI j)), (2, .int 4), (1, .int (nI put)), (0, .ref q)] := hl
  refine lv_iload_n hx hb dX5_goOn_26 rfl (lv_at hl 0 rfl) ?_
  refine lv_bipush (v := 18) hx hb dX5_goOn_27 (by decide) ?_
  refine lv_icmp_ge (tgt := 145) hx hb dX5_goOn_29 (by decide) (fun b_1 => ?_) (fun b_1 => ?_)
  · refine lv_iconst (v := 0) hx hb dX5_goOn_145 (by decide) ?_
    exact W.zret (v := 0) hx hb hr rfl (fun t ht9 hW => ⟨⟨0, (hA9, hB9, hr9), rfl, ⟨⟨hgA, hgB⟩, Or.inr ⟨rfl, dfs_no (fun i hi => hno i (by have := eq18' hj b_1; omega))⟩⟩, by rw [ht9]; exact hP.sub [0, 1, 2, 3] rfl, va_K.moved hW.alike (hK.sub [] rfl), hD.sub [0, 1, 2, 3] (by decide) rfl⟩, hS.F ht9⟩) hS.2.2 dX5_goOn_146
  · have hj18 : j < 18 := lt18' hj b_1
    refine lv_iload_n hx hb dX5_goOn_32 rfl (lv_at hl 2 rfl) ?_
    refine lv_iconst (v := 5) hx hb dX5_goOn_33 (by decide) ?_
    refine lv_icmp_ge (tgt := 145) hx hb dX5_goOn_34 (by decide) (fun c0 => absurd c0 ((show ¬ nI 5 ≤ nI put from nI_ge (by omega) (by decide)))) (fun _ => ?_)
    refine lv_iload_n hx hb dX5_goOn_37 rfl (lv_at hl 0 rfl) ?_
    refine lv_aload_n hx hb dX5_goOn_38 rfl (lv_at hl 3 rfl) ?_
    refine va_get (D := (dC, dI)) (ci := 5) (v := .ref pa) (C := RX5) (T := TX5) (N := 15) hx hb ht uX5 hown hK hP 0 rfl rfl 12 (by decide) (ht _ k_4_22) (fun _ h9 => h9) K12_fs dX5_goOn_39 ?_
    refine lv_iload_n hx hb dX5_goOn_42 rfl (lv_at hl 2 rfl) ?_
    refine va_lald hx hb hK hP 1 0 rfl rfl (vp_in_nI (by omega) (by decide)) dX5_goOn_43 ?_
    refine tk_l (y := (fA put)) (by rw [nI_clamp (by omega)]; exact hgA put (Nat.le_refl _)) ?_
    refine lv_aload_n hx hb dX5_goOn_44 rfl (lv_at hl 3 rfl) ?_
    refine va_get (D := (dC, dI)) (ci := 5) (v := .ref pb) (C := RX5) (T := TX5) (N := 15) hx hb ht uX5 hown hK hP 0 rfl rfl 13 (by decide) (ht _ k_4_23) (fun _ h9 => h9) K13_fs dX5_goOn_45 ?_
    refine lv_iload_n hx hb dX5_goOn_48 rfl (lv_at hl 2 rfl) ?_
    refine va_lald hx hb hK hP 2 1 rfl rfl (vp_in_nI (by omega) (by decide)) dX5_goOn_49 ?_
    refine tk_l (y := (fB put)) (by rw [nI_clamp (by omega)]; exact hgB put (Nat.le_refl _)) ?_
    refine ca_l (wr := [(q, .inr (5, fs)), (pa, .inl (cA, 6, .inr (.inl hA9))), (pb, .inl (cB, 6, .inr (.inl hB9))), (rw9, .inl (cR, 5, .inl hr9))]) (va_runS (As := [.int (nI j), .long (fA put), .long (fB put)]) (rest := []) ⟨hx, hb, hml, hown, ht⟩ (x_nextA l dC dI H.size j (fA put) (fB put)  hj18) (cwS 3 ht (gdS k_8_233 k_8_231 k_8_232 k_1_15) rfl rfl rfl (by decide +kernel) ⟨Nat.le_of_ble_eq_true rfl, Nat.le_of_ble_eq_true rfl⟩) ⟨pcw_blind, pcw_at hP hD hK [] [] (by decide) rfl rfl rfl⟩ rfl rfl hl.1 rfl (lv_room (Nat.le_of_ble_eq_true rfl)) dX5_goOn_50 ⟨Nat.le_of_ble_eq_true rfl, Nat.le_of_ble_eq_true rfl⟩) hP hD hK hS hA [] [0, 1, 2, 3] rfl rfl (by decide) (by decide) (fun r_2 u H locs w_3 hK hP hD hS => ?_)
    have hK : va_K (dC, dI) cls [(cA, .long), (cB, .long), (cR, .int)] s := hK
    have hP : va_P (dC, dI) cls [(q, .inr (5, fs)), (pa, .inl (cA, 6, .inr (.inl hA9))), (pb, .inl (cB, 6, .inr (.inl hB9))), (rw9, .inl (cR, 5, .inl hr9))] H := hP
    have hD : va_D A [(q, .inr (5, fs)), (pa, .inl (cA, 6, .inr (.inl hA9))), (pb, .inl (cB, 6, .inr (.inl hB9))), (rw9, .inl (cR, 5, .inl hr9))] := hD
    refine lv_lstore (lv' := [(4, .long r_2), (3, .int (nI j)), (2, .int 4), (1, .int (nI put)), (0, .ref q)]) hx hb dX5_goOn_53 hl (by decide) rfl (fun ls hl => ?_)
    refine lv_iload_n hx hb dX5_goOn_55 rfl (lv_at hl 2 rfl) ?_
    refine lv_iconst (v := 1) hx hb dX5_goOn_56 (by decide) ?_
    refine lv_icmp_ne (tgt := 73) hx hb dX5_goOn_57 (by decide) (fun _ => ?_) (fun c0 => absurd c0 (by decide))
    refine lv_aload_n hx hb dX5_goOn_73 rfl (lv_at hl 4 rfl) ?_
    refine va_get (D := (dC, dI)) (ci := 5) (v := .ref pa) (C := RX5) (T := TX5) (N := 15) hx hb ht uX5 hown hK hP 0 rfl rfl 12 (by decide) (ht _ k_4_22) (fun _ h9 => h9) K12_fs dX5_goOn_74 ?_
    refine lv_iload_n hx hb dX5_goOn_77 rfl (lv_at hl 3 rfl) ?_
    refine lv_iconst (v := 1) hx hb dX5_goOn_78 (by decide) ?_
    refine lv_iadd hx hb dX5_goOn_79 ?_
    refine tk_i (y := (nI (put + 1))) (nI_1 put) ?_
    refine lv_lload hx hb dX5_goOn_80 (lv_at hl 0 rfl) ?_
    refine va_last (i := (nI (put + 1))) (x := r_2) hx hb hK hP hD hS 1 0 rfl rfl (vp_in_nI (by omega) (by decide)) dX5_goOn_82 (fun H locs hP hD hS => ?_)
    obtain ⟨f_4, ef_4⟩ : ∃ g : Nat → Int64, g = vp_updL hA9 (nI (put + 1)).toNatClampNeg r_2 := ⟨_, rfl⟩
    rw [← ef_4] at hP hD
    have hP : va_P (dC, dI) cls [(q, .inr (5, fs)), (pa, .inl (cA, 6, .inr (.inl f_4))), (pb, .inl (cB, 6, .inr (.inl hB9))), (rw9, .inl (cR, 5, .inl hr9))] H := hP
    have hD : va_D A [(q, .inr (5, fs)), (pa, .inl (cA, 6, .inr (.inl f_4))), (pb, .inl (cB, 6, .inr (.inl hB9))), (rw9, .inl (cR, 5, .inl hr9))] := hD
    refine lv_aload_n hx hb dX5_goOn_83 rfl (lv_at hl 4 rfl) ?_
    refine va_get (D := (dC, dI)) (ci := 5) (v := .ref pb) (C := RX5) (T := TX5) (N := 15) hx hb ht uX5 hown hK hP 0 rfl rfl 13 (by decide) (ht _ k_4_23) (fun _ h9 => h9) K13_fs dX5_goOn_84 ?_
    refine lv_iload_n hx hb dX5_goOn_87 rfl (lv_at hl 3 rfl) ?_
    refine lv_iconst (v := 1) hx hb dX5_goOn_88 (by decide) ?_
    refine lv_iadd hx hb dX5_goOn_89 ?_
    refine tk_i (y := (nI (put + 1))) (nI_1 put) ?_
    refine lv_iload_n hx hb dX5_goOn_90 rfl (lv_at hl 1 rfl) ?_
    refine lv_aload_n hx hb dX5_goOn_91 rfl (lv_at hl 4 rfl) ?_
    refine va_get (D := (dC, dI)) (ci := 5) (v := .ref pa) (C := RX5) (T := TX5) (N := 15) hx hb ht uX5 hown hK hP 0 rfl rfl 12 (by decide) (ht _ k_4_22) (fun _ h9 => h9) K12_fs dX5_goOn_92 ?_
    refine lv_iload_n hx hb dX5_goOn_95 rfl (lv_at hl 3 rfl) ?_
    refine va_lald hx hb hK hP 1 0 rfl rfl (vp_in_nI (by omega) (by decide)) dX5_goOn_96 ?_
    refine tk_l (y := (fA put)) (by rw [nI_clamp (by omega)]; exact uL_all (by omega) ef_4 hgA put (Nat.le_refl _)) ?_
    refine lv_aload_n hx hb dX5_goOn_97 rfl (lv_at hl 4 rfl) ?_
    refine va_get (D := (dC, dI)) (ci := 5) (v := .ref pb) (C := RX5) (T := TX5) (N := 15) hx hb ht uX5 hown hK hP 0 rfl rfl 13 (by decide) (ht _ k_4_23) (fun _ h9 => h9) K13_fs dX5_goOn_98 ?_
    refine lv_iload_n hx hb dX5_goOn_101 rfl (lv_at hl 3 rfl) ?_
    refine va_lald hx hb hK hP 2 1 rfl rfl (vp_in_nI (by omega) (by decide)) dX5_goOn_102 ?_
    refine tk_l (y := (fB put)) (by rw [nI_clamp (by omega)]; exact hgB put (Nat.le_refl _)) ?_
    refine ca_l (wr := [(q, .inr (5, fs)), (pa, .inl (cA, 6, .inr (.inl f_4))), (pb, .inl (cB, 6, .inr (.inl hB9))), (rw9, .inl (cR, 5, .inl hr9))]) (va_runS (As := [.int (nI j), .long (fA put), .long (fB put)]) (rest := [.int (nI (put + 1)), .ref pb]) ⟨hx, hb, hml, hown, ht⟩ (x_nextB l dC dI H.size j (fA put) (fB put)  hj18) (cwS 3 ht (gdS k_9_10 k_9_8 k_9_9 k_1_15) rfl rfl rfl (by decide +kernel) ⟨Nat.le_of_ble_eq_true rfl, Nat.le_of_ble_eq_true rfl⟩) ⟨pcw_blind, pcw_at hP hD hK [] [] (by decide) rfl rfl rfl⟩ rfl rfl hl.1 rfl (lv_room (Nat.le_of_ble_eq_true rfl)) dX5_goOn_103 ⟨Nat.le_of_ble_eq_true rfl, Nat.le_of_ble_eq_true rfl⟩) hP hD hK hS hA [] [0, 1, 2, 3] rfl rfl (by decide) (by decide) (fun r_5 u H locs w_6 hK hP hD hS => ?_)
    have hK : va_K (dC, dI) cls [(cA, .long), (cB, .long), (cR, .int)] s := hK
    have hP : va_P (dC, dI) cls [(q, .inr (5, fs)), (pa, .inl (cA, 6, .inr (.inl f_4))), (pb, .inl (cB, 6, .inr (.inl hB9))), (rw9, .inl (cR, 5, .inl hr9))] H := hP
    have hD : va_D A [(q, .inr (5, fs)), (pa, .inl (cA, 6, .inr (.inl f_4))), (pb, .inl (cB, 6, .inr (.inl hB9))), (rw9, .inl (cR, 5, .inl hr9))] := hD
    refine va_last (i := (nI (put + 1))) (x := r_5) hx hb hK hP hD hS 2 1 rfl rfl (vp_in_nI (by omega) (by decide)) dX5_goOn_106 (fun H locs hP hD hS => ?_)
    obtain ⟨f_7, ef_7⟩ : ∃ g : Nat → Int64, g = vp_updL hB9 (nI (put + 1)).toNatClampNeg r_5 := ⟨_, rfl⟩
    rw [← ef_7] at hP hD
    have hP : va_P (dC, dI) cls [(q, .inr (5, fs)), (pa, .inl (cA, 6, .inr (.inl f_4))), (pb, .inl (cB, 6, .inr (.inl f_7))), (rw9, .inl (cR, 5, .inl hr9))] H := hP
    have hD : va_D A [(q, .inr (5, fs)), (pa, .inl (cA, 6, .inr (.inl f_4))), (pb, .inl (cB, 6, .inr (.inl f_7))), (rw9, .inl (cR, 5, .inl hr9))] := hD
    refine lv_aload_n hx hb dX5_goOn_107 rfl (lv_at hl 4 rfl) ?_
    refine va_get (D := (dC, dI)) (ci := 5) (v := .ref rw9) (C := RX5) (T := TX5) (N := 15) hx hb ht uX5 hown hK hP 0 rfl rfl 10 (by decide) (ht _ k_4_18) (fun _ h9 => h9) K10_fs dX5_goOn_108 ?_
    refine lv_iload_n hx hb dX5_goOn_111 rfl (lv_at hl 3 rfl) ?_
    refine lv_iload_n hx hb dX5_goOn_112 rfl (lv_at hl 1 rfl) ?_
    refine va_iast (i := (nI put)) (x := (nI j)) hx hb hK hP hD hS 3 2 rfl rfl (vp_in_nI (by omega) (by decide)) dX5_goOn_113 (fun H locs hP hD hS => ?_)
    obtain ⟨f_8, ef_8⟩ : ∃ g : Nat → Int32, g = upd hr9 (nI put).toNatClampNeg (nI j) := ⟨_, rfl⟩
    rw [← ef_8] at hP hD
    have hP : va_P (dC, dI) cls [(q, .inr (5, fs)), (pa, .inl (cA, 6, .inr (.inl f_4))), (pb, .inl (cB, 6, .inr (.inl f_7))), (rw9, .inl (cR, 5, .inl f_8))] H := hP
    have hD : va_D A [(q, .inr (5, fs)), (pa, .inl (cA, 6, .inr (.inl f_4))), (pb, .inl (cB, 6, .inr (.inl f_7))), (rw9, .inl (cR, 5, .inl f_8))] := hD
    have hA1 := uL_all (by omega) ef_4 hgA
    have hB1 := uL_all (by omega) ef_7 hgB
    have hst : (f_4 (put + 1), f_7 (put + 1)) = stp j (fA put, fB put) := by rw [uL_at (by omega) ef_4, uL_at (by omega) ef_7, w_3, w_6]; rfl
    refine lv_aload_n hx hb dX5_goOn_114 rfl (lv_at hl 4 rfl) ?_
    refine lv_iload_n hx hb dX5_goOn_115 rfl (lv_at hl 3 rfl) ?_
    refine lv_iconst (v := 1) hx hb dX5_goOn_116 (by decide) ?_
    refine lv_iadd hx hb dX5_goOn_117 ?_
    refine tk_i (y := (nI (put + 1))) (nI_1 put) ?_
    refine ca_i (wr := [(rw9, .inl (cR, 5, .inl f_8))]) (va_runV (As := [.int (nI (put + 1))]) (rest := []) ⟨hx, hb, hml, hown, ht⟩ (x_came l dC dI H.size q fs rw9 pa pb gl cA cB f_4 f_7 (put + 1) L_fs K10_fs K12_fs K13_fs K14_fs (by omega)) (cwV 1 ht (gdV k_9_14 k_9_11 k_9_13 ks_102 k_1_15) rfl rfl rfl (by decide +kernel) ⟨Nat.le_of_ble_eq_true rfl, Nat.le_of_ble_eq_true rfl⟩) ⟨pcw_blind, va_recv hK hP (ci := 5) (q0 := 0) rfl rfl, pcw_at hP hD hK [0, 1, 2] [0, 1] (by decide) rfl rfl rfl⟩ rfl rfl hl.1 rfl (lv_room (Nat.le_of_ble_eq_true rfl)) dX5_goOn_118 ⟨Nat.le_of_ble_eq_true rfl, Nat.le_of_ble_eq_true rfl⟩) hP hD hK hS hA [0, 1, 2] [3] rfl rfl (by decide) (by decide) (fun r_9 u H locs w_10 hK hP hD hS => ?_)
    have hK : va_K (dC, dI) cls [(cA, .long), (cB, .long), (cR, .int)] s := hK
    have hP : va_P (dC, dI) cls [(rw9, .inl (cR, 5, .inl f_8)), (q, .inr (5, fs)), (pa, .inl (cA, 6, .inr (.inl f_4))), (pb, .inl (cB, 6, .inr (.inl f_7)))] H := hP
    have hD : va_D A [(rw9, .inl (cR, 5, .inl f_8)), (q, .inr (5, fs)), (pa, .inl (cA, 6, .inr (.inl f_4))), (pb, .inl (cB, 6, .inr (.inl f_7)))] := hD
    rcases w_10 with ⟨rfl, n_11⟩ | ⟨rfl, n_11⟩
    · refine lv_if_ne (tgt := 139) hx hb dX5_goOn_121 (by decide) (fun _ => ?_) (fun c0 => absurd c0 (by decide))
      have hnt : ¬ tryOf gl 3 fA fB put j := fun h => h.1 ((try_past hA1 hB1 hst).mp n_11)
      refine lv_iinc (v := (nI (j + 1))) (lv' := [(3, .int (nI (j + 1))), (4, .long r_2), (2, .int 4), (1, .int (nI put)), (0, .ref q)]) hx hb dX5_goOn_139 hl (k := 1) rfl (nI_1 j) (by decide) rfl (fun ls hl => ?_)
      refine lv_goto (tgt := 26) hx hb dX5_goOn_142 (by decide) ?_
      exact ih26 (j + 1, f_4, f_7, f_8) H locs ls (show 18 - (j + 1) < 18 - j by omega) ⟨hP.sub [1, 2, 3, 0] rfl, hD.sub [1, 2, 3, 0] (by decide) rfl, hS, lv_sub hl [0, 2, 3, 4] rfl, trivial, (by omega), hA1, hB1, (tries_step hno hnt)⟩
    · refine lv_if_ne (tgt := 139) hx hb dX5_goOn_121 (by decide) (fun c0 => absurd c0 (by decide)) (fun _ => ?_)
      refine lv_aload_n hx hb dX5_goOn_124 rfl (lv_at hl 4 rfl) ?_
      refine lv_iload_n hx hb dX5_goOn_125 rfl (lv_at hl 3 rfl) ?_
      refine lv_iconst (v := 1) hx hb dX5_goOn_126 (by decide) ?_
      refine lv_iadd hx hb dX5_goOn_127 ?_
      refine tk_i (y := (nI (put + 1))) (nI_1 put) ?_
      refine lv_iload_n hx hb dX5_goOn_128 rfl (lv_at hl 2 rfl) ?_
      refine lv_iconst (v := 1) hx hb dX5_goOn_129 (by decide) ?_
      refine lv_isub hx hb dX5_goOn_130 ?_
      refine tk_i (y := 3) (by decide) ?_
      refine ca_i (wr := []) (va_runV (As := [.int (nI (put + 1)), .int 3]) (rest := []) ⟨hx, hb, hml, hown, ht⟩ (x_goOn_3 l dC dI H.size q fs rw9 pa pb gl cA cB f_4 f_7 cR f_8 (put + 1) L_fs K10_fs K12_fs K13_fs K14_fs (by omega)) (cwV 2 ht (gdV k_8_230 k_8_227 k_8_229 ks_101 k_1_15) rfl rfl rfl (by decide +kernel) ⟨Nat.le_of_ble_eq_true rfl, Nat.le_of_ble_eq_true rfl⟩) ⟨pcw_blind, va_recv hK hP (ci := 5) (q0 := 1) rfl rfl, pcw_at hP hD hK [1, 2, 3, 0] [0, 1, 2] (by decide) rfl rfl rfl⟩ rfl rfl hl.1 rfl (lv_room (Nat.le_of_ble_eq_true rfl)) dX5_goOn_131 ⟨Nat.le_of_ble_eq_true rfl, Nat.le_of_ble_eq_true rfl⟩) hP hD hK hS hA [1, 2, 3, 0] [] rfl rfl (by decide) (by decide) (fun r_12 u H locs w_13 hK hP hD hS => ?_)
      obtain ⟨y_14, y_15, y_16⟩ := u
      have hK : va_K (dC, dI) cls [(cA, .long), (cB, .long), (cR, .int)] s := hK
      have hP : va_P (dC, dI) cls [(q, .inr (5, fs)), (pa, .inl (cA, 6, .inr (.inl y_14))), (pb, .inl (cB, 6, .inr (.inl y_15))), (rw9, .inl (cR, 5, .inl y_16))] H := hP
      have hD : va_D A [(q, .inr (5, fs)), (pa, .inl (cA, 6, .inr (.inl y_14))), (pb, .inl (cB, 6, .inr (.inl y_15))), (rw9, .inl (cR, 5, .inl y_16))] := hD
      obtain ⟨⟨hA2, hB2⟩, w_13⟩ := w_13
      have hA3 : ∀ i, i ≤ put → y_14 i = fA i := fun i hi => (hA2 i (by omega)).trans (hA1 i hi)
      have hB3 : ∀ i, i ≤ put → y_15 i = fB i := fun i hi => (hB2 i (by omega)).trans (hB1 i hi)
      rcases w_13 with ⟨rfl, n_17⟩ | ⟨rfl, n_17⟩
      · refine lv_if_eq (tgt := 139) hx hb dX5_goOn_134 (by decide) (fun c0 => absurd c0 (by decide)) (fun _ => ?_)
        refine lv_iconst (v := 1) hx hb dX5_goOn_137 (by decide) ?_
        exact W.zret (v := 1) hx hb hr rfl (fun t ht9 hW => ⟨⟨1, (y_14, y_15, y_16), rfl, ⟨⟨hA3, hB3⟩, Or.inl ⟨rfl, dfs_yes hj18 ⟨fun h => n_11 ((try_past hA1 hB1 hst).mpr h), (try_dfs hA1 hB1 hst).mp n_17⟩⟩⟩, by rw [ht9]; exact hP.sub [0, 1, 2, 3] rfl, va_K.moved hW.alike (hK.sub [] rfl), hD.sub [0, 1, 2, 3] (by decide) rfl⟩, hS.F ht9⟩) hS.2.2 dX5_goOn_138
      · refine lv_if_eq (tgt := 139) hx hb dX5_goOn_134 (by decide) (fun _ => ?_) (fun c0 => absurd c0 (by decide))
        have hnt : ¬ tryOf gl 3 fA fB put j := fun h => n_17 ((try_dfs hA1 hB1 hst).mpr h.2)
        refine lv_iinc (v := (nI (j + 1))) (lv' := [(3, .int (nI (j + 1))), (4, .long r_2), (2, .int 4), (1, .int (nI put)), (0, .ref q)]) hx hb dX5_goOn_139 hl (k := 1) rfl (nI_1 j) (by decide) rfl (fun ls hl => ?_)
        refine lv_goto (tgt := 26) hx hb dX5_goOn_142 (by decide) ?_
        exact ih26 (j + 1, y_14, y_15, y_16) H locs ls (show 18 - (j + 1) < 18 - j by omega) ⟨hP.sub [0, 1, 2, 3] rfl, hD.sub [0, 1, 2, 3] (by decide) rfl, hS, lv_sub hl [0, 2, 3, 4] rfl, trivial, (by omega), hA3, hB3, (tries_step hno hnt)⟩
set_option maxHeartbeats 4000000 in
set_option maxRecDepth 100000 in
theorem x_goOn_5 (l : Launch) (dC : Nat → ClassId) (dI : Nat → Nat → Nat) (sz : Nat) (q : Nat) (fs : List Value) (rw9 : Nat) (pa : Nat) (pb : Nat) (gl : Int64) (cA : ClassId) (cB : ClassId) (fA : Nat → Int64) (fB : Nat → Int64) (cR : ClassId) (fr : Nat → Int32) (put : Nat) (L_fs : fs.length = 15) (K10_fs : fs[10]? = some (.ref rw9)) (K12_fs : fs[12]? = some (.ref pa)) (K13_fs : fs[13]? = some (.ref pb)) (K14_fs : fs[14]? = some (.long gl)) (hput : put + 5 ≤ 5) : Met l yX5_goOn (Cond.code yX5_goOn cX5_goOn 6 (some .boolean) :: tb) ({ frames := 9, cells := 0, slots := 0, locals := 244 }) (pcw [.ref q, .int (nI put), .int 5] (dC, dI) [(q, .inr (5, fs)), (pa, .inl (cA, 6, .inr (.inl fA))), (pb, .inl (cB, 6, .inr (.inl fB))), (rw9, .inl (cR, 5, .inl fr))] [(cA, .long), (cB, .long), (cR, .int)] sz) (va_Qi (fun (r : Int32) => (fun (u : (Nat → Int64) × (Nat → Int64) × (Nat → Int32)) => match u with | (gA, gB, gr) => ((∀ i, i ≤ put → gA i = fA i) ∧ (∀ i, i ≤ put → gB i = fB i)) ∧ ((r = 1 ∧ dfs gl 5 (pastOf fA fB put) (fA put, fB put)) ∨ (r = 0 ∧ ¬ dfs gl 5 (pastOf fA fB put) (fA put, fB put))))) (bw (dC, dI) (va_A [(q, .inr (5, fs)), (pa, .inl (cA, 6, .inr (.inl fA))), (pb, .inl (cB, 6, .inr (.inl fB))), (rw9, .inl (cR, 5, .inl fr))] sz) (fun (u : (Nat → Int64) × (Nat → Int64) × (Nat → Int32)) => match u with | (gA, gB, gr) => [(q, .inr (5, fs)), (pa, .inl (cA, 6, .inr (.inl gA))), (pb, .inl (cB, 6, .inr (.inl gB))), (rw9, .inl (cR, 5, .inl gr))]) (fun (u : (Nat → Int64) × (Nat → Int64) × (Nat → Int32)) => match u with | (gA, gB, gr) => [])) (va_A [(q, .inr (5, fs)), (pa, .inl (cA, 6, .inr (.inl fA))), (pb, .inl (cB, 6, .inr (.inl fB))), (rw9, .inl (cR, 5, .inl fr))] sz)) 0 0 (va_A [(q, .inr (5, fs)), (pa, .inl (cA, 6, .inr (.inl fA))), (pb, .inl (cB, 6, .inr (.inl fB))), (rw9, .inl (cR, 5, .inl fr))] sz) := by
  refine Met.ofW (cc := cX5_goOn) (maxL := 6) (ret := (some .boolean)) (by decide) rfl ?_
  intro p e s m args below meth c s₁ B hml hv
  obtain ⟨rfl, hsz, hP, hK, hD0⟩ := hv
  have hx := B.exec
  have hb := B.bytes
  have hr := B.returns
  have hts := atoms_spec (ws := Cond.code yX5_goOn cX5_goOn 6 (some .boolean) :: tb) B.pre
  have ht : ∀ w ∈ tb, w.before _ s = true := fun w h => hts w (List.mem_cons_of_mem _ h)
  have hown : s.vm.findClass RX5 = some m.cls := findClass_of_methodNamed B.named
  have hlocks := B.notSynchronized
  subst hsz
  have hD := hD0.self (sz := s.heap.size)
  generalize hAe : va_A [(q, .inr (5, fs)), (pa, .inl (cA, 6, .inr (.inl fA))), (pb, .inl (cB, 6, .inr (.inl fB))), (rw9, .inl (cR, 5, .inl fr))] s.heap.size = A at hD ⊢
  have hA : ∀ q : Nat, s.heap.size ≤ q → A q := fun q h => by rw [← hAe]; exact Or.inr h
  have hS : va_S A s.heap s.heap [] := va_S.rf
  have hl := lv_entry ([.ref q, .int (nI put), .int 5]) (n := 6) (Nat.le_of_ble_eq_true rfl)
  rw [lg_entry_eq]
  generalize (lg_sl ([.ref q, .int (nI put), .int 5]) ++ List.replicate (6 - (lg_sl ([.ref q, .int (nI put), .int 5])).length) Slot.unset).toArray = ls at hl ⊢
  have hl : lv_has ls 6 [(0, .ref q), (1, .int (nI put)), (2, .int 5)] := hl
  have hP : va_P (dC, dI) cls [(q, .inr (5, fs)), (pa, .inl (cA, 6, .inr (.inl fA))), (pb, .inl (cB, 6, .inr (.inl fB))), (rw9, .inl (cR, 5, .inl fr))] s.heap := hP
  refine lv_iload_n hx hb dX5_goOn_0 rfl (lv_at hl 2 rfl) ?_
  refine lv_if_ne (tgt := 24) hx hb dX5_goOn_1 (by decide) (fun _ => ?_) (fun c0 => absurd c0 (by decide))
  refine lv_iconst (v := 0) hx hb dX5_goOn_24 (by decide) ?_
  refine lv_istore_n (lv' := [(3, .int 0), (0, .ref q), (1, .int (nI put)), (2, .int 5)]) hx hb dX5_goOn_25 rfl hl (by decide) rfl (fun ls hl => ?_)
  refine lp_rule (fun H locs ls => W p l e _ s m _ below meth c H locs _ _ _ (F0 m 26 ls [])) (fun (z : Nat × (Nat → Int64) × (Nat → Int64) × (Nat → Int32)) H locs ls => match z with | (j, hA9, hB9, hr9) => va_P (dC, dI) cls [(q, .inr (5, fs)), (pa, .inl (cA, 6, .inr (.inl hA9))), (pb, .inl (cB, 6, .inr (.inl hB9))), (rw9, .inl (cR, 5, .inl hr9))] H ∧ va_D A [(q, .inr (5, fs)), (pa, .inl (cA, 6, .inr (.inl hA9))), (pb, .inl (cB, 6, .inr (.inl hB9))), (rw9, .inl (cR, 5, .inl hr9))] ∧ va_S A s.heap H locs ∧ lv_has ls 6 [(3, .int (nI j)), (2, .int 5), (1, .int (nI put)), (0, .ref q)] ∧ True ∧ j ≤ 18 ∧ (∀ i, i ≤ put → hA9 i = fA i) ∧ (∀ i, i ≤ put → hB9 i = fB i) ∧ ∀ i, i < j → ¬ tryOf gl 4 fA fB put i) (fun (z : Nat × (Nat → Int64) × (Nat → Int64) × (Nat → Int32)) => match z with | (j, hA9, hB9, hr9) => 18 - j) ?_ (0, fA, fB, fr) s.heap [] ls ⟨hP, hD, hS, lv_sub hl [0, 3, 2, 1] rfl, trivial, (by decide), (fun _ _ => rfl), (fun _ _ => rfl), (fun i hi => absurd hi (Nat.not_lt_zero _))⟩
  intro z H locs ls hI ih26
  obtain ⟨j, hA9, hB9, hr9⟩ := z
  obtain ⟨hP, hD, hS, hl, -, hj, hgA, hgB, hno⟩ := hI
  have hP : va_P (dC, dI) cls [(q, .inr (5, fs)), (pa, .inl (cA, 6, .inr (.inl hA9))), (pb, .inl (cB, 6, .inr (.inl hB9))), (rw9, .inl (cR, 5, .inl hr9))] H := hP
  have hD : va_D A [(q, .inr (5, fs)), (pa, .inl (cA, 6, .inr (.inl hA9))), (pb, .inl (cB, 6, .inr (.inl hB9))), (rw9, .inl (cR, 5, .inl hr9))] := hD
  have hl : lv_has ls 6 [(3, .int (nI j)), (2, .int 5), (1, .int (nI put)), (0, .ref q)] := hl
  refine lv_iload_n hx hb dX5_goOn_26 rfl (lv_at hl 0 rfl) ?_
  refine lv_bipush (v := 18) hx hb dX5_goOn_27 (by decide) ?_
  refine lv_icmp_ge (tgt := 145) hx hb dX5_goOn_29 (by decide) (fun b_1 => ?_) (fun b_1 => ?_)
  · refine lv_iconst (v := 0) hx hb dX5_goOn_145 (by decide) ?_
    exact W.zret (v := 0) hx hb hr rfl (fun t ht9 hW => ⟨⟨0, (hA9, hB9, hr9), rfl, ⟨⟨hgA, hgB⟩, Or.inr ⟨rfl, dfs_no (fun i hi => hno i (by have := eq18' hj b_1; omega))⟩⟩, by rw [ht9]; exact hP.sub [0, 1, 2, 3] rfl, va_K.moved hW.alike (hK.sub [] rfl), hD.sub [0, 1, 2, 3] (by decide) rfl⟩, hS.F ht9⟩) hS.2.2 dX5_goOn_146
  · have hj18 : j < 18 := lt18' hj b_1
    refine lv_iload_n hx hb dX5_goOn_32 rfl (lv_at hl 2 rfl) ?_
    refine lv_iconst (v := 5) hx hb dX5_goOn_33 (by decide) ?_
    refine lv_icmp_ge (tgt := 145) hx hb dX5_goOn_34 (by decide) (fun c0 => absurd c0 ((show ¬ nI 5 ≤ nI put from nI_ge (by omega) (by decide)))) (fun _ => ?_)
    refine lv_iload_n hx hb dX5_goOn_37 rfl (lv_at hl 0 rfl) ?_
    refine lv_aload_n hx hb dX5_goOn_38 rfl (lv_at hl 3 rfl) ?_
    refine va_get (D := (dC, dI)) (ci := 5) (v := .ref pa) (C := RX5) (T := TX5) (N := 15) hx hb ht uX5 hown hK hP 0 rfl rfl 12 (by decide) (ht _ k_4_22) (fun _ h9 => h9) K12_fs dX5_goOn_39 ?_
    refine lv_iload_n hx hb dX5_goOn_42 rfl (lv_at hl 2 rfl) ?_
    refine va_lald hx hb hK hP 1 0 rfl rfl (vp_in_nI (by omega) (by decide)) dX5_goOn_43 ?_
    refine tk_l (y := (fA put)) (by rw [nI_clamp (by omega)]; exact hgA put (Nat.le_refl _)) ?_
    refine lv_aload_n hx hb dX5_goOn_44 rfl (lv_at hl 3 rfl) ?_
    refine va_get (D := (dC, dI)) (ci := 5) (v := .ref pb) (C := RX5) (T := TX5) (N := 15) hx hb ht uX5 hown hK hP 0 rfl rfl 13 (by decide) (ht _ k_4_23) (fun _ h9 => h9) K13_fs dX5_goOn_45 ?_
    refine lv_iload_n hx hb dX5_goOn_48 rfl (lv_at hl 2 rfl) ?_
    refine va_lald hx hb hK hP 2 1 rfl rfl (vp_in_nI (by omega) (by decide)) dX5_goOn_49 ?_
    refine tk_l (y := (fB put)) (by rw [nI_clamp (by omega)]; exact hgB put (Nat.le_refl _)) ?_
    refine ca_l (wr := [(q, .inr (5, fs)), (pa, .inl (cA, 6, .inr (.inl hA9))), (pb, .inl (cB, 6, .inr (.inl hB9))), (rw9, .inl (cR, 5, .inl hr9))]) (va_runS (As := [.int (nI j), .long (fA put), .long (fB put)]) (rest := []) ⟨hx, hb, hml, hown, ht⟩ (x_nextA l dC dI H.size j (fA put) (fB put)  hj18) (cwS 3 ht (gdS k_8_233 k_8_231 k_8_232 k_1_15) rfl rfl rfl (by decide +kernel) ⟨Nat.le_of_ble_eq_true rfl, Nat.le_of_ble_eq_true rfl⟩) ⟨pcw_blind, pcw_at hP hD hK [] [] (by decide) rfl rfl rfl⟩ rfl rfl hl.1 rfl (lv_room (Nat.le_of_ble_eq_true rfl)) dX5_goOn_50 ⟨Nat.le_of_ble_eq_true rfl, Nat.le_of_ble_eq_true rfl⟩) hP hD hK hS hA [] [0, 1, 2, 3] rfl rfl (by decide) (by decide) (fun r_2 u H locs w_3 hK hP hD hS => ?_)
    have hK : va_K (dC, dI) cls [(cA, .long), (cB, .long), (cR, .int)] s := hK
    have hP : va_P (dC, dI) cls [(q, .inr (5, fs)), (pa, .inl (cA, 6, .inr (.inl hA9))), (pb, .inl (cB, 6, .inr (.inl hB9))), (rw9, .inl (cR, 5, .inl hr9))] H := hP
    have hD : va_D A [(q, .inr (5, fs)), (pa, .inl (cA, 6, .inr (.inl hA9))), (pb, .inl (cB, 6, .inr (.inl hB9))), (rw9, .inl (cR, 5, .inl hr9))] := hD
    refine lv_lstore (lv' := [(4, .long r_2), (3, .int (nI j)), (2, .int 5), (1, .int (nI put)), (0, .ref q)]) hx hb dX5_goOn_53 hl (by decide) rfl (fun ls hl => ?_)
    refine lv_iload_n hx hb dX5_goOn_55 rfl (lv_at hl 2 rfl) ?_
    refine lv_iconst (v := 1) hx hb dX5_goOn_56 (by decide) ?_
    refine lv_icmp_ne (tgt := 73) hx hb dX5_goOn_57 (by decide) (fun _ => ?_) (fun c0 => absurd c0 (by decide))
    refine lv_aload_n hx hb dX5_goOn_73 rfl (lv_at hl 4 rfl) ?_
    refine va_get (D := (dC, dI)) (ci := 5) (v := .ref pa) (C := RX5) (T := TX5) (N := 15) hx hb ht uX5 hown hK hP 0 rfl rfl 12 (by decide) (ht _ k_4_22) (fun _ h9 => h9) K12_fs dX5_goOn_74 ?_
    refine lv_iload_n hx hb dX5_goOn_77 rfl (lv_at hl 3 rfl) ?_
    refine lv_iconst (v := 1) hx hb dX5_goOn_78 (by decide) ?_
    refine lv_iadd hx hb dX5_goOn_79 ?_
    refine tk_i (y := (nI (put + 1))) (nI_1 put) ?_
    refine lv_lload hx hb dX5_goOn_80 (lv_at hl 0 rfl) ?_
    refine va_last (i := (nI (put + 1))) (x := r_2) hx hb hK hP hD hS 1 0 rfl rfl (vp_in_nI (by omega) (by decide)) dX5_goOn_82 (fun H locs hP hD hS => ?_)
    obtain ⟨f_4, ef_4⟩ : ∃ g : Nat → Int64, g = vp_updL hA9 (nI (put + 1)).toNatClampNeg r_2 := ⟨_, rfl⟩
    rw [← ef_4] at hP hD
    have hP : va_P (dC, dI) cls [(q, .inr (5, fs)), (pa, .inl (cA, 6, .inr (.inl f_4))), (pb, .inl (cB, 6, .inr (.inl hB9))), (rw9, .inl (cR, 5, .inl hr9))] H := hP
    have hD : va_D A [(q, .inr (5, fs)), (pa, .inl (cA, 6, .inr (.inl f_4))), (pb, .inl (cB, 6, .inr (.inl hB9))), (rw9, .inl (cR, 5, .inl hr9))] := hD
    refine lv_aload_n hx hb dX5_goOn_83 rfl (lv_at hl 4 rfl) ?_
    refine va_get (D := (dC, dI)) (ci := 5) (v := .ref pb) (C := RX5) (T := TX5) (N := 15) hx hb ht uX5 hown hK hP 0 rfl rfl 13 (by decide) (ht _ k_4_23) (fun _ h9 => h9) K13_fs dX5_goOn_84 ?_
    refine lv_iload_n hx hb dX5_goOn_87 rfl (lv_at hl 3 rfl) ?_
    refine lv_iconst (v := 1) hx hb dX5_goOn_88 (by decide) ?_
    refine lv_iadd hx hb dX5_goOn_89 ?_
    refine tk_i (y := (nI (put + 1))) (nI_1 put) ?_
    refine lv_iload_n hx hb dX5_goOn_90 rfl (lv_at hl 1 rfl) ?_
    refine lv_aload_n hx hb dX5_goOn_91 rfl (lv_at hl 4 rfl) ?_
    refine va_get (D := (dC, dI)) (ci := 5) (v := .ref pa) (C := RX5) (T := TX5) (N := 15) hx hb ht uX5 hown hK hP 0 rfl rfl 12 (by decide) (ht _ k_4_22) (fun _ h9 => h9) K12_fs dX5_goOn_92 ?_
    refine lv_iload_n hx hb dX5_goOn_95 rfl (lv_at hl 3 rfl) ?_
    refine va_lald hx hb hK hP 1 0 rfl rfl (vp_in_nI (by omega) (by decide)) dX5_goOn_96 ?_
    refine tk_l (y := (fA put)) (by rw [nI_clamp (by omega)]; exact uL_all (by omega) ef_4 hgA put (Nat.le_refl _)) ?_
    refine lv_aload_n hx hb dX5_goOn_97 rfl (lv_at hl 4 rfl) ?_
    refine va_get (D := (dC, dI)) (ci := 5) (v := .ref pb) (C := RX5) (T := TX5) (N := 15) hx hb ht uX5 hown hK hP 0 rfl rfl 13 (by decide) (ht _ k_4_23) (fun _ h9 => h9) K13_fs dX5_goOn_98 ?_
    refine lv_iload_n hx hb dX5_goOn_101 rfl (lv_at hl 3 rfl) ?_
    refine va_lald hx hb hK hP 2 1 rfl rfl (vp_in_nI (by omega) (by decide)) dX5_goOn_102 ?_
    refine tk_l (y := (fB put)) (by rw [nI_clamp (by omega)]; exact hgB put (Nat.le_refl _)) ?_
    refine ca_l (wr := [(q, .inr (5, fs)), (pa, .inl (cA, 6, .inr (.inl f_4))), (pb, .inl (cB, 6, .inr (.inl hB9))), (rw9, .inl (cR, 5, .inl hr9))]) (va_runS (As := [.int (nI j), .long (fA put), .long (fB put)]) (rest := [.int (nI (put + 1)), .ref pb]) ⟨hx, hb, hml, hown, ht⟩ (x_nextB l dC dI H.size j (fA put) (fB put)  hj18) (cwS 3 ht (gdS k_9_10 k_9_8 k_9_9 k_1_15) rfl rfl rfl (by decide +kernel) ⟨Nat.le_of_ble_eq_true rfl, Nat.le_of_ble_eq_true rfl⟩) ⟨pcw_blind, pcw_at hP hD hK [] [] (by decide) rfl rfl rfl⟩ rfl rfl hl.1 rfl (lv_room (Nat.le_of_ble_eq_true rfl)) dX5_goOn_103 ⟨Nat.le_of_ble_eq_true rfl, Nat.le_of_ble_eq_true rfl⟩) hP hD hK hS hA [] [0, 1, 2, 3] rfl rfl (by decide) (by decide) (fun r_5 u H locs w_6 hK hP hD hS => ?_)
    have hK : va_K (dC, dI) cls [(cA, .long), (cB, .long), (cR, .int)] s := hK
    have hP : va_P (dC, dI) cls [(q, .inr (5, fs)), (pa, .inl (cA, 6, .inr (.inl f_4))), (pb, .inl (cB, 6, .inr (.inl hB9))), (rw9, .inl (cR, 5, .inl hr9))] H := hP
    have hD : va_D A [(q, .inr (5, fs)), (pa, .inl (cA, 6, .inr (.inl f_4))), (pb, .inl (cB, 6, .inr (.inl hB9))), (rw9, .inl (cR, 5, .inl hr9))] := hD
    refine va_last (i := (nI (put + 1))) (x := r_5) hx hb hK hP hD hS 2 1 rfl rfl (vp_in_nI (by omega) (by decide)) dX5_goOn_106 (fun H locs hP hD hS => ?_)
    obtain ⟨f_7, ef_7⟩ : ∃ g : Nat → Int64, g = vp_updL hB9 (nI (put + 1)).toNatClampNeg r_5 := ⟨_, rfl⟩
    rw [← ef_7] at hP hD
    have hP : va_P (dC, dI) cls [(q, .inr (5, fs)), (pa, .inl (cA, 6, .inr (.inl f_4))), (pb, .inl (cB, 6, .inr (.inl f_7))), (rw9, .inl (cR, 5, .inl hr9))] H := hP
    have hD : va_D A [(q, .inr (5, fs)), (pa, .inl (cA, 6, .inr (.inl f_4))), (pb, .inl (cB, 6, .inr (.inl f_7))), (rw9, .inl (cR, 5, .inl hr9))] := hD
    refine lv_aload_n hx hb dX5_goOn_107 rfl (lv_at hl 4 rfl) ?_
    refine va_get (D := (dC, dI)) (ci := 5) (v := .ref rw9) (C := RX5) (T := TX5) (N := 15) hx hb ht uX5 hown hK hP 0 rfl rfl 10 (by decide) (ht _ k_4_18) (fun _ h9 => h9) K10_fs dX5_goOn_108 ?_
    refine lv_iload_n hx hb dX5_goOn_111 rfl (lv_at hl 3 rfl) ?_
    refine lv_iload_n hx hb dX5_goOn_112 rfl (lv_at hl 1 rfl) ?_
    refine va_iast (i := (nI put)) (x := (nI j)) hx hb hK hP hD hS 3 2 rfl rfl (vp_in_nI (by omega) (by decide)) dX5_goOn_113 (fun H locs hP hD hS => ?_)
    obtain ⟨f_8, ef_8⟩ : ∃ g : Nat → Int32, g = upd hr9 (nI put).toNatClampNeg (nI j) := ⟨_, rfl⟩
    rw [← ef_8] at hP hD
    have hP : va_P (dC, dI) cls [(q, .inr (5, fs)), (pa, .inl (cA, 6, .inr (.inl f_4))), (pb, .inl (cB, 6, .inr (.inl f_7))), (rw9, .inl (cR, 5, .inl f_8))] H := hP
    have hD : va_D A [(q, .inr (5, fs)), (pa, .inl (cA, 6, .inr (.inl f_4))), (pb, .inl (cB, 6, .inr (.inl f_7))), (rw9, .inl (cR, 5, .inl f_8))] := hD
    have hA1 := uL_all (by omega) ef_4 hgA
    have hB1 := uL_all (by omega) ef_7 hgB
    have hst : (f_4 (put + 1), f_7 (put + 1)) = stp j (fA put, fB put) := by rw [uL_at (by omega) ef_4, uL_at (by omega) ef_7, w_3, w_6]; rfl
    refine lv_aload_n hx hb dX5_goOn_114 rfl (lv_at hl 4 rfl) ?_
    refine lv_iload_n hx hb dX5_goOn_115 rfl (lv_at hl 3 rfl) ?_
    refine lv_iconst (v := 1) hx hb dX5_goOn_116 (by decide) ?_
    refine lv_iadd hx hb dX5_goOn_117 ?_
    refine tk_i (y := (nI (put + 1))) (nI_1 put) ?_
    refine ca_i (wr := [(rw9, .inl (cR, 5, .inl f_8))]) (va_runV (As := [.int (nI (put + 1))]) (rest := []) ⟨hx, hb, hml, hown, ht⟩ (x_came l dC dI H.size q fs rw9 pa pb gl cA cB f_4 f_7 (put + 1) L_fs K10_fs K12_fs K13_fs K14_fs (by omega)) (cwV 1 ht (gdV k_9_14 k_9_11 k_9_13 ks_102 k_1_15) rfl rfl rfl (by decide +kernel) ⟨Nat.le_of_ble_eq_true rfl, Nat.le_of_ble_eq_true rfl⟩) ⟨pcw_blind, va_recv hK hP (ci := 5) (q0 := 0) rfl rfl, pcw_at hP hD hK [0, 1, 2] [0, 1] (by decide) rfl rfl rfl⟩ rfl rfl hl.1 rfl (lv_room (Nat.le_of_ble_eq_true rfl)) dX5_goOn_118 ⟨Nat.le_of_ble_eq_true rfl, Nat.le_of_ble_eq_true rfl⟩) hP hD hK hS hA [0, 1, 2] [3] rfl rfl (by decide) (by decide) (fun r_9 u H locs w_10 hK hP hD hS => ?_)
    have hK : va_K (dC, dI) cls [(cA, .long), (cB, .long), (cR, .int)] s := hK
    have hP : va_P (dC, dI) cls [(rw9, .inl (cR, 5, .inl f_8)), (q, .inr (5, fs)), (pa, .inl (cA, 6, .inr (.inl f_4))), (pb, .inl (cB, 6, .inr (.inl f_7)))] H := hP
    have hD : va_D A [(rw9, .inl (cR, 5, .inl f_8)), (q, .inr (5, fs)), (pa, .inl (cA, 6, .inr (.inl f_4))), (pb, .inl (cB, 6, .inr (.inl f_7)))] := hD
    rcases w_10 with ⟨rfl, n_11⟩ | ⟨rfl, n_11⟩
    · refine lv_if_ne (tgt := 139) hx hb dX5_goOn_121 (by decide) (fun _ => ?_) (fun c0 => absurd c0 (by decide))
      have hnt : ¬ tryOf gl 4 fA fB put j := fun h => h.1 ((try_past hA1 hB1 hst).mp n_11)
      refine lv_iinc (v := (nI (j + 1))) (lv' := [(3, .int (nI (j + 1))), (4, .long r_2), (2, .int 5), (1, .int (nI put)), (0, .ref q)]) hx hb dX5_goOn_139 hl (k := 1) rfl (nI_1 j) (by decide) rfl (fun ls hl => ?_)
      refine lv_goto (tgt := 26) hx hb dX5_goOn_142 (by decide) ?_
      exact ih26 (j + 1, f_4, f_7, f_8) H locs ls (show 18 - (j + 1) < 18 - j by omega) ⟨hP.sub [1, 2, 3, 0] rfl, hD.sub [1, 2, 3, 0] (by decide) rfl, hS, lv_sub hl [0, 2, 3, 4] rfl, trivial, (by omega), hA1, hB1, (tries_step hno hnt)⟩
    · refine lv_if_ne (tgt := 139) hx hb dX5_goOn_121 (by decide) (fun c0 => absurd c0 (by decide)) (fun _ => ?_)
      refine lv_aload_n hx hb dX5_goOn_124 rfl (lv_at hl 4 rfl) ?_
      refine lv_iload_n hx hb dX5_goOn_125 rfl (lv_at hl 3 rfl) ?_
      refine lv_iconst (v := 1) hx hb dX5_goOn_126 (by decide) ?_
      refine lv_iadd hx hb dX5_goOn_127 ?_
      refine tk_i (y := (nI (put + 1))) (nI_1 put) ?_
      refine lv_iload_n hx hb dX5_goOn_128 rfl (lv_at hl 2 rfl) ?_
      refine lv_iconst (v := 1) hx hb dX5_goOn_129 (by decide) ?_
      refine lv_isub hx hb dX5_goOn_130 ?_
      refine tk_i (y := 4) (by decide) ?_
      refine ca_i (wr := []) (va_runV (As := [.int (nI (put + 1)), .int 4]) (rest := []) ⟨hx, hb, hml, hown, ht⟩ (x_goOn_4 l dC dI H.size q fs rw9 pa pb gl cA cB f_4 f_7 cR f_8 (put + 1) L_fs K10_fs K12_fs K13_fs K14_fs (by omega)) (cwV 2 ht (gdV k_8_230 k_8_227 k_8_229 ks_101 k_1_15) rfl rfl rfl (by decide +kernel) ⟨Nat.le_of_ble_eq_true rfl, Nat.le_of_ble_eq_true rfl⟩) ⟨pcw_blind, va_recv hK hP (ci := 5) (q0 := 1) rfl rfl, pcw_at hP hD hK [1, 2, 3, 0] [0, 1, 2] (by decide) rfl rfl rfl⟩ rfl rfl hl.1 rfl (lv_room (Nat.le_of_ble_eq_true rfl)) dX5_goOn_131 ⟨Nat.le_of_ble_eq_true rfl, Nat.le_of_ble_eq_true rfl⟩) hP hD hK hS hA [1, 2, 3, 0] [] rfl rfl (by decide) (by decide) (fun r_12 u H locs w_13 hK hP hD hS => ?_)
      obtain ⟨y_14, y_15, y_16⟩ := u
      have hK : va_K (dC, dI) cls [(cA, .long), (cB, .long), (cR, .int)] s := hK
      have hP : va_P (dC, dI) cls [(q, .inr (5, fs)), (pa, .inl (cA, 6, .inr (.inl y_14))), (pb, .inl (cB, 6, .inr (.inl y_15))), (rw9, .inl (cR, 5, .inl y_16))] H := hP
      have hD : va_D A [(q, .inr (5, fs)), (pa, .inl (cA, 6, .inr (.inl y_14))), (pb, .inl (cB, 6, .inr (.inl y_15))), (rw9, .inl (cR, 5, .inl y_16))] := hD
      obtain ⟨⟨hA2, hB2⟩, w_13⟩ := w_13
      have hA3 : ∀ i, i ≤ put → y_14 i = fA i := fun i hi => (hA2 i (by omega)).trans (hA1 i hi)
      have hB3 : ∀ i, i ≤ put → y_15 i = fB i := fun i hi => (hB2 i (by omega)).trans (hB1 i hi)
      rcases w_13 with ⟨rfl, n_17⟩ | ⟨rfl, n_17⟩
      · refine lv_if_eq (tgt := 139) hx hb dX5_goOn_134 (by decide) (fun c0 => absurd c0 (by decide)) (fun _ => ?_)
        refine lv_iconst (v := 1) hx hb dX5_goOn_137 (by decide) ?_
        exact W.zret (v := 1) hx hb hr rfl (fun t ht9 hW => ⟨⟨1, (y_14, y_15, y_16), rfl, ⟨⟨hA3, hB3⟩, Or.inl ⟨rfl, dfs_yes hj18 ⟨fun h => n_11 ((try_past hA1 hB1 hst).mpr h), (try_dfs hA1 hB1 hst).mp n_17⟩⟩⟩, by rw [ht9]; exact hP.sub [0, 1, 2, 3] rfl, va_K.moved hW.alike (hK.sub [] rfl), hD.sub [0, 1, 2, 3] (by decide) rfl⟩, hS.F ht9⟩) hS.2.2 dX5_goOn_138
      · refine lv_if_eq (tgt := 139) hx hb dX5_goOn_134 (by decide) (fun _ => ?_) (fun c0 => absurd c0 (by decide))
        have hnt : ¬ tryOf gl 4 fA fB put j := fun h => n_17 ((try_dfs hA1 hB1 hst).mpr h.2)
        refine lv_iinc (v := (nI (j + 1))) (lv' := [(3, .int (nI (j + 1))), (4, .long r_2), (2, .int 5), (1, .int (nI put)), (0, .ref q)]) hx hb dX5_goOn_139 hl (k := 1) rfl (nI_1 j) (by decide) rfl (fun ls hl => ?_)
        refine lv_goto (tgt := 26) hx hb dX5_goOn_142 (by decide) ?_
        exact ih26 (j + 1, y_14, y_15, y_16) H locs ls (show 18 - (j + 1) < 18 - j by omega) ⟨hP.sub [0, 1, 2, 3] rfl, hD.sub [0, 1, 2, 3] (by decide) rfl, hS, lv_sub hl [0, 2, 3, 4] rfl, trivial, (by omega), hA3, hB3, (tries_step hno hnt)⟩
set_option maxHeartbeats 4000000 in
set_option maxRecDepth 100000 in
theorem x_findRow (l : Launch) (dC : Nat → ClassId) (dI : Nat → Nat → Nat) (sz : Nat) (q : Nat) (fs : List Value) (rw9 : Nat) (pa : Nat) (pb : Nat) (cA : ClassId) (cB : ClassId) (fA : Nat → Int64) (fB : Nat → Int64) (cR : ClassId) (fr : Nat → Int32) (goal : Int64) (mm : Nat) (L_fs : fs.length = 15) (K10_fs : fs[10]? = some (.ref rw9)) (K12_fs : fs[12]? = some (.ref pa)) (K13_fs : fs[13]? = some (.ref pb)) (hm : mm ≤ 5) : Met l yX5_findRow (Cond.code yX5_findRow cX5_findRow 5 (some .int) :: tb) ({ frames := 10, cells := 0, slots := 0, locals := 269 }) (pcw [.ref q, .long goal, .int (nI mm)] (dC, dI) [(q, .inr (5, fs)), (pa, .inl (cA, 6, .inr (.inl fA))), (pb, .inl (cB, 6, .inr (.inl fB))), (rw9, .inl (cR, 5, .inl fr))] [(cA, .long), (cB, .long), (cR, .int)] sz) (va_Qi (fun (r : Int32) => (fun (_ : Unit) => isAns goal mm r)) (bw (dC, dI) (va_A [(q, .inr (5, fs)), (pa, .inl (cA, 6, .inr (.inl fA))), (pb, .inl (cB, 6, .inr (.inl fB))), (rw9, .inl (cR, 5, .inl fr))] sz) (fun (_ : Unit) => []) (fun (_ : Unit) => [])) (va_A [(q, .inr (5, fs)), (pa, .inl (cA, 6, .inr (.inl fA))), (pb, .inl (cB, 6, .inr (.inl fB))), (rw9, .inl (cR, 5, .inl fr))] sz)) 0 0 (va_A [(q, .inr (5, fs)), (pa, .inl (cA, 6, .inr (.inl fA))), (pb, .inl (cB, 6, .inr (.inl fB))), (rw9, .inl (cR, 5, .inl fr))] sz) := by
  refine Met.ofW (cc := cX5_findRow) (maxL := 5) (ret := (some .int)) (by decide) rfl ?_
  intro p e s m args below meth c s₁ B hml hv
  obtain ⟨rfl, hsz, hP, hK, hD0⟩ := hv
  have hx := B.exec
  have hb := B.bytes
  have hr := B.returns
  have hts := atoms_spec (ws := Cond.code yX5_findRow cX5_findRow 5 (some .int) :: tb) B.pre
  have ht : ∀ w ∈ tb, w.before _ s = true := fun w h => hts w (List.mem_cons_of_mem _ h)
  have hown : s.vm.findClass RX5 = some m.cls := findClass_of_methodNamed B.named
  have hlocks := B.notSynchronized
  subst hsz
  have hD := hD0.self (sz := s.heap.size)
  generalize hAe : va_A [(q, .inr (5, fs)), (pa, .inl (cA, 6, .inr (.inl fA))), (pb, .inl (cB, 6, .inr (.inl fB))), (rw9, .inl (cR, 5, .inl fr))] s.heap.size = A at hD ⊢
  have hA : ∀ q : Nat, s.heap.size ≤ q → A q := fun q h => by rw [← hAe]; exact Or.inr h
  have hS : va_S A s.heap s.heap [] := va_S.rf
  have hl := lv_entry ([.ref q, .long goal, .int (nI mm)]) (n := 5) (Nat.le_of_ble_eq_true rfl)
  rw [lg_entry_eq]
  generalize (lg_sl ([.ref q, .long goal, .int (nI mm)]) ++ List.replicate (5 - (lg_sl ([.ref q, .long goal, .int (nI mm)])).length) Slot.unset).toArray = ls at hl ⊢
  have hl : lv_has ls 5 [(0, .ref q), (1, .long goal), (3, .int (nI mm))] := hl
  have hP : va_P (dC, dI) cls [(q, .inr (5, fs)), (pa, .inl (cA, 6, .inr (.inl fA))), (pb, .inl (cB, 6, .inr (.inl fB))), (rw9, .inl (cR, 5, .inl fr))] s.heap := hP
  have hm0 : ¬ nI mm < 0 := (nn6 mm (by omega)).1
  have hm5 : nI mm ≤ 5 := (nn6 mm (by omega)).2
  refine lv_aload_n hx hb dX5_findRow_0 rfl (lv_at hl 0 rfl) ?_
  refine lv_lload_n hx hb dX5_findRow_1 rfl (lv_at hl 1 rfl) ?_
  refine va_put (D := (dC, dI)) (ci := 5) (v := .long goal) (ty := .long) (C := RX5) (T := TX5) (N := 15) hx hb ht uX5 tyX5 tkX5 nmX5 hown hK hP hD hS 0 rfl rfl 14 (by decide) (ht _ k_4_24) (fun _ h9 => h9) rfl (by decide +kernel) rfl rfl (by rw [L_fs]; decide) dX5_findRow_2 (fun H locs hP hD hS => ?_)
  obtain ⟨F_1, eF_1⟩ : ∃ g : List Value, g = fs.set 14 (.long goal) := ⟨_, rfl⟩
  rw [← eF_1] at hP hD
  have K10_F_1 : F_1[10]? = some (.ref rw9) := by rw [eF_1, List.getElem?_set_ne (by decide)]; exact K10_fs
  have K12_F_1 : F_1[12]? = some (.ref pa) := by rw [eF_1, List.getElem?_set_ne (by decide)]; exact K12_fs
  have K13_F_1 : F_1[13]? = some (.ref pb) := by rw [eF_1, List.getElem?_set_ne (by decide)]; exact K13_fs
  have K14_F_1 : F_1[14]? = some (.long goal) := by rw [eF_1]; exact List.getElem?_set_self (by rw [L_fs]; decide)
  have L_F_1 : F_1.length = 15 := by rw [eF_1, List.length_set]; exact L_fs
  have hP : va_P (dC, dI) cls [(q, .inr (5, F_1)), (pa, .inl (cA, 6, .inr (.inl fA))), (pb, .inl (cB, 6, .inr (.inl fB))), (rw9, .inl (cR, 5, .inl fr))] H := hP
  have hD : va_D A [(q, .inr (5, F_1)), (pa, .inl (cA, 6, .inr (.inl fA))), (pb, .inl (cB, 6, .inr (.inl fB))), (rw9, .inl (cR, 5, .inl fr))] := hD
  refine lv_aload_n hx hb dX5_findRow_5 rfl (lv_at hl 0 rfl) ?_
  refine va_get (D := (dC, dI)) (ci := 5) (v := .ref pa) (C := RX5) (T := TX5) (N := 15) hx hb ht uX5 hown hK hP 0 rfl rfl 12 (by decide) (ht _ k_4_22) (fun _ h9 => h9) K12_F_1 dX5_findRow_6 ?_
  refine lv_iconst (v := 0) hx hb dX5_findRow_9 (by decide) ?_
  refine lv_ldc2 (v := (-81985529216486896)) hx hb hown (ht _ k_8_226) dX5_findRow_10 ?_
  refine va_last (i := 0) (x := (-81985529216486896)) hx hb hK hP hD hS 1 0 rfl rfl (by unfold vp_in; decide) dX5_findRow_13 (fun H locs hP hD hS => ?_)
  obtain ⟨f_2, ef_2⟩ : ∃ g : Nat → Int64, g = vp_updL fA (0 : Int32).toNatClampNeg (-81985529216486896) := ⟨_, rfl⟩
  rw [← ef_2] at hP hD
  have hP : va_P (dC, dI) cls [(q, .inr (5, F_1)), (pa, .inl (cA, 6, .inr (.inl f_2))), (pb, .inl (cB, 6, .inr (.inl fB))), (rw9, .inl (cR, 5, .inl fr))] H := hP
  have hD : va_D A [(q, .inr (5, F_1)), (pa, .inl (cA, 6, .inr (.inl f_2))), (pb, .inl (cB, 6, .inr (.inl fB))), (rw9, .inl (cR, 5, .inl fr))] := hD
  refine lv_aload_n hx hb dX5_findRow_14 rfl (lv_at hl 0 rfl) ?_
  refine va_get (D := (dC, dI)) (ci := 5) (v := .ref pb) (C := RX5) (T := TX5) (N := 15) hx hb ht uX5 hown hK hP 0 rfl rfl 13 (by decide) (ht _ k_4_23) (fun _ h9 => h9) K13_F_1 dX5_findRow_15 ?_
  refine lv_iconst (v := 0) hx hb dX5_findRow_18 (by decide) ?_
  refine lv_lconst (v := 0) hx hb dX5_findRow_19 (by decide) ?_
  refine va_last (i := 0) (x := 0) hx hb hK hP hD hS 2 1 rfl rfl (by unfold vp_in; decide) dX5_findRow_20 (fun H locs hP hD hS => ?_)
  obtain ⟨f_3, ef_3⟩ : ∃ g : Nat → Int64, g = vp_updL fB (0 : Int32).toNatClampNeg 0 := ⟨_, rfl⟩
  rw [← ef_3] at hP hD
  have hP : va_P (dC, dI) cls [(q, .inr (5, F_1)), (pa, .inl (cA, 6, .inr (.inl f_2))), (pb, .inl (cB, 6, .inr (.inl f_3))), (rw9, .inl (cR, 5, .inl fr))] H := hP
  have hD : va_D A [(q, .inr (5, F_1)), (pa, .inl (cA, 6, .inr (.inl f_2))), (pb, .inl (cB, 6, .inr (.inl f_3))), (rw9, .inl (cR, 5, .inl fr))] := hD
  refine lv_iconst (v := 0) hx hb dX5_findRow_21 (by decide) ?_
  refine lv_istore (lv' := [(4, .int 0), (0, .ref q), (1, .long goal), (3, .int (nI mm))]) hx hb dX5_findRow_22 hl (by decide) rfl (fun ls hl => ?_)
  have hl0 : ∀ k, k < 0 → ¬ Gn goal k := fun k hk => absurd hk (Nat.not_lt_zero _)
  have hA0 : f_2 0 = INP := by rw [ef_2]; exact pk_uLs
  have hB0 : f_3 0 = 0 := by rw [ef_3]; exact pk_uLs
  refine lv_iload hx hb dX5_findRow_24 (lv_at hl 0 rfl) ?_
  refine lv_iload_n hx hb dX5_findRow_26 rfl (lv_at hl 3 rfl) ?_
  refine lv_icmp_gt (tgt := 61) hx hb dX5_findRow_27 (by decide) (fun c0 => absurd c0 (by have z0 := Int32.le_iff_toInt_le.mp (Int32.not_lt.mp hm0); have z1 := Int32.le_iff_toInt_le.mp hm5; have y0 : (0 : Int32).toInt = 0 := (by decide); have y1 : (5 : Int32).toInt = 5 := (by decide); exact Int32.not_lt.mpr (Int32.le_iff_toInt_le.mpr (by omega)))) (fun _ => ?_)
  refine lv_iload hx hb dX5_findRow_30 (lv_at hl 0 rfl) ?_
  refine lv_iconst (v := 5) hx hb dX5_findRow_32 (by decide) ?_
  refine lv_icmp_gt (tgt := 61) hx hb dX5_findRow_33 (by decide) (fun c0 => absurd c0 (by decide)) (fun _ => ?_)
  refine lv_aload_n hx hb dX5_findRow_36 rfl (lv_at hl 1 rfl) ?_
  refine lv_iconst (v := 0) hx hb dX5_findRow_37 (by decide) ?_
  refine lv_iload hx hb dX5_findRow_38 (lv_at hl 0 rfl) ?_
  refine ca_i (wr := []) (va_runV (As := [.int 0, .int 0]) (rest := []) ⟨hx, hb, hml, hown, ht⟩ (x_goOn_0 l dC dI H.size q F_1 rw9 pa pb goal cA cB f_2 f_3 cR fr 0 L_F_1 K10_F_1 K12_F_1 K13_F_1 K14_F_1 (by decide)) (cwV 2 ht (gdV k_8_230 k_8_227 k_8_229 ks_101 k_1_15) rfl rfl rfl (by decide +kernel) ⟨Nat.le_of_ble_eq_true rfl, Nat.le_of_ble_eq_true rfl⟩) ⟨pcw_blind, va_recv hK hP (ci := 5) (q0 := 0) rfl rfl, pcw_at hP hD hK [0, 1, 2, 3] [0, 1, 2] (by decide) rfl rfl rfl⟩ rfl rfl hl.1 rfl (lv_room (Nat.le_of_ble_eq_true rfl)) dX5_findRow_40 ⟨Nat.le_of_ble_eq_true rfl, Nat.le_of_ble_eq_true rfl⟩) hP hD hK hS hA [0, 1, 2, 3] [] rfl rfl (by decide) (by decide) (fun r_4 u H locs w_5 hK hP hD hS => ?_)
  obtain ⟨y_6, y_7, y_8⟩ := u
  have hK : va_K (dC, dI) cls [(cA, .long), (cB, .long), (cR, .int)] s := hK
  have hP : va_P (dC, dI) cls [(q, .inr (5, F_1)), (pa, .inl (cA, 6, .inr (.inl y_6))), (pb, .inl (cB, 6, .inr (.inl y_7))), (rw9, .inl (cR, 5, .inl y_8))] H := hP
  have hD : va_D A [(q, .inr (5, F_1)), (pa, .inl (cA, 6, .inr (.inl y_6))), (pb, .inl (cB, 6, .inr (.inl y_7))), (rw9, .inl (cR, 5, .inl y_8))] := hD
  obtain ⟨⟨hA9, hB9⟩, w_5⟩ := w_5
  have hA1 := (hA9 0 (Nat.le_refl _)).trans hA0
  have hB1 := (hB9 0 (Nat.le_refl _)).trans hB0
  rcases w_5 with ⟨rfl, n_9⟩ | ⟨rfl, n_9⟩
  · refine lv_if_eq (tgt := 55) hx hb dX5_findRow_43 (by decide) (fun c0 => absurd c0 (by decide)) (fun _ => ?_)
    refine lv_aload_n hx hb dX5_findRow_46 rfl (lv_at hl 1 rfl) ?_
    refine lv_iload hx hb dX5_findRow_47 (lv_at hl 0 rfl) ?_
    refine va_put (D := (dC, dI)) (ci := 5) (v := .int 0) (ty := .int) (C := RX5) (T := TX5) (N := 15) hx hb ht uX5 tyX5 tkX5 nmX5 hown hK hP hD hS 0 rfl rfl 11 (by decide) (ht _ k_4_20) (fun _ h9 => h9) rfl (by decide +kernel) rfl rfl (by rw [L_F_1]; decide) dX5_findRow_49 (fun H locs hP hD hS => ?_)
    obtain ⟨F_10, eF_10⟩ : ∃ g : List Value, g = F_1.set 11 (.int 0) := ⟨_, rfl⟩
    rw [← eF_10] at hP hD
    have K10_F_10 : F_10[10]? = some (.ref rw9) := by rw [eF_10, List.getElem?_set_ne (by decide)]; exact K10_F_1
    have K12_F_10 : F_10[12]? = some (.ref pa) := by rw [eF_10, List.getElem?_set_ne (by decide)]; exact K12_F_1
    have K13_F_10 : F_10[13]? = some (.ref pb) := by rw [eF_10, List.getElem?_set_ne (by decide)]; exact K13_F_1
    have K14_F_10 : F_10[14]? = some (.long goal) := by rw [eF_10, List.getElem?_set_ne (by decide)]; exact K14_F_1
    have K11_F_10 : F_10[11]? = some (.int 0) := by rw [eF_10]; exact List.getElem?_set_self (by rw [L_F_1]; decide)
    have L_F_10 : F_10.length = 15 := by rw [eF_10, List.length_set]; exact L_F_1
    have hP : va_P (dC, dI) cls [(q, .inr (5, F_10)), (pa, .inl (cA, 6, .inr (.inl y_6))), (pb, .inl (cB, 6, .inr (.inl y_7))), (rw9, .inl (cR, 5, .inl y_8))] H := hP
    have hD : va_D A [(q, .inr (5, F_10)), (pa, .inl (cA, 6, .inr (.inl y_6))), (pb, .inl (cB, 6, .inr (.inl y_7))), (rw9, .inl (cR, 5, .inl y_8))] := hD
    refine lv_iload hx hb dX5_findRow_52 (lv_at hl 0 rfl) ?_
    exact W.iret (v := 0) hx hb hr (fun t ht9 hW => ⟨⟨0, (), rfl, (Or.inl ⟨0, Nat.zero_le _, rfl, dfs_found hA0 hB0 n_9, hl0⟩), by rw [ht9]; exact hP.sub [] rfl, va_K.moved hW.alike (hK.sub [] rfl), hD.sub [] (by decide) rfl⟩, hS.F ht9⟩) hS.2.2 dX5_findRow_54
  · refine lv_if_eq (tgt := 55) hx hb dX5_findRow_43 (by decide) (fun _ => ?_) (fun c0 => absurd c0 (by decide))
    have hl1 : ∀ k, k < 1 → ¬ Gn goal k := dfs_none hA0 hB0 hl0 n_9
    refine lv_iinc (v := 1) (lv' := [(4, .int 1), (0, .ref q), (1, .long goal), (3, .int (nI mm))]) hx hb dX5_findRow_55 hl (k := 0) rfl (by decide) (by decide) rfl (fun ls hl => ?_)
    refine lv_goto (tgt := 24) hx hb dX5_findRow_58 (by decide) ?_
    refine lv_iload hx hb dX5_findRow_24 (lv_at hl 0 rfl) ?_
    refine lv_iload_n hx hb dX5_findRow_26 rfl (lv_at hl 3 rfl) ?_
    refine lv_icmp_gt (tgt := 61) hx hb dX5_findRow_27 (by decide) (fun b_11 => ?_) (fun b_11 => ?_)
    · refine lv_aload_n hx hb dX5_findRow_61 rfl (lv_at hl 1 rfl) ?_
      refine lv_iconst (v := 0) hx hb dX5_findRow_62 (by decide) ?_
      refine va_put (D := (dC, dI)) (ci := 5) (v := .int 0) (ty := .int) (C := RX5) (T := TX5) (N := 15) hx hb ht uX5 tyX5 tkX5 nmX5 hown hK hP hD hS 0 rfl rfl 11 (by decide) (ht _ k_4_20) (fun _ h9 => h9) rfl (by decide +kernel) rfl rfl (by rw [L_F_1]; decide) dX5_findRow_63 (fun H locs hP hD hS => ?_)
      obtain ⟨F_12, eF_12⟩ : ∃ g : List Value, g = F_1.set 11 (.int 0) := ⟨_, rfl⟩
      rw [← eF_12] at hP hD
      have K10_F_12 : F_12[10]? = some (.ref rw9) := by rw [eF_12, List.getElem?_set_ne (by decide)]; exact K10_F_1
      have K12_F_12 : F_12[12]? = some (.ref pa) := by rw [eF_12, List.getElem?_set_ne (by decide)]; exact K12_F_1
      have K13_F_12 : F_12[13]? = some (.ref pb) := by rw [eF_12, List.getElem?_set_ne (by decide)]; exact K13_F_1
      have K14_F_12 : F_12[14]? = some (.long goal) := by rw [eF_12, List.getElem?_set_ne (by decide)]; exact K14_F_1
      have K11_F_12 : F_12[11]? = some (.int 0) := by rw [eF_12]; exact List.getElem?_set_self (by rw [L_F_1]; decide)
      have L_F_12 : F_12.length = 15 := by rw [eF_12, List.length_set]; exact L_F_1
      have hP : va_P (dC, dI) cls [(q, .inr (5, F_12)), (pa, .inl (cA, 6, .inr (.inl y_6))), (pb, .inl (cB, 6, .inr (.inl y_7))), (rw9, .inl (cR, 5, .inl y_8))] H := hP
      have hD : va_D A [(q, .inr (5, F_12)), (pa, .inl (cA, 6, .inr (.inl y_6))), (pb, .inl (cB, 6, .inr (.inl y_7))), (rw9, .inl (cR, 5, .inl y_8))] := hD
      refine lv_bipush (v := 100) hx hb dX5_findRow_66 (by decide) ?_
      exact W.iret (v := 100) hx hb hr (fun t ht9 hW => ⟨⟨100, (), rfl, (Or.inr ⟨rfl, fun k hk => hl1 k (by have := (show ∀ m, m < 6 → nI m < (1 : Int32) → m < 1 by decide) mm (by omega) b_11; omega)⟩), by rw [ht9]; exact hP.sub [] rfl, va_K.moved hW.alike (hK.sub [] rfl), hD.sub [] (by decide) rfl⟩, hS.F ht9⟩) hS.2.2 dX5_findRow_68
    · refine lv_iload hx hb dX5_findRow_30 (lv_at hl 0 rfl) ?_
      refine lv_iconst (v := 5) hx hb dX5_findRow_32 (by decide) ?_
      refine lv_icmp_gt (tgt := 61) hx hb dX5_findRow_33 (by decide) (fun c0 => absurd c0 (by decide)) (fun _ => ?_)
      refine lv_aload_n hx hb dX5_findRow_36 rfl (lv_at hl 1 rfl) ?_
      refine lv_iconst (v := 0) hx hb dX5_findRow_37 (by decide) ?_
      refine lv_iload hx hb dX5_findRow_38 (lv_at hl 0 rfl) ?_
      refine ca_i (wr := []) (va_runV (As := [.int 0, .int 1]) (rest := []) ⟨hx, hb, hml, hown, ht⟩ (x_goOn_1 l dC dI H.size q F_1 rw9 pa pb goal cA cB y_6 y_7 cR y_8 0 L_F_1 K10_F_1 K12_F_1 K13_F_1 K14_F_1 (by decide)) (cwV 2 ht (gdV k_8_230 k_8_227 k_8_229 ks_101 k_1_15) rfl rfl rfl (by decide +kernel) ⟨Nat.le_of_ble_eq_true rfl, Nat.le_of_ble_eq_true rfl⟩) ⟨pcw_blind, va_recv hK hP (ci := 5) (q0 := 0) rfl rfl, pcw_at hP hD hK [0, 1, 2, 3] [0, 1, 2] (by decide) rfl rfl rfl⟩ rfl rfl hl.1 rfl (lv_room (Nat.le_of_ble_eq_true rfl)) dX5_findRow_40 ⟨Nat.le_of_ble_eq_true rfl, Nat.le_of_ble_eq_true rfl⟩) hP hD hK hS hA [0, 1, 2, 3] [] rfl rfl (by decide) (by decide) (fun r_13 u H locs w_14 hK hP hD hS => ?_)
      obtain ⟨y_15, y_16, y_17⟩ := u
      have hK : va_K (dC, dI) cls [(cA, .long), (cB, .long), (cR, .int)] s := hK
      have hP : va_P (dC, dI) cls [(q, .inr (5, F_1)), (pa, .inl (cA, 6, .inr (.inl y_15))), (pb, .inl (cB, 6, .inr (.inl y_16))), (rw9, .inl (cR, 5, .inl y_17))] H := hP
      have hD : va_D A [(q, .inr (5, F_1)), (pa, .inl (cA, 6, .inr (.inl y_15))), (pb, .inl (cB, 6, .inr (.inl y_16))), (rw9, .inl (cR, 5, .inl y_17))] := hD
      obtain ⟨⟨hA9, hB9⟩, w_14⟩ := w_14
      have hA2 := (hA9 0 (Nat.le_refl _)).trans hA1
      have hB2 := (hB9 0 (Nat.le_refl _)).trans hB1
      rcases w_14 with ⟨rfl, n_18⟩ | ⟨rfl, n_18⟩
      · refine lv_if_eq (tgt := 55) hx hb dX5_findRow_43 (by decide) (fun c0 => absurd c0 (by decide)) (fun _ => ?_)
        refine lv_aload_n hx hb dX5_findRow_46 rfl (lv_at hl 1 rfl) ?_
        refine lv_iload hx hb dX5_findRow_47 (lv_at hl 0 rfl) ?_
        refine va_put (D := (dC, dI)) (ci := 5) (v := .int 1) (ty := .int) (C := RX5) (T := TX5) (N := 15) hx hb ht uX5 tyX5 tkX5 nmX5 hown hK hP hD hS 0 rfl rfl 11 (by decide) (ht _ k_4_20) (fun _ h9 => h9) rfl (by decide +kernel) rfl rfl (by rw [L_F_1]; decide) dX5_findRow_49 (fun H locs hP hD hS => ?_)
        obtain ⟨F_19, eF_19⟩ : ∃ g : List Value, g = F_1.set 11 (.int 1) := ⟨_, rfl⟩
        rw [← eF_19] at hP hD
        have K10_F_19 : F_19[10]? = some (.ref rw9) := by rw [eF_19, List.getElem?_set_ne (by decide)]; exact K10_F_1
        have K12_F_19 : F_19[12]? = some (.ref pa) := by rw [eF_19, List.getElem?_set_ne (by decide)]; exact K12_F_1
        have K13_F_19 : F_19[13]? = some (.ref pb) := by rw [eF_19, List.getElem?_set_ne (by decide)]; exact K13_F_1
        have K14_F_19 : F_19[14]? = some (.long goal) := by rw [eF_19, List.getElem?_set_ne (by decide)]; exact K14_F_1
        have K11_F_19 : F_19[11]? = some (.int 1) := by rw [eF_19]; exact List.getElem?_set_self (by rw [L_F_1]; decide)
        have L_F_19 : F_19.length = 15 := by rw [eF_19, List.length_set]; exact L_F_1
        have hP : va_P (dC, dI) cls [(q, .inr (5, F_19)), (pa, .inl (cA, 6, .inr (.inl y_15))), (pb, .inl (cB, 6, .inr (.inl y_16))), (rw9, .inl (cR, 5, .inl y_17))] H := hP
        have hD : va_D A [(q, .inr (5, F_19)), (pa, .inl (cA, 6, .inr (.inl y_15))), (pb, .inl (cB, 6, .inr (.inl y_16))), (rw9, .inl (cR, 5, .inl y_17))] := hD
        refine lv_iload hx hb dX5_findRow_52 (lv_at hl 0 rfl) ?_
        exact W.iret (v := 1) hx hb hr (fun t ht9 hW => ⟨⟨1, (), rfl, (Or.inl ⟨1, (show ∀ m, m < 6 → ¬ nI m < (1 : Int32) → 1 ≤ m by decide) mm (by omega) b_11, rfl, dfs_found hA1 hB1 n_18, hl1⟩), by rw [ht9]; exact hP.sub [] rfl, va_K.moved hW.alike (hK.sub [] rfl), hD.sub [] (by decide) rfl⟩, hS.F ht9⟩) hS.2.2 dX5_findRow_54
      · refine lv_if_eq (tgt := 55) hx hb dX5_findRow_43 (by decide) (fun _ => ?_) (fun c0 => absurd c0 (by decide))
        have hl2 : ∀ k, k < 2 → ¬ Gn goal k := dfs_none hA1 hB1 hl1 n_18
        refine lv_iinc (v := 2) (lv' := [(4, .int 2), (0, .ref q), (1, .long goal), (3, .int (nI mm))]) hx hb dX5_findRow_55 hl (k := 0) rfl (by decide) (by decide) rfl (fun ls hl => ?_)
        refine lv_goto (tgt := 24) hx hb dX5_findRow_58 (by decide) ?_
        refine lv_iload hx hb dX5_findRow_24 (lv_at hl 0 rfl) ?_
        refine lv_iload_n hx hb dX5_findRow_26 rfl (lv_at hl 3 rfl) ?_
        refine lv_icmp_gt (tgt := 61) hx hb dX5_findRow_27 (by decide) (fun b_20 => ?_) (fun b_20 => ?_)
        · refine lv_aload_n hx hb dX5_findRow_61 rfl (lv_at hl 1 rfl) ?_
          refine lv_iconst (v := 0) hx hb dX5_findRow_62 (by decide) ?_
          refine va_put (D := (dC, dI)) (ci := 5) (v := .int 0) (ty := .int) (C := RX5) (T := TX5) (N := 15) hx hb ht uX5 tyX5 tkX5 nmX5 hown hK hP hD hS 0 rfl rfl 11 (by decide) (ht _ k_4_20) (fun _ h9 => h9) rfl (by decide +kernel) rfl rfl (by rw [L_F_1]; decide) dX5_findRow_63 (fun H locs hP hD hS => ?_)
          obtain ⟨F_21, eF_21⟩ : ∃ g : List Value, g = F_1.set 11 (.int 0) := ⟨_, rfl⟩
          rw [← eF_21] at hP hD
          have K10_F_21 : F_21[10]? = some (.ref rw9) := by rw [eF_21, List.getElem?_set_ne (by decide)]; exact K10_F_1
          have K12_F_21 : F_21[12]? = some (.ref pa) := by rw [eF_21, List.getElem?_set_ne (by decide)]; exact K12_F_1
          have K13_F_21 : F_21[13]? = some (.ref pb) := by rw [eF_21, List.getElem?_set_ne (by decide)]; exact K13_F_1
          have K14_F_21 : F_21[14]? = some (.long goal) := by rw [eF_21, List.getElem?_set_ne (by decide)]; exact K14_F_1
          have K11_F_21 : F_21[11]? = some (.int 0) := by rw [eF_21]; exact List.getElem?_set_self (by rw [L_F_1]; decide)
          have L_F_21 : F_21.length = 15 := by rw [eF_21, List.length_set]; exact L_F_1
          have hP : va_P (dC, dI) cls [(q, .inr (5, F_21)), (pa, .inl (cA, 6, .inr (.inl y_15))), (pb, .inl (cB, 6, .inr (.inl y_16))), (rw9, .inl (cR, 5, .inl y_17))] H := hP
          have hD : va_D A [(q, .inr (5, F_21)), (pa, .inl (cA, 6, .inr (.inl y_15))), (pb, .inl (cB, 6, .inr (.inl y_16))), (rw9, .inl (cR, 5, .inl y_17))] := hD
          refine lv_bipush (v := 100) hx hb dX5_findRow_66 (by decide) ?_
          exact W.iret (v := 100) hx hb hr (fun t ht9 hW => ⟨⟨100, (), rfl, (Or.inr ⟨rfl, fun k hk => hl2 k (by have := (show ∀ m, m < 6 → nI m < (2 : Int32) → m < 2 by decide) mm (by omega) b_20; omega)⟩), by rw [ht9]; exact hP.sub [] rfl, va_K.moved hW.alike (hK.sub [] rfl), hD.sub [] (by decide) rfl⟩, hS.F ht9⟩) hS.2.2 dX5_findRow_68
        · refine lv_iload hx hb dX5_findRow_30 (lv_at hl 0 rfl) ?_
          refine lv_iconst (v := 5) hx hb dX5_findRow_32 (by decide) ?_
          refine lv_icmp_gt (tgt := 61) hx hb dX5_findRow_33 (by decide) (fun c0 => absurd c0 (by decide)) (fun _ => ?_)
          refine lv_aload_n hx hb dX5_findRow_36 rfl (lv_at hl 1 rfl) ?_
          refine lv_iconst (v := 0) hx hb dX5_findRow_37 (by decide) ?_
          refine lv_iload hx hb dX5_findRow_38 (lv_at hl 0 rfl) ?_
          refine ca_i (wr := []) (va_runV (As := [.int 0, .int 2]) (rest := []) ⟨hx, hb, hml, hown, ht⟩ (x_goOn_2 l dC dI H.size q F_1 rw9 pa pb goal cA cB y_15 y_16 cR y_17 0 L_F_1 K10_F_1 K12_F_1 K13_F_1 K14_F_1 (by decide)) (cwV 2 ht (gdV k_8_230 k_8_227 k_8_229 ks_101 k_1_15) rfl rfl rfl (by decide +kernel) ⟨Nat.le_of_ble_eq_true rfl, Nat.le_of_ble_eq_true rfl⟩) ⟨pcw_blind, va_recv hK hP (ci := 5) (q0 := 0) rfl rfl, pcw_at hP hD hK [0, 1, 2, 3] [0, 1, 2] (by decide) rfl rfl rfl⟩ rfl rfl hl.1 rfl (lv_room (Nat.le_of_ble_eq_true rfl)) dX5_findRow_40 ⟨Nat.le_of_ble_eq_true rfl, Nat.le_of_ble_eq_true rfl⟩) hP hD hK hS hA [0, 1, 2, 3] [] rfl rfl (by decide) (by decide) (fun r_22 u H locs w_23 hK hP hD hS => ?_)
          obtain ⟨y_24, y_25, y_26⟩ := u
          have hK : va_K (dC, dI) cls [(cA, .long), (cB, .long), (cR, .int)] s := hK
          have hP : va_P (dC, dI) cls [(q, .inr (5, F_1)), (pa, .inl (cA, 6, .inr (.inl y_24))), (pb, .inl (cB, 6, .inr (.inl y_25))), (rw9, .inl (cR, 5, .inl y_26))] H := hP
          have hD : va_D A [(q, .inr (5, F_1)), (pa, .inl (cA, 6, .inr (.inl y_24))), (pb, .inl (cB, 6, .inr (.inl y_25))), (rw9, .inl (cR, 5, .inl y_26))] := hD
          obtain ⟨⟨hA9, hB9⟩, w_23⟩ := w_23
          have hA3 := (hA9 0 (Nat.le_refl _)).trans hA2
          have hB3 := (hB9 0 (Nat.le_refl _)).trans hB2
          rcases w_23 with ⟨rfl, n_27⟩ | ⟨rfl, n_27⟩
          · refine lv_if_eq (tgt := 55) hx hb dX5_findRow_43 (by decide) (fun c0 => absurd c0 (by decide)) (fun _ => ?_)
            refine lv_aload_n hx hb dX5_findRow_46 rfl (lv_at hl 1 rfl) ?_
            refine lv_iload hx hb dX5_findRow_47 (lv_at hl 0 rfl) ?_
            refine va_put (D := (dC, dI)) (ci := 5) (v := .int 2) (ty := .int) (C := RX5) (T := TX5) (N := 15) hx hb ht uX5 tyX5 tkX5 nmX5 hown hK hP hD hS 0 rfl rfl 11 (by decide) (ht _ k_4_20) (fun _ h9 => h9) rfl (by decide +kernel) rfl rfl (by rw [L_F_1]; decide) dX5_findRow_49 (fun H locs hP hD hS => ?_)
            obtain ⟨F_28, eF_28⟩ : ∃ g : List Value, g = F_1.set 11 (.int 2) := ⟨_, rfl⟩
            rw [← eF_28] at hP hD
            have K10_F_28 : F_28[10]? = some (.ref rw9) := by rw [eF_28, List.getElem?_set_ne (by decide)]; exact K10_F_1
            have K12_F_28 : F_28[12]? = some (.ref pa) := by rw [eF_28, List.getElem?_set_ne (by decide)]; exact K12_F_1
            have K13_F_28 : F_28[13]? = some (.ref pb) := by rw [eF_28, List.getElem?_set_ne (by decide)]; exact K13_F_1
            have K14_F_28 : F_28[14]? = some (.long goal) := by rw [eF_28, List.getElem?_set_ne (by decide)]; exact K14_F_1
            have K11_F_28 : F_28[11]? = some (.int 2) := by rw [eF_28]; exact List.getElem?_set_self (by rw [L_F_1]; decide)
            have L_F_28 : F_28.length = 15 := by rw [eF_28, List.length_set]; exact L_F_1
            have hP : va_P (dC, dI) cls [(q, .inr (5, F_28)), (pa, .inl (cA, 6, .inr (.inl y_24))), (pb, .inl (cB, 6, .inr (.inl y_25))), (rw9, .inl (cR, 5, .inl y_26))] H := hP
            have hD : va_D A [(q, .inr (5, F_28)), (pa, .inl (cA, 6, .inr (.inl y_24))), (pb, .inl (cB, 6, .inr (.inl y_25))), (rw9, .inl (cR, 5, .inl y_26))] := hD
            refine lv_iload hx hb dX5_findRow_52 (lv_at hl 0 rfl) ?_
            exact W.iret (v := 2) hx hb hr (fun t ht9 hW => ⟨⟨2, (), rfl, (Or.inl ⟨2, (show ∀ m, m < 6 → ¬ nI m < (2 : Int32) → 2 ≤ m by decide) mm (by omega) b_20, rfl, dfs_found hA2 hB2 n_27, hl2⟩), by rw [ht9]; exact hP.sub [] rfl, va_K.moved hW.alike (hK.sub [] rfl), hD.sub [] (by decide) rfl⟩, hS.F ht9⟩) hS.2.2 dX5_findRow_54
          · refine lv_if_eq (tgt := 55) hx hb dX5_findRow_43 (by decide) (fun _ => ?_) (fun c0 => absurd c0 (by decide))
            have hl3 : ∀ k, k < 3 → ¬ Gn goal k := dfs_none hA2 hB2 hl2 n_27
            refine lv_iinc (v := 3) (lv' := [(4, .int 3), (0, .ref q), (1, .long goal), (3, .int (nI mm))]) hx hb dX5_findRow_55 hl (k := 0) rfl (by decide) (by decide) rfl (fun ls hl => ?_)
            refine lv_goto (tgt := 24) hx hb dX5_findRow_58 (by decide) ?_
            refine lv_iload hx hb dX5_findRow_24 (lv_at hl 0 rfl) ?_
            refine lv_iload_n hx hb dX5_findRow_26 rfl (lv_at hl 3 rfl) ?_
            refine lv_icmp_gt (tgt := 61) hx hb dX5_findRow_27 (by decide) (fun b_29 => ?_) (fun b_29 => ?_)
            · refine lv_aload_n hx hb dX5_findRow_61 rfl (lv_at hl 1 rfl) ?_
              refine lv_iconst (v := 0) hx hb dX5_findRow_62 (by decide) ?_
              refine va_put (D := (dC, dI)) (ci := 5) (v := .int 0) (ty := .int) (C := RX5) (T := TX5) (N := 15) hx hb ht uX5 tyX5 tkX5 nmX5 hown hK hP hD hS 0 rfl rfl 11 (by decide) (ht _ k_4_20) (fun _ h9 => h9) rfl (by decide +kernel) rfl rfl (by rw [L_F_1]; decide) dX5_findRow_63 (fun H locs hP hD hS => ?_)
              obtain ⟨F_30, eF_30⟩ : ∃ g : List Value, g = F_1.set 11 (.int 0) := ⟨_, rfl⟩
              rw [← eF_30] at hP hD
              have K10_F_30 : F_30[10]? = some (.ref rw9) := by rw [eF_30, List.getElem?_set_ne (by decide)]; exact K10_F_1
              have K12_F_30 : F_30[12]? = some (.ref pa) := by rw [eF_30, List.getElem?_set_ne (by decide)]; exact K12_F_1
              have K13_F_30 : F_30[13]? = some (.ref pb) := by rw [eF_30, List.getElem?_set_ne (by decide)]; exact K13_F_1
              have K14_F_30 : F_30[14]? = some (.long goal) := by rw [eF_30, List.getElem?_set_ne (by decide)]; exact K14_F_1
              have K11_F_30 : F_30[11]? = some (.int 0) := by rw [eF_30]; exact List.getElem?_set_self (by rw [L_F_1]; decide)
              have L_F_30 : F_30.length = 15 := by rw [eF_30, List.length_set]; exact L_F_1
              have hP : va_P (dC, dI) cls [(q, .inr (5, F_30)), (pa, .inl (cA, 6, .inr (.inl y_24))), (pb, .inl (cB, 6, .inr (.inl y_25))), (rw9, .inl (cR, 5, .inl y_26))] H := hP
              have hD : va_D A [(q, .inr (5, F_30)), (pa, .inl (cA, 6, .inr (.inl y_24))), (pb, .inl (cB, 6, .inr (.inl y_25))), (rw9, .inl (cR, 5, .inl y_26))] := hD
              refine lv_bipush (v := 100) hx hb dX5_findRow_66 (by decide) ?_
              exact W.iret (v := 100) hx hb hr (fun t ht9 hW => ⟨⟨100, (), rfl, (Or.inr ⟨rfl, fun k hk => hl3 k (by have := (show ∀ m, m < 6 → nI m < (3 : Int32) → m < 3 by decide) mm (by omega) b_29; omega)⟩), by rw [ht9]; exact hP.sub [] rfl, va_K.moved hW.alike (hK.sub [] rfl), hD.sub [] (by decide) rfl⟩, hS.F ht9⟩) hS.2.2 dX5_findRow_68
            · refine lv_iload hx hb dX5_findRow_30 (lv_at hl 0 rfl) ?_
              refine lv_iconst (v := 5) hx hb dX5_findRow_32 (by decide) ?_
              refine lv_icmp_gt (tgt := 61) hx hb dX5_findRow_33 (by decide) (fun c0 => absurd c0 (by decide)) (fun _ => ?_)
              refine lv_aload_n hx hb dX5_findRow_36 rfl (lv_at hl 1 rfl) ?_
              refine lv_iconst (v := 0) hx hb dX5_findRow_37 (by decide) ?_
              refine lv_iload hx hb dX5_findRow_38 (lv_at hl 0 rfl) ?_
              refine ca_i (wr := []) (va_runV (As := [.int 0, .int 3]) (rest := []) ⟨hx, hb, hml, hown, ht⟩ (x_goOn_3 l dC dI H.size q F_1 rw9 pa pb goal cA cB y_24 y_25 cR y_26 0 L_F_1 K10_F_1 K12_F_1 K13_F_1 K14_F_1 (by decide)) (cwV 2 ht (gdV k_8_230 k_8_227 k_8_229 ks_101 k_1_15) rfl rfl rfl (by decide +kernel) ⟨Nat.le_of_ble_eq_true rfl, Nat.le_of_ble_eq_true rfl⟩) ⟨pcw_blind, va_recv hK hP (ci := 5) (q0 := 0) rfl rfl, pcw_at hP hD hK [0, 1, 2, 3] [0, 1, 2] (by decide) rfl rfl rfl⟩ rfl rfl hl.1 rfl (lv_room (Nat.le_of_ble_eq_true rfl)) dX5_findRow_40 ⟨Nat.le_of_ble_eq_true rfl, Nat.le_of_ble_eq_true rfl⟩) hP hD hK hS hA [0, 1, 2, 3] [] rfl rfl (by decide) (by decide) (fun r_31 u H locs w_32 hK hP hD hS => ?_)
              obtain ⟨y_33, y_34, y_35⟩ := u
              have hK : va_K (dC, dI) cls [(cA, .long), (cB, .long), (cR, .int)] s := hK
              have hP : va_P (dC, dI) cls [(q, .inr (5, F_1)), (pa, .inl (cA, 6, .inr (.inl y_33))), (pb, .inl (cB, 6, .inr (.inl y_34))), (rw9, .inl (cR, 5, .inl y_35))] H := hP
              have hD : va_D A [(q, .inr (5, F_1)), (pa, .inl (cA, 6, .inr (.inl y_33))), (pb, .inl (cB, 6, .inr (.inl y_34))), (rw9, .inl (cR, 5, .inl y_35))] := hD
              obtain ⟨⟨hA9, hB9⟩, w_32⟩ := w_32
              have hA4 := (hA9 0 (Nat.le_refl _)).trans hA3
              have hB4 := (hB9 0 (Nat.le_refl _)).trans hB3
              rcases w_32 with ⟨rfl, n_36⟩ | ⟨rfl, n_36⟩
              · refine lv_if_eq (tgt := 55) hx hb dX5_findRow_43 (by decide) (fun c0 => absurd c0 (by decide)) (fun _ => ?_)
                refine lv_aload_n hx hb dX5_findRow_46 rfl (lv_at hl 1 rfl) ?_
                refine lv_iload hx hb dX5_findRow_47 (lv_at hl 0 rfl) ?_
                refine va_put (D := (dC, dI)) (ci := 5) (v := .int 3) (ty := .int) (C := RX5) (T := TX5) (N := 15) hx hb ht uX5 tyX5 tkX5 nmX5 hown hK hP hD hS 0 rfl rfl 11 (by decide) (ht _ k_4_20) (fun _ h9 => h9) rfl (by decide +kernel) rfl rfl (by rw [L_F_1]; decide) dX5_findRow_49 (fun H locs hP hD hS => ?_)
                obtain ⟨F_37, eF_37⟩ : ∃ g : List Value, g = F_1.set 11 (.int 3) := ⟨_, rfl⟩
                rw [← eF_37] at hP hD
                have K10_F_37 : F_37[10]? = some (.ref rw9) := by rw [eF_37, List.getElem?_set_ne (by decide)]; exact K10_F_1
                have K12_F_37 : F_37[12]? = some (.ref pa) := by rw [eF_37, List.getElem?_set_ne (by decide)]; exact K12_F_1
                have K13_F_37 : F_37[13]? = some (.ref pb) := by rw [eF_37, List.getElem?_set_ne (by decide)]; exact K13_F_1
                have K14_F_37 : F_37[14]? = some (.long goal) := by rw [eF_37, List.getElem?_set_ne (by decide)]; exact K14_F_1
                have K11_F_37 : F_37[11]? = some (.int 3) := by rw [eF_37]; exact List.getElem?_set_self (by rw [L_F_1]; decide)
                have L_F_37 : F_37.length = 15 := by rw [eF_37, List.length_set]; exact L_F_1
                have hP : va_P (dC, dI) cls [(q, .inr (5, F_37)), (pa, .inl (cA, 6, .inr (.inl y_33))), (pb, .inl (cB, 6, .inr (.inl y_34))), (rw9, .inl (cR, 5, .inl y_35))] H := hP
                have hD : va_D A [(q, .inr (5, F_37)), (pa, .inl (cA, 6, .inr (.inl y_33))), (pb, .inl (cB, 6, .inr (.inl y_34))), (rw9, .inl (cR, 5, .inl y_35))] := hD
                refine lv_iload hx hb dX5_findRow_52 (lv_at hl 0 rfl) ?_
                exact W.iret (v := 3) hx hb hr (fun t ht9 hW => ⟨⟨3, (), rfl, (Or.inl ⟨3, (show ∀ m, m < 6 → ¬ nI m < (3 : Int32) → 3 ≤ m by decide) mm (by omega) b_29, rfl, dfs_found hA3 hB3 n_36, hl3⟩), by rw [ht9]; exact hP.sub [] rfl, va_K.moved hW.alike (hK.sub [] rfl), hD.sub [] (by decide) rfl⟩, hS.F ht9⟩) hS.2.2 dX5_findRow_54
              · refine lv_if_eq (tgt := 55) hx hb dX5_findRow_43 (by decide) (fun _ => ?_) (fun c0 => absurd c0 (by decide))
                have hl4 : ∀ k, k < 4 → ¬ Gn goal k := dfs_none hA3 hB3 hl3 n_36
                refine lv_iinc (v := 4) (lv' := [(4, .int 4), (0, .ref q), (1, .long goal), (3, .int (nI mm))]) hx hb dX5_findRow_55 hl (k := 0) rfl (by decide) (by decide) rfl (fun ls hl => ?_)
                refine lv_goto (tgt := 24) hx hb dX5_findRow_58 (by decide) ?_
                refine lv_iload hx hb dX5_findRow_24 (lv_at hl 0 rfl) ?_
                refine lv_iload_n hx hb dX5_findRow_26 rfl (lv_at hl 3 rfl) ?_
                refine lv_icmp_gt (tgt := 61) hx hb dX5_findRow_27 (by decide) (fun b_38 => ?_) (fun b_38 => ?_)
                · refine lv_aload_n hx hb dX5_findRow_61 rfl (lv_at hl 1 rfl) ?_
                  refine lv_iconst (v := 0) hx hb dX5_findRow_62 (by decide) ?_
                  refine va_put (D := (dC, dI)) (ci := 5) (v := .int 0) (ty := .int) (C := RX5) (T := TX5) (N := 15) hx hb ht uX5 tyX5 tkX5 nmX5 hown hK hP hD hS 0 rfl rfl 11 (by decide) (ht _ k_4_20) (fun _ h9 => h9) rfl (by decide +kernel) rfl rfl (by rw [L_F_1]; decide) dX5_findRow_63 (fun H locs hP hD hS => ?_)
                  obtain ⟨F_39, eF_39⟩ : ∃ g : List Value, g = F_1.set 11 (.int 0) := ⟨_, rfl⟩
                  rw [← eF_39] at hP hD
                  have K10_F_39 : F_39[10]? = some (.ref rw9) := by rw [eF_39, List.getElem?_set_ne (by decide)]; exact K10_F_1
                  have K12_F_39 : F_39[12]? = some (.ref pa) := by rw [eF_39, List.getElem?_set_ne (by decide)]; exact K12_F_1
                  have K13_F_39 : F_39[13]? = some (.ref pb) := by rw [eF_39, List.getElem?_set_ne (by decide)]; exact K13_F_1
                  have K14_F_39 : F_39[14]? = some (.long goal) := by rw [eF_39, List.getElem?_set_ne (by decide)]; exact K14_F_1
                  have K11_F_39 : F_39[11]? = some (.int 0) := by rw [eF_39]; exact List.getElem?_set_self (by rw [L_F_1]; decide)
                  have L_F_39 : F_39.length = 15 := by rw [eF_39, List.length_set]; exact L_F_1
                  have hP : va_P (dC, dI) cls [(q, .inr (5, F_39)), (pa, .inl (cA, 6, .inr (.inl y_33))), (pb, .inl (cB, 6, .inr (.inl y_34))), (rw9, .inl (cR, 5, .inl y_35))] H := hP
                  have hD : va_D A [(q, .inr (5, F_39)), (pa, .inl (cA, 6, .inr (.inl y_33))), (pb, .inl (cB, 6, .inr (.inl y_34))), (rw9, .inl (cR, 5, .inl y_35))] := hD
                  refine lv_bipush (v := 100) hx hb dX5_findRow_66 (by decide) ?_
                  exact W.iret (v := 100) hx hb hr (fun t ht9 hW => ⟨⟨100, (), rfl, (Or.inr ⟨rfl, fun k hk => hl4 k (by have := (show ∀ m, m < 6 → nI m < (4 : Int32) → m < 4 by decide) mm (by omega) b_38; omega)⟩), by rw [ht9]; exact hP.sub [] rfl, va_K.moved hW.alike (hK.sub [] rfl), hD.sub [] (by decide) rfl⟩, hS.F ht9⟩) hS.2.2 dX5_findRow_68
                · refine lv_iload hx hb dX5_findRow_30 (lv_at hl 0 rfl) ?_
                  refine lv_iconst (v := 5) hx hb dX5_findRow_32 (by decide) ?_
                  refine lv_icmp_gt (tgt := 61) hx hb dX5_findRow_33 (by decide) (fun c0 => absurd c0 (by decide)) (fun _ => ?_)
                  refine lv_aload_n hx hb dX5_findRow_36 rfl (lv_at hl 1 rfl) ?_
                  refine lv_iconst (v := 0) hx hb dX5_findRow_37 (by decide) ?_
                  refine lv_iload hx hb dX5_findRow_38 (lv_at hl 0 rfl) ?_
                  refine ca_i (wr := []) (va_runV (As := [.int 0, .int 4]) (rest := []) ⟨hx, hb, hml, hown, ht⟩ (x_goOn_4 l dC dI H.size q F_1 rw9 pa pb goal cA cB y_33 y_34 cR y_35 0 L_F_1 K10_F_1 K12_F_1 K13_F_1 K14_F_1 (by decide)) (cwV 2 ht (gdV k_8_230 k_8_227 k_8_229 ks_101 k_1_15) rfl rfl rfl (by decide +kernel) ⟨Nat.le_of_ble_eq_true rfl, Nat.le_of_ble_eq_true rfl⟩) ⟨pcw_blind, va_recv hK hP (ci := 5) (q0 := 0) rfl rfl, pcw_at hP hD hK [0, 1, 2, 3] [0, 1, 2] (by decide) rfl rfl rfl⟩ rfl rfl hl.1 rfl (lv_room (Nat.le_of_ble_eq_true rfl)) dX5_findRow_40 ⟨Nat.le_of_ble_eq_true rfl, Nat.le_of_ble_eq_true rfl⟩) hP hD hK hS hA [0, 1, 2, 3] [] rfl rfl (by decide) (by decide) (fun r_40 u H locs w_41 hK hP hD hS => ?_)
                  obtain ⟨y_42, y_43, y_44⟩ := u
                  have hK : va_K (dC, dI) cls [(cA, .long), (cB, .long), (cR, .int)] s := hK
                  have hP : va_P (dC, dI) cls [(q, .inr (5, F_1)), (pa, .inl (cA, 6, .inr (.inl y_42))), (pb, .inl (cB, 6, .inr (.inl y_43))), (rw9, .inl (cR, 5, .inl y_44))] H := hP
                  have hD : va_D A [(q, .inr (5, F_1)), (pa, .inl (cA, 6, .inr (.inl y_42))), (pb, .inl (cB, 6, .inr (.inl y_43))), (rw9, .inl (cR, 5, .inl y_44))] := hD
                  obtain ⟨⟨hA9, hB9⟩, w_41⟩ := w_41
                  have hA5 := (hA9 0 (Nat.le_refl _)).trans hA4
                  have hB5 := (hB9 0 (Nat.le_refl _)).trans hB4
                  rcases w_41 with ⟨rfl, n_45⟩ | ⟨rfl, n_45⟩
                  · refine lv_if_eq (tgt := 55) hx hb dX5_findRow_43 (by decide) (fun c0 => absurd c0 (by decide)) (fun _ => ?_)
                    refine lv_aload_n hx hb dX5_findRow_46 rfl (lv_at hl 1 rfl) ?_
                    refine lv_iload hx hb dX5_findRow_47 (lv_at hl 0 rfl) ?_
                    refine va_put (D := (dC, dI)) (ci := 5) (v := .int 4) (ty := .int) (C := RX5) (T := TX5) (N := 15) hx hb ht uX5 tyX5 tkX5 nmX5 hown hK hP hD hS 0 rfl rfl 11 (by decide) (ht _ k_4_20) (fun _ h9 => h9) rfl (by decide +kernel) rfl rfl (by rw [L_F_1]; decide) dX5_findRow_49 (fun H locs hP hD hS => ?_)
                    obtain ⟨F_46, eF_46⟩ : ∃ g : List Value, g = F_1.set 11 (.int 4) := ⟨_, rfl⟩
                    rw [← eF_46] at hP hD
                    have K10_F_46 : F_46[10]? = some (.ref rw9) := by rw [eF_46, List.getElem?_set_ne (by decide)]; exact K10_F_1
                    have K12_F_46 : F_46[12]? = some (.ref pa) := by rw [eF_46, List.getElem?_set_ne (by decide)]; exact K12_F_1
                    have K13_F_46 : F_46[13]? = some (.ref pb) := by rw [eF_46, List.getElem?_set_ne (by decide)]; exact K13_F_1
                    have K14_F_46 : F_46[14]? = some (.long goal) := by rw [eF_46, List.getElem?_set_ne (by decide)]; exact K14_F_1
                    have K11_F_46 : F_46[11]? = some (.int 4) := by rw [eF_46]; exact List.getElem?_set_self (by rw [L_F_1]; decide)
                    have L_F_46 : F_46.length = 15 := by rw [eF_46, List.length_set]; exact L_F_1
                    have hP : va_P (dC, dI) cls [(q, .inr (5, F_46)), (pa, .inl (cA, 6, .inr (.inl y_42))), (pb, .inl (cB, 6, .inr (.inl y_43))), (rw9, .inl (cR, 5, .inl y_44))] H := hP
                    have hD : va_D A [(q, .inr (5, F_46)), (pa, .inl (cA, 6, .inr (.inl y_42))), (pb, .inl (cB, 6, .inr (.inl y_43))), (rw9, .inl (cR, 5, .inl y_44))] := hD
                    refine lv_iload hx hb dX5_findRow_52 (lv_at hl 0 rfl) ?_
                    exact W.iret (v := 4) hx hb hr (fun t ht9 hW => ⟨⟨4, (), rfl, (Or.inl ⟨4, (show ∀ m, m < 6 → ¬ nI m < (4 : Int32) → 4 ≤ m by decide) mm (by omega) b_38, rfl, dfs_found hA4 hB4 n_45, hl4⟩), by rw [ht9]; exact hP.sub [] rfl, va_K.moved hW.alike (hK.sub [] rfl), hD.sub [] (by decide) rfl⟩, hS.F ht9⟩) hS.2.2 dX5_findRow_54
                  · refine lv_if_eq (tgt := 55) hx hb dX5_findRow_43 (by decide) (fun _ => ?_) (fun c0 => absurd c0 (by decide))
                    have hl5 : ∀ k, k < 5 → ¬ Gn goal k := dfs_none hA4 hB4 hl4 n_45
                    refine lv_iinc (v := 5) (lv' := [(4, .int 5), (0, .ref q), (1, .long goal), (3, .int (nI mm))]) hx hb dX5_findRow_55 hl (k := 0) rfl (by decide) (by decide) rfl (fun ls hl => ?_)
                    refine lv_goto (tgt := 24) hx hb dX5_findRow_58 (by decide) ?_
                    refine lv_iload hx hb dX5_findRow_24 (lv_at hl 0 rfl) ?_
                    refine lv_iload_n hx hb dX5_findRow_26 rfl (lv_at hl 3 rfl) ?_
                    refine lv_icmp_gt (tgt := 61) hx hb dX5_findRow_27 (by decide) (fun b_47 => ?_) (fun b_47 => ?_)
                    · refine lv_aload_n hx hb dX5_findRow_61 rfl (lv_at hl 1 rfl) ?_
                      refine lv_iconst (v := 0) hx hb dX5_findRow_62 (by decide) ?_
                      refine va_put (D := (dC, dI)) (ci := 5) (v := .int 0) (ty := .int) (C := RX5) (T := TX5) (N := 15) hx hb ht uX5 tyX5 tkX5 nmX5 hown hK hP hD hS 0 rfl rfl 11 (by decide) (ht _ k_4_20) (fun _ h9 => h9) rfl (by decide +kernel) rfl rfl (by rw [L_F_1]; decide) dX5_findRow_63 (fun H locs hP hD hS => ?_)
                      obtain ⟨F_48, eF_48⟩ : ∃ g : List Value, g = F_1.set 11 (.int 0) := ⟨_, rfl⟩
                      rw [← eF_48] at hP hD
                      have K10_F_48 : F_48[10]? = some (.ref rw9) := by rw [eF_48, List.getElem?_set_ne (by decide)]; exact K10_F_1
                      have K12_F_48 : F_48[12]? = some (.ref pa) := by rw [eF_48, List.getElem?_set_ne (by decide)]; exact K12_F_1
                      have K13_F_48 : F_48[13]? = some (.ref pb) := by rw [eF_48, List.getElem?_set_ne (by decide)]; exact K13_F_1
                      have K14_F_48 : F_48[14]? = some (.long goal) := by rw [eF_48, List.getElem?_set_ne (by decide)]; exact K14_F_1
                      have K11_F_48 : F_48[11]? = some (.int 0) := by rw [eF_48]; exact List.getElem?_set_self (by rw [L_F_1]; decide)
                      have L_F_48 : F_48.length = 15 := by rw [eF_48, List.length_set]; exact L_F_1
                      have hP : va_P (dC, dI) cls [(q, .inr (5, F_48)), (pa, .inl (cA, 6, .inr (.inl y_42))), (pb, .inl (cB, 6, .inr (.inl y_43))), (rw9, .inl (cR, 5, .inl y_44))] H := hP
                      have hD : va_D A [(q, .inr (5, F_48)), (pa, .inl (cA, 6, .inr (.inl y_42))), (pb, .inl (cB, 6, .inr (.inl y_43))), (rw9, .inl (cR, 5, .inl y_44))] := hD
                      refine lv_bipush (v := 100) hx hb dX5_findRow_66 (by decide) ?_
                      exact W.iret (v := 100) hx hb hr (fun t ht9 hW => ⟨⟨100, (), rfl, (Or.inr ⟨rfl, fun k hk => hl5 k (by have := (show ∀ m, m < 6 → nI m < (5 : Int32) → m < 5 by decide) mm (by omega) b_47; omega)⟩), by rw [ht9]; exact hP.sub [] rfl, va_K.moved hW.alike (hK.sub [] rfl), hD.sub [] (by decide) rfl⟩, hS.F ht9⟩) hS.2.2 dX5_findRow_68
                    · refine lv_iload hx hb dX5_findRow_30 (lv_at hl 0 rfl) ?_
                      refine lv_iconst (v := 5) hx hb dX5_findRow_32 (by decide) ?_
                      refine lv_icmp_gt (tgt := 61) hx hb dX5_findRow_33 (by decide) (fun c0 => absurd c0 (by decide)) (fun _ => ?_)
                      refine lv_aload_n hx hb dX5_findRow_36 rfl (lv_at hl 1 rfl) ?_
                      refine lv_iconst (v := 0) hx hb dX5_findRow_37 (by decide) ?_
                      refine lv_iload hx hb dX5_findRow_38 (lv_at hl 0 rfl) ?_
                      refine ca_i (wr := []) (va_runV (As := [.int 0, .int 5]) (rest := []) ⟨hx, hb, hml, hown, ht⟩ (x_goOn_5 l dC dI H.size q F_1 rw9 pa pb goal cA cB y_42 y_43 cR y_44 0 L_F_1 K10_F_1 K12_F_1 K13_F_1 K14_F_1 (by decide)) (cwV 2 ht (gdV k_8_230 k_8_227 k_8_229 ks_101 k_1_15) rfl rfl rfl (by decide +kernel) ⟨Nat.le_of_ble_eq_true rfl, Nat.le_of_ble_eq_true rfl⟩) ⟨pcw_blind, va_recv hK hP (ci := 5) (q0 := 0) rfl rfl, pcw_at hP hD hK [0, 1, 2, 3] [0, 1, 2] (by decide) rfl rfl rfl⟩ rfl rfl hl.1 rfl (lv_room (Nat.le_of_ble_eq_true rfl)) dX5_findRow_40 ⟨Nat.le_of_ble_eq_true rfl, Nat.le_of_ble_eq_true rfl⟩) hP hD hK hS hA [0, 1, 2, 3] [] rfl rfl (by decide) (by decide) (fun r_49 u H locs w_50 hK hP hD hS => ?_)
                      obtain ⟨y_51, y_52, y_53⟩ := u
                      have hK : va_K (dC, dI) cls [(cA, .long), (cB, .long), (cR, .int)] s := hK
                      have hP : va_P (dC, dI) cls [(q, .inr (5, F_1)), (pa, .inl (cA, 6, .inr (.inl y_51))), (pb, .inl (cB, 6, .inr (.inl y_52))), (rw9, .inl (cR, 5, .inl y_53))] H := hP
                      have hD : va_D A [(q, .inr (5, F_1)), (pa, .inl (cA, 6, .inr (.inl y_51))), (pb, .inl (cB, 6, .inr (.inl y_52))), (rw9, .inl (cR, 5, .inl y_53))] := hD
                      obtain ⟨⟨hA9, hB9⟩, w_50⟩ := w_50
                      have hA6 := (hA9 0 (Nat.le_refl _)).trans hA5
                      have hB6 := (hB9 0 (Nat.le_refl _)).trans hB5
                      rcases w_50 with ⟨rfl, n_54⟩ | ⟨rfl, n_54⟩
                      · refine lv_if_eq (tgt := 55) hx hb dX5_findRow_43 (by decide) (fun c0 => absurd c0 (by decide)) (fun _ => ?_)
                        refine lv_aload_n hx hb dX5_findRow_46 rfl (lv_at hl 1 rfl) ?_
                        refine lv_iload hx hb dX5_findRow_47 (lv_at hl 0 rfl) ?_
                        refine va_put (D := (dC, dI)) (ci := 5) (v := .int 5) (ty := .int) (C := RX5) (T := TX5) (N := 15) hx hb ht uX5 tyX5 tkX5 nmX5 hown hK hP hD hS 0 rfl rfl 11 (by decide) (ht _ k_4_20) (fun _ h9 => h9) rfl (by decide +kernel) rfl rfl (by rw [L_F_1]; decide) dX5_findRow_49 (fun H locs hP hD hS => ?_)
                        obtain ⟨F_55, eF_55⟩ : ∃ g : List Value, g = F_1.set 11 (.int 5) := ⟨_, rfl⟩
                        rw [← eF_55] at hP hD
                        have K10_F_55 : F_55[10]? = some (.ref rw9) := by rw [eF_55, List.getElem?_set_ne (by decide)]; exact K10_F_1
                        have K12_F_55 : F_55[12]? = some (.ref pa) := by rw [eF_55, List.getElem?_set_ne (by decide)]; exact K12_F_1
                        have K13_F_55 : F_55[13]? = some (.ref pb) := by rw [eF_55, List.getElem?_set_ne (by decide)]; exact K13_F_1
                        have K14_F_55 : F_55[14]? = some (.long goal) := by rw [eF_55, List.getElem?_set_ne (by decide)]; exact K14_F_1
                        have K11_F_55 : F_55[11]? = some (.int 5) := by rw [eF_55]; exact List.getElem?_set_self (by rw [L_F_1]; decide)
                        have L_F_55 : F_55.length = 15 := by rw [eF_55, List.length_set]; exact L_F_1
                        have hP : va_P (dC, dI) cls [(q, .inr (5, F_55)), (pa, .inl (cA, 6, .inr (.inl y_51))), (pb, .inl (cB, 6, .inr (.inl y_52))), (rw9, .inl (cR, 5, .inl y_53))] H := hP
                        have hD : va_D A [(q, .inr (5, F_55)), (pa, .inl (cA, 6, .inr (.inl y_51))), (pb, .inl (cB, 6, .inr (.inl y_52))), (rw9, .inl (cR, 5, .inl y_53))] := hD
                        refine lv_iload hx hb dX5_findRow_52 (lv_at hl 0 rfl) ?_
                        exact W.iret (v := 5) hx hb hr (fun t ht9 hW => ⟨⟨5, (), rfl, (Or.inl ⟨5, (show ∀ m, m < 6 → ¬ nI m < (5 : Int32) → 5 ≤ m by decide) mm (by omega) b_47, rfl, dfs_found hA5 hB5 n_54, hl5⟩), by rw [ht9]; exact hP.sub [] rfl, va_K.moved hW.alike (hK.sub [] rfl), hD.sub [] (by decide) rfl⟩, hS.F ht9⟩) hS.2.2 dX5_findRow_54
                      · refine lv_if_eq (tgt := 55) hx hb dX5_findRow_43 (by decide) (fun _ => ?_) (fun c0 => absurd c0 (by decide))
                        have hl6 : ∀ k, k < 6 → ¬ Gn goal k := dfs_none hA5 hB5 hl5 n_54
                        refine lv_iinc (v := 6) (lv' := [(4, .int 6), (0, .ref q), (1, .long goal), (3, .int (nI mm))]) hx hb dX5_findRow_55 hl (k := 0) rfl (by decide) (by decide) rfl (fun ls hl => ?_)
                        refine lv_goto (tgt := 24) hx hb dX5_findRow_58 (by decide) ?_
                        refine lv_iload hx hb dX5_findRow_24 (lv_at hl 0 rfl) ?_
                        refine lv_iload_n hx hb dX5_findRow_26 rfl (lv_at hl 3 rfl) ?_
                        refine lv_icmp_gt (tgt := 61) hx hb dX5_findRow_27 (by decide) (fun _ => ?_) (fun c0 => absurd (by have z0 := Int32.le_iff_toInt_le.mp (Int32.not_lt.mp hm0); have z1 := Int32.le_iff_toInt_le.mp hm5; have z2 := Int32.le_iff_toInt_le.mp (Int32.not_lt.mp b_11); have z3 := Int32.le_iff_toInt_le.mp (Int32.not_lt.mp b_20); have z4 := Int32.le_iff_toInt_le.mp (Int32.not_lt.mp b_29); have z5 := Int32.le_iff_toInt_le.mp (Int32.not_lt.mp b_38); have z6 := Int32.le_iff_toInt_le.mp (Int32.not_lt.mp b_47); have y0 : (0 : Int32).toInt = 0 := (by decide); have y1 : (1 : Int32).toInt = 1 := (by decide); have y2 : (2 : Int32).toInt = 2 := (by decide); have y3 : (3 : Int32).toInt = 3 := (by decide); have y4 : (4 : Int32).toInt = 4 := (by decide); have y5 : (5 : Int32).toInt = 5 := (by decide); have y6 : (6 : Int32).toInt = 6 := (by decide); exact Int32.lt_iff_toInt_lt.mpr (by omega)) c0)
                        refine lv_aload_n hx hb dX5_findRow_61 rfl (lv_at hl 1 rfl) ?_
                        refine lv_iconst (v := 0) hx hb dX5_findRow_62 (by decide) ?_
                        refine va_put (D := (dC, dI)) (ci := 5) (v := .int 0) (ty := .int) (C := RX5) (T := TX5) (N := 15) hx hb ht uX5 tyX5 tkX5 nmX5 hown hK hP hD hS 0 rfl rfl 11 (by decide) (ht _ k_4_20) (fun _ h9 => h9) rfl (by decide +kernel) rfl rfl (by rw [L_F_1]; decide) dX5_findRow_63 (fun H locs hP hD hS => ?_)
                        obtain ⟨F_56, eF_56⟩ : ∃ g : List Value, g = F_1.set 11 (.int 0) := ⟨_, rfl⟩
                        rw [← eF_56] at hP hD
                        have K10_F_56 : F_56[10]? = some (.ref rw9) := by rw [eF_56, List.getElem?_set_ne (by decide)]; exact K10_F_1
                        have K12_F_56 : F_56[12]? = some (.ref pa) := by rw [eF_56, List.getElem?_set_ne (by decide)]; exact K12_F_1
                        have K13_F_56 : F_56[13]? = some (.ref pb) := by rw [eF_56, List.getElem?_set_ne (by decide)]; exact K13_F_1
                        have K14_F_56 : F_56[14]? = some (.long goal) := by rw [eF_56, List.getElem?_set_ne (by decide)]; exact K14_F_1
                        have K11_F_56 : F_56[11]? = some (.int 0) := by rw [eF_56]; exact List.getElem?_set_self (by rw [L_F_1]; decide)
                        have L_F_56 : F_56.length = 15 := by rw [eF_56, List.length_set]; exact L_F_1
                        have hP : va_P (dC, dI) cls [(q, .inr (5, F_56)), (pa, .inl (cA, 6, .inr (.inl y_51))), (pb, .inl (cB, 6, .inr (.inl y_52))), (rw9, .inl (cR, 5, .inl y_53))] H := hP
                        have hD : va_D A [(q, .inr (5, F_56)), (pa, .inl (cA, 6, .inr (.inl y_51))), (pb, .inl (cB, 6, .inr (.inl y_52))), (rw9, .inl (cR, 5, .inl y_53))] := hD
                        refine lv_bipush (v := 100) hx hb dX5_findRow_66 (by decide) ?_
                        exact W.iret (v := 100) hx hb hr (fun t ht9 hW => ⟨⟨100, (), rfl, (Or.inr ⟨rfl, fun k hk => hl6 k (by omega)⟩), by rw [ht9]; exact hP.sub [] rfl, va_K.moved hW.alike (hK.sub [] rfl), hD.sub [] (by decide) rfl⟩, hS.F ht9⟩) hS.2.2 dX5_findRow_68
set_option maxHeartbeats 4000000 in
set_option maxRecDepth 100000 in
theorem x_shortest (l : Launch) (dC : Nat → ClassId) (dI : Nat → Nat → Nat) (sz : Nat) (q : Nat) (fs : List Value) (a : Nat) (ga : List Value) (rw9 : Nat) (pa : Nat) (pb : Nat) (cA : ClassId) (cB : ClassId) (fA : Nat → Int64) (fB : Nat → Int64) (cR : ClassId) (fr : Nat → Int32) (goal : Int64) (p1 : Int32) (L_fs : fs.length = 18) (K2_fs : fs[2]? = some (.int 0)) (K16_fs : fs[16]? = some (.ref a)) (L_ga : ga.length = 15) (K10_ga : ga[10]? = some (.ref rw9)) (K12_ga : ga[12]? = some (.ref pa)) (K13_ga : ga[13]? = some (.ref pb)) : Met l yX11_shortest (Cond.code yX11_shortest cX11_shortest 4 (some .int) :: tb) ({ frames := 11, cells := 0, slots := 0, locals := 293 }) (pcw [.ref q, .long goal, .int p1] (dC, dI) [(q, .inr (11, fs)), (a, .inr (5, ga)), (pa, .inl (cA, 6, .inr (.inl fA))), (pb, .inl (cB, 6, .inr (.inl fB))), (rw9, .inl (cR, 5, .inl fr))] [(cA, .long), (cB, .long), (cR, .int)] sz) (va_Qi (fun (r : Int32) => (fun (_ : Unit) => ansV goal p1 r)) (bw (dC, dI) (va_A [(q, .inr (11, fs)), (a, .inr (5, ga)), (pa, .inl (cA, 6, .inr (.inl fA))), (pb, .inl (cB, 6, .inr (.inl fB))), (rw9, .inl (cR, 5, .inl fr))] sz) (fun (_ : Unit) => []) (fun (_ : Unit) => [])) (va_A [(q, .inr (11, fs)), (a, .inr (5, ga)), (pa, .inl (cA, 6, .inr (.inl fA))), (pb, .inl (cB, 6, .inr (.inl fB))), (rw9, .inl (cR, 5, .inl fr))] sz)) 0 0 (va_A [(q, .inr (11, fs)), (a, .inr (5, ga)), (pa, .inl (cA, 6, .inr (.inl fA))), (pb, .inl (cB, 6, .inr (.inl fB))), (rw9, .inl (cR, 5, .inl fr))] sz) := by
  refine Met.ofW (cc := cX11_shortest) (maxL := 4) (ret := (some .int)) (by decide) rfl ?_
  intro p e s m args below meth c s₁ B hml hv
  obtain ⟨rfl, hsz, hP, hK, hD0⟩ := hv
  have hx := B.exec
  have hb := B.bytes
  have hr := B.returns
  have hts := atoms_spec (ws := Cond.code yX11_shortest cX11_shortest 4 (some .int) :: tb) B.pre
  have ht : ∀ w ∈ tb, w.before _ s = true := fun w h => hts w (List.mem_cons_of_mem _ h)
  have hown : s.vm.findClass RX11 = some m.cls := findClass_of_methodNamed B.named
  have hlocks := B.notSynchronized
  subst hsz
  have hD := hD0.self (sz := s.heap.size)
  generalize hAe : va_A [(q, .inr (11, fs)), (a, .inr (5, ga)), (pa, .inl (cA, 6, .inr (.inl fA))), (pb, .inl (cB, 6, .inr (.inl fB))), (rw9, .inl (cR, 5, .inl fr))] s.heap.size = A at hD ⊢
  have hA : ∀ q : Nat, s.heap.size ≤ q → A q := fun q h => by rw [← hAe]; exact Or.inr h
  have hS : va_S A s.heap s.heap [] := va_S.rf
  have hl := lv_entry ([.ref q, .long goal, .int p1]) (n := 4) (Nat.le_of_ble_eq_true rfl)
  rw [lg_entry_eq]
  generalize (lg_sl ([.ref q, .long goal, .int p1]) ++ List.replicate (4 - (lg_sl ([.ref q, .long goal, .int p1])).length) Slot.unset).toArray = ls at hl ⊢
  have hl : lv_has ls 4 [(0, .ref q), (1, .long goal), (3, .int p1)] := hl
  have hP : va_P (dC, dI) cls [(q, .inr (11, fs)), (a, .inr (5, ga)), (pa, .inl (cA, 6, .inr (.inl fA))), (pb, .inl (cB, 6, .inr (.inl fB))), (rw9, .inl (cR, 5, .inl fr))] s.heap := hP
  refine lv_aload_n hx hb dX11_shortest_0 rfl (lv_at hl 0 rfl) ?_
  refine va_get (D := (dC, dI)) (ci := 11) (v := .int 0) (C := RX11) (T := TX11) (N := 18) hx hb ht uX11 hown hK hP 0 rfl rfl 2 (by decide) (ht _ k_4_93) (fun _ h9 => h9) K2_fs dX11_shortest_1 ?_
  refine lv_if_eq (tgt := 10) hx hb dX11_shortest_4 (by decide) (fun _ => ?_) (fun c0 => absurd c0 (by decide))
  refine lv_iload_n hx hb dX11_shortest_10 rfl (lv_at hl 2 rfl) ?_
  refine lv_if_lt (tgt := 19) hx hb dX11_shortest_11 (by decide) (fun b_1 => ?_) (fun b_1 => ?_)
  · refine lv_iconst (v := (-1)) hx hb dX11_shortest_19 (by decide) ?_
    exact W.iret (v := (-1)) hx hb hr (fun t ht9 hW => ⟨⟨(-1), (), rfl, (Or.inr ⟨Or.inl b_1, rfl⟩), by rw [ht9]; exact hP.sub [] rfl, va_K.moved hW.alike (hK.sub [] rfl), hD.sub [] (by decide) rfl⟩, hS.F ht9⟩) hS.2.2 dX11_shortest_20
  · refine lv_iload_n hx hb dX11_shortest_14 rfl (lv_at hl 2 rfl) ?_
    refine lv_iconst (v := 5) hx hb dX11_shortest_15 (by decide) ?_
    refine lv_icmp_le (tgt := 21) hx hb dX11_shortest_16 (by decide) (fun b_2 => ?_) (fun b_2 => ?_)
    · obtain ⟨mm, hm, rfl⟩ := nI_of2 (M := 5) (n := 5) (by decide) b_1 b_2
      have hl : lv_has ls 4 [(0, .ref q), (1, .long goal), (3, .int (nI mm))] := hl
      refine lv_aload_n hx hb dX11_shortest_21 rfl (lv_at hl 0 rfl) ?_
      refine va_get (D := (dC, dI)) (ci := 11) (v := .ref a) (C := RX11) (T := TX11) (N := 18) hx hb ht uX11 hown hK hP 0 rfl rfl 16 (by decide) (ht _ k_4_107) (fun _ h9 => h9) K16_fs dX11_shortest_22 ?_
      refine lv_lload_n hx hb dX11_shortest_25 rfl (lv_at hl 1 rfl) ?_
      refine lv_iload_n hx hb dX11_shortest_26 rfl (lv_at hl 2 rfl) ?_
      refine ca_i (wr := [(q, .inr (11, fs))]) (va_runV (As := [.long goal, .int (nI mm)]) (rest := []) ⟨hx, hb, hml, hown, ht⟩ (x_findRow l dC dI s.heap.size a ga rw9 pa pb cA cB fA fB cR fr goal mm L_ga K10_ga K12_ga K13_ga hm) (cwV 2 ht (gdV k_8_225 k_8_222 k_8_223 k_8_224 k_1_15) rfl rfl rfl (by decide +kernel) ⟨Nat.le_of_ble_eq_true rfl, Nat.le_of_ble_eq_true rfl⟩) ⟨pcw_blind, va_recv hK hP (ci := 5) (q0 := 1) rfl rfl, pcw_at hP hD hK [1, 2, 3, 4] [0, 1, 2] (by decide) rfl rfl rfl⟩ rfl rfl hl.1 rfl (lv_room (Nat.le_of_ble_eq_true rfl)) dX11_shortest_27 ⟨Nat.le_of_ble_eq_true rfl, Nat.le_of_ble_eq_true rfl⟩) hP hD hK hS hA [1, 2, 3, 4] [0] rfl rfl (by decide) (by decide) (fun r_3 u H locs w_4 hK hP hD hS => ?_)
      have hK : va_K (dC, dI) cls [(cA, .long), (cB, .long), (cR, .int)] s := hK
      have hP : va_P (dC, dI) cls [(q, .inr (11, fs))] H := hP
      have hD : va_D A [(q, .inr (11, fs))] := hD
      exact W.iret (v := r_3) hx hb hr (fun t ht9 hW => ⟨⟨r_3, (), rfl, (Or.inl ⟨mm, hm, rfl, w_4⟩), by rw [ht9]; exact hP.sub [] rfl, va_K.moved hW.alike (hK.sub [] rfl), hD.sub [] (by decide) rfl⟩, hS.F ht9⟩) hS.2.2 dX11_shortest_30
    · refine lv_iconst (v := (-1)) hx hb dX11_shortest_19 (by decide) ?_
      exact W.iret (v := (-1)) hx hb hr (fun t ht9 hW => ⟨⟨(-1), (), rfl, (Or.inr ⟨Or.inr b_2, rfl⟩), by rw [ht9]; exact hP.sub [] rfl, va_K.moved hW.alike (hK.sub [] rfl), hD.sub [] (by decide) rfl⟩, hS.F ht9⟩) hS.2.2 dX11_shortest_20
