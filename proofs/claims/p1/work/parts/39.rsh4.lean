theorem dX15_findLast_0 : decode cX15_findLast 0 = .ok (.aload_n 0, 1) := by decide +kernel
theorem dX15_findLast_1 : decode cX15_findLast 1 = .ok (.getfield 1210, 3) := by decide +kernel
theorem dX15_findLast_4 : decode cX15_findLast 4 = .ok (.ifnull 4, 3) := by decide +kernel
theorem dX15_findLast_8 : decode cX15_findLast 8 = .ok (.aload_n 0, 1) := by decide +kernel
theorem dX15_findLast_9 : decode cX15_findLast 9 = .ok (.ldc_w 1199, 3) := by decide +kernel
theorem dX15_findLast_12 : decode cX15_findLast 12 = .ok (.newarray .long, 2) := by decide +kernel
theorem dX15_findLast_14 : decode cX15_findLast 14 = .ok (.putfield 1213, 3) := by decide +kernel
theorem dX15_findLast_17 : decode cX15_findLast 17 = .ok (.aload_n 0, 1) := by decide +kernel
theorem dX15_findLast_18 : decode cX15_findLast 18 = .ok (.ldc_w 1199, 3) := by decide +kernel
theorem dX15_findLast_21 : decode cX15_findLast 21 = .ok (.newarray .int, 2) := by decide +kernel
theorem dX15_findLast_23 : decode cX15_findLast 23 = .ok (.putfield 1223, 3) := by decide +kernel
theorem dX15_findLast_26 : decode cX15_findLast 26 = .ok (.aload_n 0, 1) := by decide +kernel
theorem k_16_37 : Jvm.Cond.constant "FinderHouseModel" (1226 : Nat) (524288 : Int32) ∈ tb := tb16 37 (by decide +kernel) (by decide +kernel)
theorem dX15_findLast_27 : decode cX15_findLast 27 = .ok (.ldc_w 1226, 3) := by decide +kernel
theorem dX15_findLast_30 : decode cX15_findLast 30 = .ok (.newarray .int, 2) := by decide +kernel
theorem dX15_findLast_32 : decode cX15_findLast 32 = .ok (.putfield 1210, 3) := by decide +kernel
theorem dX15_findLast_35 : decode cX15_findLast 35 = .ok (.aload_n 0, 1) := by decide +kernel
theorem dX15_findLast_36 : decode cX15_findLast 36 = .ok (.iconst 1, 1) := by decide +kernel
theorem dX15_findLast_37 : decode cX15_findLast 37 = .ok (.putfield 1220, 3) := by decide +kernel
theorem dX15_findLast_40 : decode cX15_findLast 40 = .ok (.aload_n 0, 1) := by decide +kernel
theorem dX15_findLast_41 : decode cX15_findLast 41 = .ok (.getfield 295, 3) := by decide +kernel
theorem dX15_findLast_44 : decode cX15_findLast 44 = .ok (.iconst 4, 1) := by decide +kernel
theorem dX15_findLast_45 : decode cX15_findLast 45 = .ok (.iaload, 1) := by decide +kernel
theorem dX15_findLast_46 : decode cX15_findLast 46 = .ok (.istore_n 1, 1) := by decide +kernel
theorem dX15_findLast_47 : decode cX15_findLast 47 = .ok (.iload_n 1, 1) := by decide +kernel
theorem dX15_findLast_48 : decode cX15_findLast 48 = .ok (.aload_n 0, 1) := by decide +kernel
theorem dX15_findLast_49 : decode cX15_findLast 49 = .ok (.getfield 295, 3) := by decide +kernel
theorem dX15_findLast_52 : decode cX15_findLast 52 = .ok (.iconst 5, 1) := by decide +kernel
theorem dX15_findLast_53 : decode cX15_findLast 53 = .ok (.iaload, 1) := by decide +kernel
theorem dX15_findLast_54 : decode cX15_findLast 54 = .ok (.if_icmp .ge 83, 3) := by decide +kernel
theorem dX15_findLast_137 : decode cX15_findLast 137 = .ok (.return_, 1) := by decide +kernel
theorem dX15_findLast_57 : decode cX15_findLast 57 = .ok (.iconst 0, 1) := by decide +kernel
theorem dX15_findLast_58 : decode cX15_findLast 58 = .ok (.istore_n 2, 1) := by decide +kernel
theorem dX15_findLast_59 : decode cX15_findLast 59 = .ok (.iload_n 2, 1) := by decide +kernel
theorem dX15_findLast_60 : decode cX15_findLast 60 = .ok (.bipush 18, 2) := by decide +kernel
theorem dX15_findLast_62 : decode cX15_findLast 62 = .ok (.if_icmp .ge 69, 3) := by decide +kernel
theorem dX15_findLast_131 : decode cX15_findLast 131 = .ok (.iinc 1 1, 3) := by decide +kernel
theorem dX15_findLast_134 : decode cX15_findLast 134 = .ok (.goto (-87), 3) := by decide +kernel
theorem dX15_findLast_65 : decode cX15_findLast 65 = .ok (.lconst 0, 1) := by decide +kernel
theorem dX15_findLast_66 : decode cX15_findLast 66 = .ok (.lstore_n 3, 1) := by decide +kernel
theorem dX15_findLast_67 : decode cX15_findLast 67 = .ok (.iconst 0, 1) := by decide +kernel
theorem dX15_findLast_68 : decode cX15_findLast 68 = .ok (.istore 5, 2) := by decide +kernel
theorem dX15_findLast_70 : decode cX15_findLast 70 = .ok (.iload 5, 2) := by decide +kernel
theorem dX15_findLast_72 : decode cX15_findLast 72 = .ok (.bipush 16, 2) := by decide +kernel
theorem dX15_findLast_74 : decode cX15_findLast 74 = .ok (.if_icmp .ge 44, 3) := by decide +kernel
theorem dX15_findLast_118 : decode cX15_findLast 118 = .ok (.aload_n 0, 1) := by decide +kernel
theorem dX15_findLast_119 : decode cX15_findLast 119 = .ok (.lload_n 3, 1) := by decide +kernel
theorem dX15_findLast_120 : decode cX15_findLast 120 = .ok (.iload_n 1, 1) := by decide +kernel
theorem dX15_findLast_121 : decode cX15_findLast 121 = .ok (.iload_n 2, 1) := by decide +kernel
theorem k_16_41 : Jvm.Cond.code ({ cls := "FinderHouseModel", name := "addLast", desc := "(JII)V" } : Jvm.MethodName) prog_14_method_190_code (6 : Nat) (Option.none : Option Jvm.ClassFile.FieldType) ∈ tb := tb16 41 (by decide +kernel) (by decide +kernel)
theorem k_16_38 : Jvm.Cond.methodLink "FinderHouseModel" (1227 : Nat) ({ cls := "FinderHouseModel", name := "addLast", desc := "(JII)V" } : Jvm.MethodName) ∈ tb := tb16 38 (by decide +kernel) (by decide +kernel)
theorem k_16_40 : Jvm.Cond.instanceMethod ({ cls := "FinderHouseModel", name := "addLast", desc := "(JII)V" } : Jvm.MethodName) ∈ tb := tb16 40 (by decide +kernel) (by decide +kernel)
theorem ks_239 : Jvm.Cond.selects "FinderHouseModel" ({ cls := "FinderHouseModel", name := "addLast", desc := "(JII)V" } : Jvm.MethodName) ({ cls := "FinderHouseModel", name := "addLast", desc := "(JII)V" } : Jvm.MethodName) ∈ tb := tbp 239 (by decide +kernel) (by decide +kernel)
theorem dX15_findLast_122 : decode cX15_findLast 122 = .ok (.invokevirtual 1227, 3) := by decide +kernel
theorem dX15_findLast_125 : decode cX15_findLast 125 = .ok (.iinc 2 1, 3) := by decide +kernel
theorem dX15_findLast_128 : decode cX15_findLast 128 = .ok (.goto (-69), 3) := by decide +kernel
theorem dX15_findLast_77 : decode cX15_findLast 77 = .ok (.lload_n 3, 1) := by decide +kernel
theorem dX15_findLast_78 : decode cX15_findLast 78 = .ok (.iload_n 2, 1) := by decide +kernel
theorem dX15_findLast_79 : decode cX15_findLast 79 = .ok (.aload_n 0, 1) := by decide +kernel
theorem dX15_findLast_80 : decode cX15_findLast 80 = .ok (.getfield 1178, 3) := by decide +kernel
theorem dX15_findLast_83 : decode cX15_findLast 83 = .ok (.iload_n 1, 1) := by decide +kernel
theorem dX15_findLast_84 : decode cX15_findLast 84 = .ok (.laload, 1) := by decide +kernel
theorem dX15_findLast_85 : decode cX15_findLast 85 = .ok (.iload 5, 2) := by decide +kernel
theorem dX15_findLast_87 : decode cX15_findLast 87 = .ok (.invokestatic 1206, 3) := by decide +kernel
theorem dX15_findLast_90 : decode cX15_findLast 90 = .ok (.aload_n 0, 1) := by decide +kernel
theorem dX15_findLast_91 : decode cX15_findLast 91 = .ok (.getfield 1181, 3) := by decide +kernel
theorem dX15_findLast_94 : decode cX15_findLast 94 = .ok (.iload_n 1, 1) := by decide +kernel
theorem dX15_findLast_95 : decode cX15_findLast 95 = .ok (.laload, 1) := by decide +kernel
theorem dX15_findLast_96 : decode cX15_findLast 96 = .ok (.iload 5, 2) := by decide +kernel
theorem dX15_findLast_98 : decode cX15_findLast 98 = .ok (.invokestatic 1206, 3) := by decide +kernel
theorem dX15_findLast_101 : decode cX15_findLast 101 = .ok (.invokestatic 1159, 3) := by decide +kernel
theorem dX15_findLast_104 : decode cX15_findLast 104 = .ok (.i2l, 1) := by decide +kernel
theorem dX15_findLast_105 : decode cX15_findLast 105 = .ok (.iconst 4, 1) := by decide +kernel
theorem dX15_findLast_106 : decode cX15_findLast 106 = .ok (.iload 5, 2) := by decide +kernel
theorem dX15_findLast_108 : decode cX15_findLast 108 = .ok (.imul, 1) := by decide +kernel
theorem dX15_findLast_109 : decode cX15_findLast 109 = .ok (.lshl, 1) := by decide +kernel
theorem dX15_findLast_110 : decode cX15_findLast 110 = .ok (.lor, 1) := by decide +kernel
theorem dX15_findLast_111 : decode cX15_findLast 111 = .ok (.lstore_n 3, 1) := by decide +kernel
theorem dX15_findLast_112 : decode cX15_findLast 112 = .ok (.iinc 5 1, 3) := by decide +kernel
theorem dX15_findLast_115 : decode cX15_findLast 115 = .ok (.goto (-45), 3) := by decide +kernel
theorem dX15_leads_0 : decode cX15_leads 0 = .ok (.iconst 1, 1) := by decide +kernel
theorem dX15_leads_1 : decode cX15_leads 1 = .ok (.istore 5, 2) := by decide +kernel
theorem dX15_leads_3 : decode cX15_leads 3 = .ok (.iconst 0, 1) := by decide +kernel
theorem dX15_leads_4 : decode cX15_leads 4 = .ok (.istore 6, 2) := by decide +kernel
theorem dX15_leads_6 : decode cX15_leads 6 = .ok (.iload 6, 2) := by decide +kernel
theorem dX15_leads_8 : decode cX15_leads 8 = .ok (.bipush 16, 2) := by decide +kernel
theorem dX15_leads_10 : decode cX15_leads 10 = .ok (.if_icmp .ge 56, 3) := by decide +kernel
theorem dX15_leads_66 : decode cX15_leads 66 = .ok (.iload 5, 2) := by decide +kernel
theorem dX15_leads_68 : decode cX15_leads 68 = .ok (.ireturn, 1) := by decide +kernel
theorem dX15_leads_13 : decode cX15_leads 13 = .ok (.iload 5, 2) := by decide +kernel
theorem dX15_leads_15 : decode cX15_leads 15 = .ok (.ifCond .eq 51, 3) := by decide +kernel
theorem dX15_leads_18 : decode cX15_leads 18 = .ok (.iload_n 2, 1) := by decide +kernel
theorem dX15_leads_19 : decode cX15_leads 19 = .ok (.aload_n 0, 1) := by decide +kernel
theorem dX15_leads_20 : decode cX15_leads 20 = .ok (.getfield 1178, 3) := by decide +kernel
theorem dX15_leads_23 : decode cX15_leads 23 = .ok (.iload_n 1, 1) := by decide +kernel
theorem dX15_leads_24 : decode cX15_leads 24 = .ok (.laload, 1) := by decide +kernel
theorem dX15_leads_25 : decode cX15_leads 25 = .ok (.iload 6, 2) := by decide +kernel
theorem dX15_leads_27 : decode cX15_leads 27 = .ok (.invokestatic 1206, 3) := by decide +kernel
theorem dX15_leads_30 : decode cX15_leads 30 = .ok (.aload_n 0, 1) := by decide +kernel
theorem dX15_leads_31 : decode cX15_leads 31 = .ok (.getfield 1181, 3) := by decide +kernel
theorem dX15_leads_34 : decode cX15_leads 34 = .ok (.iload_n 1, 1) := by decide +kernel
theorem dX15_leads_35 : decode cX15_leads 35 = .ok (.laload, 1) := by decide +kernel
theorem dX15_leads_36 : decode cX15_leads 36 = .ok (.iload 6, 2) := by decide +kernel
theorem dX15_leads_38 : decode cX15_leads 38 = .ok (.invokestatic 1206, 3) := by decide +kernel
theorem dX15_leads_41 : decode cX15_leads 41 = .ok (.invokestatic 1159, 3) := by decide +kernel
theorem dX15_leads_44 : decode cX15_leads 44 = .ok (.lload_n 3, 1) := by decide +kernel
theorem dX15_leads_45 : decode cX15_leads 45 = .ok (.iload 6, 2) := by decide +kernel
theorem dX15_leads_47 : decode cX15_leads 47 = .ok (.invokestatic 1206, 3) := by decide +kernel
theorem dX15_leads_50 : decode cX15_leads 50 = .ok (.if_icmp .ne 7, 3) := by decide +kernel
theorem dX15_leads_57 : decode cX15_leads 57 = .ok (.iconst 0, 1) := by decide +kernel
theorem dX15_leads_58 : decode cX15_leads 58 = .ok (.istore 5, 2) := by decide +kernel
theorem dX15_leads_60 : decode cX15_leads 60 = .ok (.iinc 6 1, 3) := by decide +kernel
theorem dX15_leads_63 : decode cX15_leads 63 = .ok (.goto (-57), 3) := by decide +kernel
theorem dX15_leads_53 : decode cX15_leads 53 = .ok (.iconst 1, 1) := by decide +kernel
theorem dX15_leads_54 : decode cX15_leads 54 = .ok (.goto 4, 3) := by decide +kernel
theorem dX15_lastOf_0 : decode cX15_lastOf 0 = .ok (.aload_n 0, 1) := by decide +kernel
theorem k_16_36 : Jvm.Cond.code ({ cls := "FinderHouseModel", name := "findLast", desc := "()V" } : Jvm.MethodName) prog_14_method_191_code (6 : Nat) (Option.none : Option Jvm.ClassFile.FieldType) ∈ tb := tb16 36 (by decide +kernel) (by decide +kernel)
theorem k_16_33 : Jvm.Cond.methodLink "FinderHouseModel" (1231 : Nat) ({ cls := "FinderHouseModel", name := "findLast", desc := "()V" } : Jvm.MethodName) ∈ tb := tb16 33 (by decide +kernel) (by decide +kernel)
theorem k_16_35 : Jvm.Cond.instanceMethod ({ cls := "FinderHouseModel", name := "findLast", desc := "()V" } : Jvm.MethodName) ∈ tb := tb16 35 (by decide +kernel) (by decide +kernel)
theorem ks_238 : Jvm.Cond.selects "FinderHouseModel" ({ cls := "FinderHouseModel", name := "findLast", desc := "()V" } : Jvm.MethodName) ({ cls := "FinderHouseModel", name := "findLast", desc := "()V" } : Jvm.MethodName) ∈ tb := tbp 238 (by decide +kernel) (by decide +kernel)
theorem dX15_lastOf_1 : decode cX15_lastOf 1 = .ok (.invokevirtual 1231, 3) := by decide +kernel
theorem dX15_lastOf_4 : decode cX15_lastOf 4 = .ok (.lload_n 1, 1) := by decide +kernel
theorem dX15_lastOf_5 : decode cX15_lastOf 5 = .ok (.lconst 0, 1) := by decide +kernel
theorem dX15_lastOf_6 : decode cX15_lastOf 6 = .ok (.bipush 19, 2) := by decide +kernel
theorem dX15_lastOf_8 : decode cX15_lastOf 8 = .ok (.invokestatic 1171, 3) := by decide +kernel
theorem dX15_lastOf_11 : decode cX15_lastOf 11 = .ok (.istore_n 3, 1) := by decide +kernel
theorem dX15_lastOf_12 : decode cX15_lastOf 12 = .ok (.aload_n 0, 1) := by decide +kernel
theorem dX15_lastOf_13 : decode cX15_lastOf 13 = .ok (.getfield 1210, 3) := by decide +kernel
theorem dX15_lastOf_16 : decode cX15_lastOf 16 = .ok (.iload_n 3, 1) := by decide +kernel
theorem dX15_lastOf_17 : decode cX15_lastOf 17 = .ok (.iaload, 1) := by decide +kernel
theorem dX15_lastOf_18 : decode cX15_lastOf 18 = .ok (.ifCond .le 46, 3) := by decide +kernel
theorem dX15_lastOf_64 : decode cX15_lastOf 64 = .ok (.aload_n 0, 1) := by decide +kernel
theorem dX15_lastOf_65 : decode cX15_lastOf 65 = .ok (.getfield 295, 3) := by decide +kernel
theorem dX15_lastOf_68 : decode cX15_lastOf 68 = .ok (.iconst 4, 1) := by decide +kernel
theorem dX15_lastOf_69 : decode cX15_lastOf 69 = .ok (.iaload, 1) := by decide +kernel
theorem dX15_lastOf_70 : decode cX15_lastOf 70 = .ok (.istore 4, 2) := by decide +kernel
theorem dX15_lastOf_72 : decode cX15_lastOf 72 = .ok (.iload 4, 2) := by decide +kernel
theorem dX15_lastOf_74 : decode cX15_lastOf 74 = .ok (.aload_n 0, 1) := by decide +kernel
theorem dX15_lastOf_75 : decode cX15_lastOf 75 = .ok (.getfield 295, 3) := by decide +kernel
theorem dX15_lastOf_78 : decode cX15_lastOf 78 = .ok (.iconst 5, 1) := by decide +kernel
theorem dX15_lastOf_79 : decode cX15_lastOf 79 = .ok (.iaload, 1) := by decide +kernel
theorem dX15_lastOf_80 : decode cX15_lastOf 80 = .ok (.if_icmp .ge 53, 3) := by decide +kernel
theorem dX15_lastOf_133 : decode cX15_lastOf 133 = .ok (.iconst (-1), 1) := by decide +kernel
theorem dX15_lastOf_134 : decode cX15_lastOf 134 = .ok (.ireturn, 1) := by decide +kernel
theorem dX15_lastOf_83 : decode cX15_lastOf 83 = .ok (.aload_n 0, 1) := by decide +kernel
theorem dX15_lastOf_84 : decode cX15_lastOf 84 = .ok (.getfield 1220, 3) := by decide +kernel
theorem dX15_lastOf_87 : decode cX15_lastOf 87 = .ok (.ifCond .ne 46, 3) := by decide +kernel
theorem dX15_lastOf_90 : decode cX15_lastOf 90 = .ok (.iconst 0, 1) := by decide +kernel
theorem dX15_lastOf_91 : decode cX15_lastOf 91 = .ok (.istore 5, 2) := by decide +kernel
theorem dX15_lastOf_93 : decode cX15_lastOf 93 = .ok (.iload 5, 2) := by decide +kernel
theorem dX15_lastOf_95 : decode cX15_lastOf 95 = .ok (.bipush 18, 2) := by decide +kernel
theorem dX15_lastOf_97 : decode cX15_lastOf 97 = .ok (.if_icmp .ge 30, 3) := by decide +kernel
theorem dX15_lastOf_127 : decode cX15_lastOf 127 = .ok (.iinc 4 1, 3) := by decide +kernel
theorem dX15_lastOf_130 : decode cX15_lastOf 130 = .ok (.goto (-58), 3) := by decide +kernel
theorem dX15_lastOf_100 : decode cX15_lastOf 100 = .ok (.aload_n 0, 1) := by decide +kernel
theorem dX15_lastOf_101 : decode cX15_lastOf 101 = .ok (.iload 4, 2) := by decide +kernel
theorem dX15_lastOf_103 : decode cX15_lastOf 103 = .ok (.iload 5, 2) := by decide +kernel
theorem dX15_lastOf_105 : decode cX15_lastOf 105 = .ok (.lload_n 1, 1) := by decide +kernel
theorem k_16_46 : Jvm.Cond.code ({ cls := "FinderHouseModel", name := "leads", desc := "(IIJ)Z" } : Jvm.MethodName) prog_14_method_192_code (7 : Nat) (Option.some Jvm.ClassFile.FieldType.boolean) ∈ tb := tb16 46 (by decide +kernel) (by decide +kernel)
theorem k_16_43 : Jvm.Cond.methodLink "FinderHouseModel" (1234 : Nat) ({ cls := "FinderHouseModel", name := "leads", desc := "(IIJ)Z" } : Jvm.MethodName) ∈ tb := tb16 43 (by decide +kernel) (by decide +kernel)
theorem k_16_45 : Jvm.Cond.instanceMethod ({ cls := "FinderHouseModel", name := "leads", desc := "(IIJ)Z" } : Jvm.MethodName) ∈ tb := tb16 45 (by decide +kernel) (by decide +kernel)
theorem ks_240 : Jvm.Cond.selects "FinderHouseModel" ({ cls := "FinderHouseModel", name := "leads", desc := "(IIJ)Z" } : Jvm.MethodName) ({ cls := "FinderHouseModel", name := "leads", desc := "(IIJ)Z" } : Jvm.MethodName) ∈ tb := tbp 240 (by decide +kernel) (by decide +kernel)
theorem dX15_lastOf_106 : decode cX15_lastOf 106 = .ok (.invokevirtual 1234, 3) := by decide +kernel
theorem dX15_lastOf_109 : decode cX15_lastOf 109 = .ok (.ifCond .eq 12, 3) := by decide +kernel
theorem dX15_lastOf_112 : decode cX15_lastOf 112 = .ok (.bipush 32, 2) := by decide +kernel
theorem dX15_lastOf_114 : decode cX15_lastOf 114 = .ok (.iload 4, 2) := by decide +kernel
theorem dX15_lastOf_116 : decode cX15_lastOf 116 = .ok (.imul, 1) := by decide +kernel
theorem dX15_lastOf_117 : decode cX15_lastOf 117 = .ok (.iload 5, 2) := by decide +kernel
theorem dX15_lastOf_119 : decode cX15_lastOf 119 = .ok (.iadd, 1) := by decide +kernel
theorem dX15_lastOf_120 : decode cX15_lastOf 120 = .ok (.ireturn, 1) := by decide +kernel
theorem dX15_lastOf_121 : decode cX15_lastOf 121 = .ok (.iinc 5 1, 3) := by decide +kernel
theorem dX15_lastOf_124 : decode cX15_lastOf 124 = .ok (.goto (-31), 3) := by decide +kernel
theorem dX15_lastOf_21 : decode cX15_lastOf 21 = .ok (.aload_n 0, 1) := by decide +kernel
theorem dX15_lastOf_22 : decode cX15_lastOf 22 = .ok (.getfield 1213, 3) := by decide +kernel
theorem dX15_lastOf_25 : decode cX15_lastOf 25 = .ok (.aload_n 0, 1) := by decide +kernel
theorem dX15_lastOf_26 : decode cX15_lastOf 26 = .ok (.getfield 1210, 3) := by decide +kernel
theorem dX15_lastOf_29 : decode cX15_lastOf 29 = .ok (.iload_n 3, 1) := by decide +kernel
theorem dX15_lastOf_30 : decode cX15_lastOf 30 = .ok (.iaload, 1) := by decide +kernel
theorem dX15_lastOf_31 : decode cX15_lastOf 31 = .ok (.iconst 1, 1) := by decide +kernel
theorem dX15_lastOf_32 : decode cX15_lastOf 32 = .ok (.isub, 1) := by decide +kernel
theorem dX15_lastOf_33 : decode cX15_lastOf 33 = .ok (.laload, 1) := by decide +kernel
theorem dX15_lastOf_34 : decode cX15_lastOf 34 = .ok (.lload_n 1, 1) := by decide +kernel
theorem dX15_lastOf_35 : decode cX15_lastOf 35 = .ok (.lcmp, 1) := by decide +kernel
theorem dX15_lastOf_36 : decode cX15_lastOf 36 = .ok (.ifCond .ne 17, 3) := by decide +kernel
theorem dX15_lastOf_53 : decode cX15_lastOf 53 = .ok (.iload_n 3, 1) := by decide +kernel
theorem dX15_lastOf_54 : decode cX15_lastOf 54 = .ok (.iconst 1, 1) := by decide +kernel
theorem dX15_lastOf_55 : decode cX15_lastOf 55 = .ok (.iadd, 1) := by decide +kernel
theorem dX15_lastOf_56 : decode cX15_lastOf 56 = .ok (.ldc_w 1216, 3) := by decide +kernel
theorem dX15_lastOf_59 : decode cX15_lastOf 59 = .ok (.iand, 1) := by decide +kernel
theorem dX15_lastOf_60 : decode cX15_lastOf 60 = .ok (.istore_n 3, 1) := by decide +kernel
theorem dX15_lastOf_61 : decode cX15_lastOf 61 = .ok (.goto (-49), 3) := by decide +kernel
theorem dX15_lastOf_39 : decode cX15_lastOf 39 = .ok (.aload_n 0, 1) := by decide +kernel
theorem dX15_lastOf_40 : decode cX15_lastOf 40 = .ok (.getfield 1223, 3) := by decide +kernel
theorem dX15_lastOf_43 : decode cX15_lastOf 43 = .ok (.aload_n 0, 1) := by decide +kernel
theorem dX15_lastOf_44 : decode cX15_lastOf 44 = .ok (.getfield 1210, 3) := by decide +kernel
theorem dX15_lastOf_47 : decode cX15_lastOf 47 = .ok (.iload_n 3, 1) := by decide +kernel
theorem dX15_lastOf_48 : decode cX15_lastOf 48 = .ok (.iaload, 1) := by decide +kernel
theorem dX15_lastOf_49 : decode cX15_lastOf 49 = .ok (.iconst 1, 1) := by decide +kernel
theorem dX15_lastOf_50 : decode cX15_lastOf 50 = .ok (.isub, 1) := by decide +kernel
theorem dX15_lastOf_51 : decode cX15_lastOf 51 = .ok (.iaload, 1) := by decide +kernel
theorem dX15_lastOf_52 : decode cX15_lastOf 52 = .ok (.ireturn, 1) := by decide +kernel
set_option maxHeartbeats 4000000 in
set_option maxRecDepth 100000 in
theorem r_findLast (l : Launch) (dC : Nat → ClassId) (dI : Nat → Nat → Nat) (sz : Nat) (q : Nat) (fs : List Value) (sa : Nat) (sb : Nat) (sf : Nat) (sy : Nat) (lv : Nat) (se : Nat) (ka : ClassId) (kb : ClassId) (cl : ClassId) (fl : Nat → Int32) (L4 : Nat) (L5 : Nat) (fA : Nat → Int64) (fB : Nat → Int64) (L_fs : fs.length = 163) (K138_fs : fs[138]? = some (.ref se)) (K141_fs : fs[141]? = some (.ref sa)) (K142_fs : fs[142]? = some (.ref sb)) (K143_fs : fs[143]? = some (.ref sf)) (K144_fs : fs[144]? = some (.ref sy)) (K147_fs : fs[147]? = some (.ref lv)) (K151_fs : fs[151]? = some (.null)) (K152_fs : fs[152]? = some (.int 0)) (hL4 : fl 4 = nI L4) (hL5 : fl 5 = nI L5) (hL45 : L4 ≤ L5) (hLb : L5 ≤ 111151) : Met l yX15_findLast (Cond.code yX15_findLast cX15_findLast 6 none :: tb) ({ frames := 2, cells := 3, slots := 1048576, locals := 82 }) (pcw [.ref q] (dC, dI) [(q, .inr (15, fs)), (sa, .inl (ka, 111152, .inr (.inl fA))), (sb, .inl (kb, 111152, .inr (.inl fB))), (lv, .inl (cl, 6, .inl fl))] [(ka, .long), (kb, .long), (cl, .int)] sz) (va_Qv (fun (u : (List Value) × Nat × Nat × Nat × ClassId × ClassId × ClassId × Nat × Int32 × (Nat → Int64) × (Nat → Int32) × (Nat → Int32)) => match u with | (fs1, za, zb, zm, ja, jb, jm, lm1, al1, gA1, gb1, gm1) => (LD L4 L5 fA fB lm1 gA1 gb1 gm1 al1 L5 0) ∧ (fs1.length = 163) ∧ (fs1[138]? = some (.ref se)) ∧ (fs1[141]? = some (.ref sa)) ∧ (fs1[142]? = some (.ref sb)) ∧ (fs1[143]? = some (.ref sf)) ∧ (fs1[144]? = some (.ref sy)) ∧ (fs1[147]? = some (.ref lv)) ∧ (fs1[149]? = some (.ref za)) ∧ (fs1[150]? = some (.ref zb)) ∧ (fs1[151]? = some (.ref zm)) ∧ (fs1[152]? = some (.int (nI lm1))) ∧ (fs1[153]? = some (.int al1))) (bw (dC, dI) (va_A [(q, .inr (15, fs)), (sa, .inl (ka, 111152, .inr (.inl fA))), (sb, .inl (kb, 111152, .inr (.inl fB))), (lv, .inl (cl, 6, .inl fl))] sz) (fun (u : (List Value) × Nat × Nat × Nat × ClassId × ClassId × ClassId × Nat × Int32 × (Nat → Int64) × (Nat → Int32) × (Nat → Int32)) => match u with | (fs1, za, zb, zm, ja, jb, jm, lm1, al1, gA1, gb1, gm1) => [(q, .inr (15, fs1)), (sa, .inl (ka, 111152, .inr (.inl fA))), (sb, .inl (kb, 111152, .inr (.inl fB))), (lv, .inl (cl, 6, .inl fl)), (za, .inl (ja, 262144, .inr (.inl gA1))), (zb, .inl (jb, 262144, .inl gb1)), (zm, .inl (jm, 524288, .inl gm1))]) (fun (u : (List Value) × Nat × Nat × Nat × ClassId × ClassId × ClassId × Nat × Int32 × (Nat → Int64) × (Nat → Int32) × (Nat → Int32)) => match u with | (fs1, za, zb, zm, ja, jb, jm, lm1, al1, gA1, gb1, gm1) => [(ja, .long), (jb, .int), (jm, .int)])) (va_A [(q, .inr (15, fs)), (sa, .inl (ka, 111152, .inr (.inl fA))), (sb, .inl (kb, 111152, .inr (.inl fB))), (lv, .inl (cl, 6, .inl fl))] sz)) 3 1048576 (va_A [(q, .inr (15, fs)), (sa, .inl (ka, 111152, .inr (.inl fA))), (sb, .inl (kb, 111152, .inr (.inl fB))), (lv, .inl (cl, 6, .inl fl))] sz) := by
  refine Met.ofW (cc := cX15_findLast) (maxL := 6) (ret := none) (by decide) rfl ?_
  intro p e s m args below meth c s₁ B hml hv
  obtain ⟨rfl, hsz, hP, hK, hD0⟩ := hv
  have hx := B.exec
  have hb := B.bytes
  have hr := B.returns
  have hts := atoms_spec (ws := Cond.code yX15_findLast cX15_findLast 6 none :: tb) B.pre
  have ht : ∀ w ∈ tb, w.before _ s = true := fun w h => hts w (List.mem_cons_of_mem _ h)
  have hown : s.vm.findClass RX15 = some m.cls := findClass_of_methodNamed B.named
  have hlocks := B.notSynchronized
  subst hsz
  have hD := hD0.self (sz := s.heap.size)
  generalize hAe : va_A [(q, .inr (15, fs)), (sa, .inl (ka, 111152, .inr (.inl fA))), (sb, .inl (kb, 111152, .inr (.inl fB))), (lv, .inl (cl, 6, .inl fl))] s.heap.size = A at hD ⊢
  have hA : ∀ q : Nat, s.heap.size ≤ q → A q := fun q h => by rw [← hAe]; exact Or.inr h
  have hS : va_S A s.heap s.heap [] := va_S.rf
  have hl := lv_entry ([.ref q]) (n := 6) (Nat.le_of_ble_eq_true rfl)
  rw [lg_entry_eq]
  generalize (lg_sl ([.ref q]) ++ List.replicate (6 - (lg_sl ([.ref q])).length) Slot.unset).toArray = ls at hl ⊢
  have hl : lv_has ls 6 [(0, .ref q)] := hl
  have hP : va_P (dC, dI) cls [(q, .inr (15, fs)), (sa, .inl (ka, 111152, .inr (.inl fA))), (sb, .inl (kb, 111152, .inr (.inl fB))), (lv, .inl (cl, 6, .inl fl))] s.heap := hP
  refine lv_aload_n hx hb dX15_findLast_0 rfl (lv_at hl 0 rfl) ?_
  refine va_get (D := (dC, dI)) (ci := 15) (v := .null) (C := RX15) (T := TX15) (N := 163) hx hb ht uX15 hown hK hP 0 rfl rfl 151 (by decide) (ht _ k_11_99) (fun _ h9 => h9) K151_fs dX15_findLast_1 ?_
  refine lv_ifnullN (tgt := 8) hx hb dX15_findLast_4 (by decide) ?_
  refine lv_aload_n hx hb dX15_findLast_8 rfl (lv_at hl 0 rfl) ?_
  refine lv_ldcw (v := 262144) hx hb hown (ht _ k_16_3) dX15_findLast_9 ?_
  refine va_newa (atype := .long) (ty := .long) (N' := 262144) (a0 := (262144, .inr (.inl (fun _ => 0)))) hx hb (ht _ k_1_138) rfl hK hP hD hS hA (fun _ => rfl) (by decide) (by decide) (Nat.le_of_ble_eq_true rfl) (Nat.le_of_ble_eq_true rfl) (Nat.le_of_ble_eq_true rfl) dX15_findLast_12 (fun q_1 c_2 H hK hP hD hS => ?_)
  have hK : va_K (dC, dI) cls [(ka, .long), (kb, .long), (cl, .int), (c_2, .long)] s := hK
  have hP : va_P (dC, dI) cls [(q, .inr (15, fs)), (sa, .inl (ka, 111152, .inr (.inl fA))), (sb, .inl (kb, 111152, .inr (.inl fB))), (lv, .inl (cl, 6, .inl fl)), (q_1, .inl (c_2, 262144, .inr (.inl (fun _ => 0))))] H := hP
  have hD : va_D A [(q, .inr (15, fs)), (sa, .inl (ka, 111152, .inr (.inl fA))), (sb, .inl (kb, 111152, .inr (.inl fB))), (lv, .inl (cl, 6, .inl fl)), (q_1, .inl (c_2, 262144, .inr (.inl (fun _ => 0))))] := hD
  refine W.widen (k := 1) (n := 262144) (by omega) (by omega) ?_
  refine va_put (D := (dC, dI)) (ci := 15) (v := .ref q_1) (ty := .array .long) (C := RX15) (T := TX15) (N := 163) hx hb ht uX15 tyX15 tkX15 nmX15 hown hK hP hD hS 0 rfl rfl 149 (by decide) (ht _ k_11_97) (fun _ h9 => h9) rfl (by decide +kernel) rfl rfl (by rw [L_fs]; decide) dX15_findLast_14 (fun H locs hP hD hS => ?_)
  obtain ⟨F_3, eF_3⟩ : ∃ g : List Value, g = fs.set 149 (.ref q_1) := ⟨_, rfl⟩
  rw [← eF_3] at hP hD
  have K138_F_3 : F_3[138]? = some (.ref se) := by rw [eF_3, List.getElem?_set_ne (by decide)]; exact K138_fs
  have K141_F_3 : F_3[141]? = some (.ref sa) := by rw [eF_3, List.getElem?_set_ne (by decide)]; exact K141_fs
  have K142_F_3 : F_3[142]? = some (.ref sb) := by rw [eF_3, List.getElem?_set_ne (by decide)]; exact K142_fs
  have K143_F_3 : F_3[143]? = some (.ref sf) := by rw [eF_3, List.getElem?_set_ne (by decide)]; exact K143_fs
  have K144_F_3 : F_3[144]? = some (.ref sy) := by rw [eF_3, List.getElem?_set_ne (by decide)]; exact K144_fs
  have K147_F_3 : F_3[147]? = some (.ref lv) := by rw [eF_3, List.getElem?_set_ne (by decide)]; exact K147_fs
  have K151_F_3 : F_3[151]? = some (.null) := by rw [eF_3, List.getElem?_set_ne (by decide)]; exact K151_fs
  have K152_F_3 : F_3[152]? = some (.int 0) := by rw [eF_3, List.getElem?_set_ne (by decide)]; exact K152_fs
  have K149_F_3 : F_3[149]? = some (.ref q_1) := by rw [eF_3]; exact List.getElem?_set_self (by rw [L_fs]; decide)
  have L_F_3 : F_3.length = 163 := by rw [eF_3, List.length_set]; exact L_fs
  have hP : va_P (dC, dI) cls [(q, .inr (15, F_3)), (sa, .inl (ka, 111152, .inr (.inl fA))), (sb, .inl (kb, 111152, .inr (.inl fB))), (lv, .inl (cl, 6, .inl fl)), (q_1, .inl (c_2, 262144, .inr (.inl (fun _ => 0))))] H := hP
  have hD : va_D A [(q, .inr (15, F_3)), (sa, .inl (ka, 111152, .inr (.inl fA))), (sb, .inl (kb, 111152, .inr (.inl fB))), (lv, .inl (cl, 6, .inl fl)), (q_1, .inl (c_2, 262144, .inr (.inl (fun _ => 0))))] := hD
  refine lv_aload_n hx hb dX15_findLast_17 rfl (lv_at hl 0 rfl) ?_
  refine lv_ldcw (v := 262144) hx hb hown (ht _ k_16_3) dX15_findLast_18 ?_
  refine va_newa (atype := .int) (ty := .int) (N' := 262144) (a0 := (262144, .inl (fun _ => 0))) hx hb (ht _ k_1_139) rfl hK hP hD hS hA (fun _ => rfl) (by decide) (by decide) (Nat.le_of_ble_eq_true rfl) (Nat.le_of_ble_eq_true rfl) (Nat.le_of_ble_eq_true rfl) dX15_findLast_21 (fun q_4 c_5 H hK hP hD hS => ?_)
  have hK : va_K (dC, dI) cls [(ka, .long), (kb, .long), (cl, .int), (c_2, .long), (c_5, .int)] s := hK
  have hP : va_P (dC, dI) cls [(q, .inr (15, F_3)), (sa, .inl (ka, 111152, .inr (.inl fA))), (sb, .inl (kb, 111152, .inr (.inl fB))), (lv, .inl (cl, 6, .inl fl)), (q_1, .inl (c_2, 262144, .inr (.inl (fun _ => 0)))), (q_4, .inl (c_5, 262144, .inl (fun _ => 0)))] H := hP
  have hD : va_D A [(q, .inr (15, F_3)), (sa, .inl (ka, 111152, .inr (.inl fA))), (sb, .inl (kb, 111152, .inr (.inl fB))), (lv, .inl (cl, 6, .inl fl)), (q_1, .inl (c_2, 262144, .inr (.inl (fun _ => 0)))), (q_4, .inl (c_5, 262144, .inl (fun _ => 0)))] := hD
  refine W.widen (k := 2) (n := 524288) (by omega) (by omega) ?_
  refine va_put (D := (dC, dI)) (ci := 15) (v := .ref q_4) (ty := .array .int) (C := RX15) (T := TX15) (N := 163) hx hb ht uX15 tyX15 tkX15 nmX15 hown hK hP hD hS 0 rfl rfl 150 (by decide) (ht _ k_11_98) (fun _ h9 => h9) rfl (by decide +kernel) rfl rfl (by rw [L_F_3]; decide) dX15_findLast_23 (fun H locs hP hD hS => ?_)
  obtain ⟨F_6, eF_6⟩ : ∃ g : List Value, g = F_3.set 150 (.ref q_4) := ⟨_, rfl⟩
  rw [← eF_6] at hP hD
  have K138_F_6 : F_6[138]? = some (.ref se) := by rw [eF_6, List.getElem?_set_ne (by decide)]; exact K138_F_3
  have K141_F_6 : F_6[141]? = some (.ref sa) := by rw [eF_6, List.getElem?_set_ne (by decide)]; exact K141_F_3
  have K142_F_6 : F_6[142]? = some (.ref sb) := by rw [eF_6, List.getElem?_set_ne (by decide)]; exact K142_F_3
  have K143_F_6 : F_6[143]? = some (.ref sf) := by rw [eF_6, List.getElem?_set_ne (by decide)]; exact K143_F_3
  have K144_F_6 : F_6[144]? = some (.ref sy) := by rw [eF_6, List.getElem?_set_ne (by decide)]; exact K144_F_3
  have K147_F_6 : F_6[147]? = some (.ref lv) := by rw [eF_6, List.getElem?_set_ne (by decide)]; exact K147_F_3
  have K149_F_6 : F_6[149]? = some (.ref q_1) := by rw [eF_6, List.getElem?_set_ne (by decide)]; exact K149_F_3
  have K151_F_6 : F_6[151]? = some (.null) := by rw [eF_6, List.getElem?_set_ne (by decide)]; exact K151_F_3
  have K152_F_6 : F_6[152]? = some (.int 0) := by rw [eF_6, List.getElem?_set_ne (by decide)]; exact K152_F_3
  have K150_F_6 : F_6[150]? = some (.ref q_4) := by rw [eF_6]; exact List.getElem?_set_self (by rw [L_F_3]; decide)
  have L_F_6 : F_6.length = 163 := by rw [eF_6, List.length_set]; exact L_F_3
  have hP : va_P (dC, dI) cls [(q, .inr (15, F_6)), (sa, .inl (ka, 111152, .inr (.inl fA))), (sb, .inl (kb, 111152, .inr (.inl fB))), (lv, .inl (cl, 6, .inl fl)), (q_1, .inl (c_2, 262144, .inr (.inl (fun _ => 0)))), (q_4, .inl (c_5, 262144, .inl (fun _ => 0)))] H := hP
  have hD : va_D A [(q, .inr (15, F_6)), (sa, .inl (ka, 111152, .inr (.inl fA))), (sb, .inl (kb, 111152, .inr (.inl fB))), (lv, .inl (cl, 6, .inl fl)), (q_1, .inl (c_2, 262144, .inr (.inl (fun _ => 0)))), (q_4, .inl (c_5, 262144, .inl (fun _ => 0)))] := hD
  refine lv_aload_n hx hb dX15_findLast_26 rfl (lv_at hl 0 rfl) ?_
  refine lv_ldcw (v := 524288) hx hb hown (ht _ k_16_37) dX15_findLast_27 ?_
  refine va_newa (atype := .int) (ty := .int) (N' := 524288) (a0 := (524288, .inl (fun _ => 0))) hx hb (ht _ k_1_139) rfl hK hP hD hS hA (fun _ => rfl) (by decide) (by decide) (Nat.le_of_ble_eq_true rfl) (Nat.le_of_ble_eq_true rfl) (Nat.le_of_ble_eq_true rfl) dX15_findLast_30 (fun q_7 c_8 H hK hP hD hS => ?_)
  have hK : va_K (dC, dI) cls [(ka, .long), (kb, .long), (cl, .int), (c_2, .long), (c_5, .int), (c_8, .int)] s := hK
  have hP : va_P (dC, dI) cls [(q, .inr (15, F_6)), (sa, .inl (ka, 111152, .inr (.inl fA))), (sb, .inl (kb, 111152, .inr (.inl fB))), (lv, .inl (cl, 6, .inl fl)), (q_1, .inl (c_2, 262144, .inr (.inl (fun _ => 0)))), (q_4, .inl (c_5, 262144, .inl (fun _ => 0))), (q_7, .inl (c_8, 524288, .inl (fun _ => 0)))] H := hP
  have hD : va_D A [(q, .inr (15, F_6)), (sa, .inl (ka, 111152, .inr (.inl fA))), (sb, .inl (kb, 111152, .inr (.inl fB))), (lv, .inl (cl, 6, .inl fl)), (q_1, .inl (c_2, 262144, .inr (.inl (fun _ => 0)))), (q_4, .inl (c_5, 262144, .inl (fun _ => 0))), (q_7, .inl (c_8, 524288, .inl (fun _ => 0)))] := hD
  refine W.widen (k := 3) (n := 1048576) (by omega) (by omega) ?_
  refine va_put (D := (dC, dI)) (ci := 15) (v := .ref q_7) (ty := .array .int) (C := RX15) (T := TX15) (N := 163) hx hb ht uX15 tyX15 tkX15 nmX15 hown hK hP hD hS 0 rfl rfl 151 (by decide) (ht _ k_11_99) (fun _ h9 => h9) rfl (by decide +kernel) rfl rfl (by rw [L_F_6]; decide) dX15_findLast_32 (fun H locs hP hD hS => ?_)
  obtain ⟨F_9, eF_9⟩ : ∃ g : List Value, g = F_6.set 151 (.ref q_7) := ⟨_, rfl⟩
  rw [← eF_9] at hP hD
  have K138_F_9 : F_9[138]? = some (.ref se) := by rw [eF_9, List.getElem?_set_ne (by decide)]; exact K138_F_6
  have K141_F_9 : F_9[141]? = some (.ref sa) := by rw [eF_9, List.getElem?_set_ne (by decide)]; exact K141_F_6
  have K142_F_9 : F_9[142]? = some (.ref sb) := by rw [eF_9, List.getElem?_set_ne (by decide)]; exact K142_F_6
  have K143_F_9 : F_9[143]? = some (.ref sf) := by rw [eF_9, List.getElem?_set_ne (by decide)]; exact K143_F_6
  have K144_F_9 : F_9[144]? = some (.ref sy) := by rw [eF_9, List.getElem?_set_ne (by decide)]; exact K144_F_6
  have K147_F_9 : F_9[147]? = some (.ref lv) := by rw [eF_9, List.getElem?_set_ne (by decide)]; exact K147_F_6
  have K149_F_9 : F_9[149]? = some (.ref q_1) := by rw [eF_9, List.getElem?_set_ne (by decide)]; exact K149_F_6
  have K150_F_9 : F_9[150]? = some (.ref q_4) := by rw [eF_9, List.getElem?_set_ne (by decide)]; exact K150_F_6
  have K152_F_9 : F_9[152]? = some (.int 0) := by rw [eF_9, List.getElem?_set_ne (by decide)]; exact K152_F_6
  have K151_F_9 : F_9[151]? = some (.ref q_7) := by rw [eF_9]; exact List.getElem?_set_self (by rw [L_F_6]; decide)
  have L_F_9 : F_9.length = 163 := by rw [eF_9, List.length_set]; exact L_F_6
  have hP : va_P (dC, dI) cls [(q, .inr (15, F_9)), (sa, .inl (ka, 111152, .inr (.inl fA))), (sb, .inl (kb, 111152, .inr (.inl fB))), (lv, .inl (cl, 6, .inl fl)), (q_1, .inl (c_2, 262144, .inr (.inl (fun _ => 0)))), (q_4, .inl (c_5, 262144, .inl (fun _ => 0))), (q_7, .inl (c_8, 524288, .inl (fun _ => 0)))] H := hP
  have hD : va_D A [(q, .inr (15, F_9)), (sa, .inl (ka, 111152, .inr (.inl fA))), (sb, .inl (kb, 111152, .inr (.inl fB))), (lv, .inl (cl, 6, .inl fl)), (q_1, .inl (c_2, 262144, .inr (.inl (fun _ => 0)))), (q_4, .inl (c_5, 262144, .inl (fun _ => 0))), (q_7, .inl (c_8, 524288, .inl (fun _ => 0)))] := hD
  refine lv_aload_n hx hb dX15_findLast_35 rfl (lv_at hl 0 rfl) ?_
  refine lv_iconst (v := 1) hx hb dX15_findLast_36 (by decide) ?_
  refine va_put (D := (dC, dI)) (ci := 15) (v := .int 1) (ty := .boolean) (C := RX15) (T := TX15) (N := 163) hx hb ht uX15 tyX15 tkX15 nmX15 hown hK hP hD hS 0 rfl rfl 153 (by decide) (ht _ k_11_101) (fun _ h9 => h9) rfl (by decide +kernel) rfl rfl (by rw [L_F_9]; decide) dX15_findLast_37 (fun H locs hP hD hS => ?_)
  obtain ⟨F_10, eF_10⟩ : ∃ g : List Value, g = F_9.set 153 (.int 1) := ⟨_, rfl⟩
  rw [← eF_10] at hP hD
  have K138_F_10 : F_10[138]? = some (.ref se) := by rw [eF_10, List.getElem?_set_ne (by decide)]; exact K138_F_9
  have K141_F_10 : F_10[141]? = some (.ref sa) := by rw [eF_10, List.getElem?_set_ne (by decide)]; exact K141_F_9
  have K142_F_10 : F_10[142]? = some (.ref sb) := by rw [eF_10, List.getElem?_set_ne (by decide)]; exact K142_F_9
  have K143_F_10 : F_10[143]? = some (.ref sf) := by rw [eF_10, List.getElem?_set_ne (by decide)]; exact K143_F_9
  have K144_F_10 : F_10[144]? = some (.ref sy) := by rw [eF_10, List.getElem?_set_ne (by decide)]; exact K144_F_9
  have K147_F_10 : F_10[147]? = some (.ref lv) := by rw [eF_10, List.getElem?_set_ne (by decide)]; exact K147_F_9
  have K149_F_10 : F_10[149]? = some (.ref q_1) := by rw [eF_10, List.getElem?_set_ne (by decide)]; exact K149_F_9
  have K150_F_10 : F_10[150]? = some (.ref q_4) := by rw [eF_10, List.getElem?_set_ne (by decide)]; exact K150_F_9
  have K151_F_10 : F_10[151]? = some (.ref q_7) := by rw [eF_10, List.getElem?_set_ne (by decide)]; exact K151_F_9
  have K152_F_10 : F_10[152]? = some (.int 0) := by rw [eF_10, List.getElem?_set_ne (by decide)]; exact K152_F_9
  have K153_F_10 : F_10[153]? = some (.int 1) := by rw [eF_10]; exact List.getElem?_set_self (by rw [L_F_9]; decide)
  have L_F_10 : F_10.length = 163 := by rw [eF_10, List.length_set]; exact L_F_9
  have hP : va_P (dC, dI) cls [(q, .inr (15, F_10)), (sa, .inl (ka, 111152, .inr (.inl fA))), (sb, .inl (kb, 111152, .inr (.inl fB))), (lv, .inl (cl, 6, .inl fl)), (q_1, .inl (c_2, 262144, .inr (.inl (fun _ => 0)))), (q_4, .inl (c_5, 262144, .inl (fun _ => 0))), (q_7, .inl (c_8, 524288, .inl (fun _ => 0)))] H := hP
  have hD : va_D A [(q, .inr (15, F_10)), (sa, .inl (ka, 111152, .inr (.inl fA))), (sb, .inl (kb, 111152, .inr (.inl fB))), (lv, .inl (cl, 6, .inl fl)), (q_1, .inl (c_2, 262144, .inr (.inl (fun _ => 0)))), (q_4, .inl (c_5, 262144, .inl (fun _ => 0))), (q_7, .inl (c_8, 524288, .inl (fun _ => 0)))] := hD
  refine lv_aload_n hx hb dX15_findLast_40 rfl (lv_at hl 0 rfl) ?_
  refine va_get (D := (dC, dI)) (ci := 15) (v := .ref lv) (C := RX15) (T := TX15) (N := 163) hx hb ht uX15 hown hK hP 0 rfl rfl 147 (by decide) (ht _ k_11_95) (fun _ h9 => h9) K147_F_10 dX15_findLast_41 ?_
  refine lv_iconst (v := 4) hx hb dX15_findLast_44 (by decide) ?_
  refine va_iald hx hb hK hP 3 2 rfl rfl (by unfold vp_in; decide) dX15_findLast_45 ?_
  refine tk_i (y := fl 4) (by first | rfl | decide) ?_
  refine tk_i (y := (nI L4)) hL4 ?_
  refine lv_istore_n (lv' := [(1, .int (nI L4)), (0, .ref q)]) hx hb dX15_findLast_46 rfl hl (by decide) rfl (fun ls hl => ?_)
  refine lp_rule (fun H locs ls => W p l e _ s m _ below meth c H locs _ _ _ (F0 m 47 ls [])) (fun (z : Nat × Nat × Int32 × (List Value) × (Nat → Int64) × (Nat → Int32) × (Nat → Int32)) H locs ls => match z with | (k, lm2, al2, G2, uA2, ub2, um2) => va_P (dC, dI) cls [(q, .inr (15, G2)), (sa, .inl (ka, 111152, .inr (.inl fA))), (sb, .inl (kb, 111152, .inr (.inl fB))), (lv, .inl (cl, 6, .inl fl)), (q_1, .inl (c_2, 262144, .inr (.inl uA2))), (q_4, .inl (c_5, 262144, .inl ub2)), (q_7, .inl (c_8, 524288, .inl um2))] H ∧ va_D A [(q, .inr (15, G2)), (sa, .inl (ka, 111152, .inr (.inl fA))), (sb, .inl (kb, 111152, .inr (.inl fB))), (lv, .inl (cl, 6, .inl fl)), (q_1, .inl (c_2, 262144, .inr (.inl uA2))), (q_4, .inl (c_5, 262144, .inl ub2)), (q_7, .inl (c_8, 524288, .inl um2))] ∧ va_S A s.heap H locs ∧ lv_has ls 6 [(1, .int (nI k)), (0, .ref q)] ∧ True ∧ L4 ≤ k ∧ k ≤ L5 ∧ LD L4 L5 fA fB lm2 uA2 ub2 um2 al2 k 0 ∧ G2[138]? = some (.ref se) ∧ G2[141]? = some (.ref sa) ∧ G2[142]? = some (.ref sb) ∧ G2[143]? = some (.ref sf) ∧ G2[144]? = some (.ref sy) ∧ G2[147]? = some (.ref lv) ∧ G2[149]? = some (.ref q_1) ∧ G2[150]? = some (.ref q_4) ∧ G2[151]? = some (.ref q_7) ∧ G2[152]? = some (.int (nI lm2)) ∧ G2[153]? = some (.int al2) ∧ G2.length = 163) (fun (z : Nat × Nat × Int32 × (List Value) × (Nat → Int64) × (Nat → Int32) × (Nat → Int32)) => match z with | (k, lm2, al2, G2, uA2, ub2, um2) => L5 - k) ?_ (L4, 0, 1, F_10, (fun _ => 0), (fun _ => 0), (fun _ => 0)) H locs ls ⟨hP, hD, hS, lv_sub hl [0, 1] rfl, trivial, (Nat.le_refl _), hL45, LD_0, K138_F_10, K141_F_10, K142_F_10, K143_F_10, K144_F_10, K147_F_10, K149_F_10, K150_F_10, K151_F_10, K152_F_10, K153_F_10, L_F_10⟩
  intro z H locs ls hI ih47
  obtain ⟨k, lm2, al2, G2, uA2, ub2, um2⟩ := z
  obtain ⟨hP, hD, hS, hl, -, hk1, hk2, hLD2, K138_G2, K141_G2, K142_G2, K143_G2, K144_G2, K147_G2, K149_G2, K150_G2, K151_G2, K152_G2, K153_G2, L_G2⟩ := hI
  have hP : va_P (dC, dI) cls [(q, .inr (15, G2)), (sa, .inl (ka, 111152, .inr (.inl fA))), (sb, .inl (kb, 111152, .inr (.inl fB))), (lv, .inl (cl, 6, .inl fl)), (q_1, .inl (c_2, 262144, .inr (.inl uA2))), (q_4, .inl (c_5, 262144, .inl ub2)), (q_7, .inl (c_8, 524288, .inl um2))] H := hP
  have hD : va_D A [(q, .inr (15, G2)), (sa, .inl (ka, 111152, .inr (.inl fA))), (sb, .inl (kb, 111152, .inr (.inl fB))), (lv, .inl (cl, 6, .inl fl)), (q_1, .inl (c_2, 262144, .inr (.inl uA2))), (q_4, .inl (c_5, 262144, .inl ub2)), (q_7, .inl (c_8, 524288, .inl um2))] := hD
  have hl : lv_has ls 6 [(1, .int (nI k)), (0, .ref q)] := hl
  refine lv_iload_n hx hb dX15_findLast_47 rfl (lv_at hl 0 rfl) ?_
  refine lv_aload_n hx hb dX15_findLast_48 rfl (lv_at hl 1 rfl) ?_
  refine va_get (D := (dC, dI)) (ci := 15) (v := .ref lv) (C := RX15) (T := TX15) (N := 163) hx hb ht uX15 hown hK hP 0 rfl rfl 147 (by decide) (ht _ k_11_95) (fun _ h9 => h9) K147_G2 dX15_findLast_49 ?_
  refine lv_iconst (v := 5) hx hb dX15_findLast_52 (by decide) ?_
  refine va_iald hx hb hK hP 3 2 rfl rfl (by unfold vp_in; decide) dX15_findLast_53 ?_
  refine tk_i (y := fl 5) (by first | rfl | decide) ?_
  refine tk_i (y := (nI L5)) hL5 ?_
  refine lv_icmp_ge (tgt := 137) hx hb dX15_findLast_54 (by decide) (fun b_11 => ?_) (fun b_11 => ?_)
  · exact W.vret hx hb hr (fun t ht9 hW => ⟨⟨(G2, q_1, q_4, q_7, c_2, c_5, c_8, lm2, al2, uA2, ub2, um2), rfl, ⟨(by have e9 : k = L5 := ge_of hk2 (by omega) b_11; rw [e9] at hLD2; exact hLD2), L_G2, K138_G2, K141_G2, K142_G2, K143_G2, K144_G2, K147_G2, K149_G2, K150_G2, K151_G2, K152_G2, K153_G2⟩, by rw [ht9]; exact hP.sub [0, 1, 2, 3, 4, 5, 6] rfl, va_K.moved hW.alike (hK.sub [3, 4, 5] rfl), hD.sub [0, 1, 2, 3, 4, 5, 6] (by decide) rfl⟩, hS.F ht9⟩) hS.2.2 dX15_findLast_137
  · have hkl : k < L5 := nI_lej (by omega) (by omega) b_11
    refine lv_iconst (v := 0) hx hb dX15_findLast_57 (by decide) ?_
    refine lv_istore_n (lv' := [(2, .int 0), (1, .int (nI k)), (0, .ref q)]) hx hb dX15_findLast_58 rfl hl (by decide) rfl (fun ls hl => ?_)
    refine lp_rule (fun H locs ls => W p l e _ s m _ below meth c H locs _ _ _ (F0 m 59 ls [])) (fun (z : Nat × Nat × Int32 × (List Value) × (Nat → Int64) × (Nat → Int32) × (Nat → Int32)) H locs ls => match z with | (x, lm3, al3, G3, uA3, ub3, um3) => va_P (dC, dI) cls [(q, .inr (15, G3)), (sa, .inl (ka, 111152, .inr (.inl fA))), (sb, .inl (kb, 111152, .inr (.inl fB))), (lv, .inl (cl, 6, .inl fl)), (q_1, .inl (c_2, 262144, .inr (.inl uA3))), (q_4, .inl (c_5, 262144, .inl ub3)), (q_7, .inl (c_8, 524288, .inl um3))] H ∧ va_D A [(q, .inr (15, G3)), (sa, .inl (ka, 111152, .inr (.inl fA))), (sb, .inl (kb, 111152, .inr (.inl fB))), (lv, .inl (cl, 6, .inl fl)), (q_1, .inl (c_2, 262144, .inr (.inl uA3))), (q_4, .inl (c_5, 262144, .inl ub3)), (q_7, .inl (c_8, 524288, .inl um3))] ∧ va_S A s.heap H locs ∧ lv_has ls 6 [(2, .int (nI x)), (1, .int (nI k)), (0, .ref q)] ∧ True ∧ x ≤ 18 ∧ LD L4 L5 fA fB lm3 uA3 ub3 um3 al3 k x ∧ G3[138]? = some (.ref se) ∧ G3[141]? = some (.ref sa) ∧ G3[142]? = some (.ref sb) ∧ G3[143]? = some (.ref sf) ∧ G3[144]? = some (.ref sy) ∧ G3[147]? = some (.ref lv) ∧ G3[149]? = some (.ref q_1) ∧ G3[150]? = some (.ref q_4) ∧ G3[151]? = some (.ref q_7) ∧ G3[152]? = some (.int (nI lm3)) ∧ G3[153]? = some (.int al3) ∧ G3.length = 163) (fun (z : Nat × Nat × Int32 × (List Value) × (Nat → Int64) × (Nat → Int32) × (Nat → Int32)) => match z with | (x, lm3, al3, G3, uA3, ub3, um3) => 18 - x) ?_ (0, lm2, al2, G2, uA2, ub2, um2) H locs ls ⟨hP, hD, hS, lv_sub hl [0, 1, 2] rfl, trivial, (by decide), hLD2, K138_G2, K141_G2, K142_G2, K143_G2, K144_G2, K147_G2, K149_G2, K150_G2, K151_G2, K152_G2, K153_G2, L_G2⟩
    intro z H locs ls hI ih59
    obtain ⟨x, lm3, al3, G3, uA3, ub3, um3⟩ := z
    obtain ⟨hP, hD, hS, hl, -, hxx, hLD3, K138_G3, K141_G3, K142_G3, K143_G3, K144_G3, K147_G3, K149_G3, K150_G3, K151_G3, K152_G3, K153_G3, L_G3⟩ := hI
    have hP : va_P (dC, dI) cls [(q, .inr (15, G3)), (sa, .inl (ka, 111152, .inr (.inl fA))), (sb, .inl (kb, 111152, .inr (.inl fB))), (lv, .inl (cl, 6, .inl fl)), (q_1, .inl (c_2, 262144, .inr (.inl uA3))), (q_4, .inl (c_5, 262144, .inl ub3)), (q_7, .inl (c_8, 524288, .inl um3))] H := hP
    have hD : va_D A [(q, .inr (15, G3)), (sa, .inl (ka, 111152, .inr (.inl fA))), (sb, .inl (kb, 111152, .inr (.inl fB))), (lv, .inl (cl, 6, .inl fl)), (q_1, .inl (c_2, 262144, .inr (.inl uA3))), (q_4, .inl (c_5, 262144, .inl ub3)), (q_7, .inl (c_8, 524288, .inl um3))] := hD
    have hl : lv_has ls 6 [(2, .int (nI x)), (1, .int (nI k)), (0, .ref q)] := hl
    refine lv_iload_n hx hb dX15_findLast_59 rfl (lv_at hl 0 rfl) ?_
    refine lv_bipush (v := 18) hx hb dX15_findLast_60 (by decide) ?_
    refine lv_icmp_ge (tgt := 131) hx hb dX15_findLast_62 (by decide) (fun b_12 => ?_) (fun b_12 => ?_)
    · refine lv_iinc (v := (nI (k + 1))) (lv' := [(1, .int (nI (k + 1))), (2, .int (nI x)), (0, .ref q)]) hx hb dX15_findLast_131 hl (k := 1) rfl (nI_1 k) (by decide) rfl (fun ls hl => ?_)
      refine lv_goto (tgt := 47) hx hb dX15_findLast_134 (by decide) ?_
      exact ih47 (k + 1, lm3, al3, G3, uA3, ub3, um3) H locs ls (show L5 - (k + 1) < L5 - k by omega) ⟨hP.sub [0, 1, 2, 3, 4, 5, 6] rfl, hD.sub [0, 1, 2, 3, 4, 5, 6] (by decide) rfl, hS, lv_sub hl [0, 2] rfl, trivial, (by omega), (by omega), (LD_next (by have e9 := eq18' hxx b_12; rw [e9] at hLD3; exact hLD3)), K138_G3, K141_G3, K142_G3, K143_G3, K144_G3, K147_G3, K149_G3, K150_G3, K151_G3, K152_G3, K153_G3, L_G3⟩
    · have hx18 : x < 18 := lt18' hxx b_12
      refine lv_lconst (v := 0) hx hb dX15_findLast_65 (by decide) ?_
      refine lv_lstore_n (lv' := [(3, .long 0), (2, .int (nI x)), (1, .int (nI k)), (0, .ref q)]) hx hb dX15_findLast_66 rfl hl (by decide) rfl (fun ls hl => ?_)
      refine lv_iconst (v := 0) hx hb dX15_findLast_67 (by decide) ?_
      refine lv_istore (lv' := [(5, .int 0), (3, .long 0), (2, .int (nI x)), (1, .int (nI k)), (0, .ref q)]) hx hb dX15_findLast_68 hl (by decide) rfl (fun ls hl => ?_)
      refine lp_rule (fun H locs ls => W p l e _ s m _ below meth c H locs _ _ _ (F0 m 70 ls [])) (fun (z : Nat × Int64) H locs ls => match z with | (t, a) => va_P (dC, dI) cls [(q, .inr (15, G3)), (sa, .inl (ka, 111152, .inr (.inl fA))), (sb, .inl (kb, 111152, .inr (.inl fB))), (lv, .inl (cl, 6, .inl fl)), (q_1, .inl (c_2, 262144, .inr (.inl uA3))), (q_4, .inl (c_5, 262144, .inl ub3)), (q_7, .inl (c_8, 524288, .inl um3))] H ∧ va_D A [(q, .inr (15, G3)), (sa, .inl (ka, 111152, .inr (.inl fA))), (sb, .inl (kb, 111152, .inr (.inl fB))), (lv, .inl (cl, 6, .inl fl)), (q_1, .inl (c_2, 262144, .inr (.inl uA3))), (q_4, .inl (c_5, 262144, .inl ub3)), (q_7, .inl (c_8, 524288, .inl um3))] ∧ va_S A s.heap H locs ∧ lv_has ls 6 [(5, .int (nI t)), (3, .long a), (2, .int (nI x)), (1, .int (nI k)), (0, .ref q)] ∧ True ∧ t ≤ 16 ∧ ∀ j, j < 16 → lane (uN a) j = if j < t then lane (uN (nxA x (fA k) (fB k))) j else 0) (fun (z : Nat × Int64) => match z with | (t, a) => 16 - t) ?_ (0, 0) H locs ls ⟨hP, hD, hS, lv_sub hl [0, 1, 2, 3, 4] rfl, trivial, (by decide), (lor_0 _)⟩
      intro z H locs ls hI ih70
      obtain ⟨t, a⟩ := z
      obtain ⟨hP, hD, hS, hl, -, ht9, hla⟩ := hI
      have hP : va_P (dC, dI) cls [(q, .inr (15, G3)), (sa, .inl (ka, 111152, .inr (.inl fA))), (sb, .inl (kb, 111152, .inr (.inl fB))), (lv, .inl (cl, 6, .inl fl)), (q_1, .inl (c_2, 262144, .inr (.inl uA3))), (q_4, .inl (c_5, 262144, .inl ub3)), (q_7, .inl (c_8, 524288, .inl um3))] H := hP
      have hD : va_D A [(q, .inr (15, G3)), (sa, .inl (ka, 111152, .inr (.inl fA))), (sb, .inl (kb, 111152, .inr (.inl fB))), (lv, .inl (cl, 6, .inl fl)), (q_1, .inl (c_2, 262144, .inr (.inl uA3))), (q_4, .inl (c_5, 262144, .inl ub3)), (q_7, .inl (c_8, 524288, .inl um3))] := hD
      have hl : lv_has ls 6 [(5, .int (nI t)), (3, .long a), (2, .int (nI x)), (1, .int (nI k)), (0, .ref q)] := hl
      refine lv_iload hx hb dX15_findLast_70 (lv_at hl 0 rfl) ?_
      refine lv_bipush (v := 16) hx hb dX15_findLast_72 (by decide) ?_
      refine lv_icmp_ge (tgt := 118) hx hb dX15_findLast_74 (by decide) (fun b_13 => ?_) (fun b_13 => ?_)
      · have e16 := eq16 ht9 b_13
        rw [e16] at hla
        have ea : a = (nxA x (fA k) (fB k)) := lor_end hla
        refine lv_aload_n hx hb dX15_findLast_118 rfl (lv_at hl 4 rfl) ?_
        refine lv_lload_n hx hb dX15_findLast_119 rfl (lv_at hl 1 rfl) ?_
        refine lv_iload_n hx hb dX15_findLast_120 rfl (lv_at hl 3 rfl) ?_
        refine lv_iload_n hx hb dX15_findLast_121 rfl (lv_at hl 2 rfl) ?_
        refine ca_v (wr := [(sa, .inl (ka, 111152, .inr (.inl fA))), (sb, .inl (kb, 111152, .inr (.inl fB))), (lv, .inl (cl, 6, .inl fl))]) (va_runV (As := [.long a, .int (nI k), .int (nI x)]) (rest := []) ⟨hx, hb, hml, hown, ht⟩ (r_addLast l dC dI H.size q G3 q_1 q_4 q_7 sa sb sf sy lv se c_2 c_5 c_8 uA3 ub3 um3 lm3 al3 a k x L4 L5 fA fB L_G3 K138_G3 K141_G3 K142_G3 K143_G3 K144_G3 K147_G3 K149_G3 K150_G3 K151_G3 K152_G3 K153_G3 hLD3 hk1 hkl hx18 ea) (cwV 3 ht (gdV k_16_41 k_16_38 k_16_40 ks_239 k_1_17) rfl rfl rfl (by decide +kernel) ⟨Nat.le_of_ble_eq_true rfl, Nat.le_of_ble_eq_true rfl⟩) ⟨pcw_blind, va_recv hK hP (ci := 15) (q0 := 0) rfl rfl, pcw_at hP hD hK [0, 4, 5, 6] [3, 4, 5] (by decide) rfl rfl rfl⟩ rfl rfl hl.1 rfl (lv_room (Nat.le_of_ble_eq_true rfl)) dX15_findLast_122 ⟨Nat.le_of_ble_eq_true rfl, Nat.le_of_ble_eq_true rfl⟩) hP hD hK hS hA [0, 4, 5, 6] [1, 2, 3] rfl rfl (by decide) (by decide) (fun u H locs w_15 hK hP hD hS => ?_)
        obtain ⟨F_16, q_17, y_18, y_19, y_20, y_21⟩ := u
        have hK : va_K (dC, dI) cls [(ka, .long), (kb, .long), (cl, .int), (c_2, .long), (c_5, .int), (c_8, .int)] s := hK
        have hP : va_P (dC, dI) cls [(sa, .inl (ka, 111152, .inr (.inl fA))), (sb, .inl (kb, 111152, .inr (.inl fB))), (lv, .inl (cl, 6, .inl fl)), (q, .inr (15, F_16)), (q_1, .inl (c_2, 262144, .inr (.inl y_19))), (q_4, .inl (c_5, 262144, .inl y_20)), (q_7, .inl (c_8, 524288, .inl y_21))] H := hP
        have hD : va_D A [(sa, .inl (ka, 111152, .inr (.inl fA))), (sb, .inl (kb, 111152, .inr (.inl fB))), (lv, .inl (cl, 6, .inl fl)), (q, .inr (15, F_16)), (q_1, .inl (c_2, 262144, .inr (.inl y_19))), (q_4, .inl (c_5, 262144, .inl y_20)), (q_7, .inl (c_8, 524288, .inl y_21))] := hD
        obtain ⟨w_15, K_22, K_23, K_24, K_25, K_26, K_27, K_28, K_29, K_30, K_31, K_32, K_33⟩ := w_15
        have hLD4 := w_15
        refine lv_iinc (v := (nI (x + 1))) (lv' := [(2, .int (nI (x + 1))), (5, .int (nI t)), (3, .long a), (1, .int (nI k)), (0, .ref q)]) hx hb dX15_findLast_125 hl (k := 2) rfl (nI_1 x) (by decide) rfl (fun ls hl => ?_)
        refine lv_goto (tgt := 59) hx hb dX15_findLast_128 (by decide) ?_
        exact ih59 (x + 1, q_17, y_18, F_16, y_19, y_20, y_21) H locs ls (show 18 - (x + 1) < 18 - x by omega) ⟨hP.sub [3, 0, 1, 2, 4, 5, 6] rfl, hD.sub [3, 0, 1, 2, 4, 5, 6] (by decide) rfl, hS, lv_sub hl [0, 3, 4] rfl, trivial, (by omega), hLD4, K_23, K_24, K_25, K_26, K_27, K_28, K_29, K_30, K_31, K_32, K_33, K_22⟩
      · have ht16 : t < 16 := lt16 ht9 b_13
        refine lv_lload_n hx hb dX15_findLast_77 rfl (lv_at hl 1 rfl) ?_
        refine lv_iload_n hx hb dX15_findLast_78 rfl (lv_at hl 2 rfl) ?_
        refine lv_aload_n hx hb dX15_findLast_79 rfl (lv_at hl 4 rfl) ?_
        refine va_get (D := (dC, dI)) (ci := 15) (v := .ref sa) (C := RX15) (T := TX15) (N := 163) hx hb ht uX15 hown hK hP 0 rfl rfl 141 (by decide) (ht _ k_11_89) (fun _ h9 => h9) K141_G3 dX15_findLast_80 ?_
        refine lv_iload_n hx hb dX15_findLast_83 rfl (lv_at hl 3 rfl) ?_
        refine va_lald hx hb hK hP 1 0 rfl rfl (vp_in_nI (by omega) (by decide)) dX15_findLast_84 ?_
        refine tk_l (y := (fA k)) (by rw [nI_clamp (by omega)]) ?_
        refine lv_iload hx hb dX15_findLast_85 (lv_at hl 0 rfl) ?_
        refine ca_i (wr := [(q, .inr (15, G3)), (sa, .inl (ka, 111152, .inr (.inl fA))), (sb, .inl (kb, 111152, .inr (.inl fB))), (lv, .inl (cl, 6, .inl fl)), (q_1, .inl (c_2, 262144, .inr (.inl uA3))), (q_4, .inl (c_5, 262144, .inl ub3)), (q_7, .inl (c_8, 524288, .inl um3))]) (va_runS (As := [.long (fA k), .int (nI t)]) (rest := [.int (nI x), .long a]) ⟨hx, hb, hml, hown, ht⟩ (r_nibble l dC dI H.size (fA k) t  ht16) (cwS 2 ht (gdS k_16_18 k_16_16 k_16_17 k_1_17) rfl rfl rfl (by decide +kernel) ⟨Nat.le_of_ble_eq_true rfl, Nat.le_of_ble_eq_true rfl⟩) ⟨pcw_blind, pcw_at hP hD hK [] [] (by decide) rfl rfl rfl⟩ rfl rfl hl.1 rfl (lv_room (Nat.le_of_ble_eq_true rfl)) dX15_findLast_87 ⟨Nat.le_of_ble_eq_true rfl, Nat.le_of_ble_eq_true rfl⟩) hP hD hK hS hA [] [0, 1, 2, 3, 4, 5, 6] rfl rfl (by decide) (by decide) (fun r_34 u H locs w_35 hK hP hD hS => ?_)
        have hK : va_K (dC, dI) cls [(ka, .long), (kb, .long), (cl, .int), (c_2, .long), (c_5, .int), (c_8, .int)] s := hK
        have hP : va_P (dC, dI) cls [(q, .inr (15, G3)), (sa, .inl (ka, 111152, .inr (.inl fA))), (sb, .inl (kb, 111152, .inr (.inl fB))), (lv, .inl (cl, 6, .inl fl)), (q_1, .inl (c_2, 262144, .inr (.inl uA3))), (q_4, .inl (c_5, 262144, .inl ub3)), (q_7, .inl (c_8, 524288, .inl um3))] H := hP
        have hD : va_D A [(q, .inr (15, G3)), (sa, .inl (ka, 111152, .inr (.inl fA))), (sb, .inl (kb, 111152, .inr (.inl fB))), (lv, .inl (cl, 6, .inl fl)), (q_1, .inl (c_2, 262144, .inr (.inl uA3))), (q_4, .inl (c_5, 262144, .inl ub3)), (q_7, .inl (c_8, 524288, .inl um3))] := hD
        obtain rfl : r_34 = nI (lane (uN (fA k)) t) := w_35
        refine lv_aload_n hx hb dX15_findLast_90 rfl (lv_at hl 4 rfl) ?_
        refine va_get (D := (dC, dI)) (ci := 15) (v := .ref sb) (C := RX15) (T := TX15) (N := 163) hx hb ht uX15 hown hK hP 0 rfl rfl 142 (by decide) (ht _ k_11_90) (fun _ h9 => h9) K142_G3 dX15_findLast_91 ?_
        refine lv_iload_n hx hb dX15_findLast_94 rfl (lv_at hl 3 rfl) ?_
        refine va_lald hx hb hK hP 2 1 rfl rfl (vp_in_nI (by omega) (by decide)) dX15_findLast_95 ?_
        refine tk_l (y := (fB k)) (by rw [nI_clamp (by omega)]) ?_
        refine lv_iload hx hb dX15_findLast_96 (lv_at hl 0 rfl) ?_
        refine ca_i (wr := [(q, .inr (15, G3)), (sa, .inl (ka, 111152, .inr (.inl fA))), (sb, .inl (kb, 111152, .inr (.inl fB))), (lv, .inl (cl, 6, .inl fl)), (q_1, .inl (c_2, 262144, .inr (.inl uA3))), (q_4, .inl (c_5, 262144, .inl ub3)), (q_7, .inl (c_8, 524288, .inl um3))]) (va_runS (As := [.long (fB k), .int (nI t)]) (rest := [.int (nI (lane (uN (fA k)) t)), .int (nI x), .long a]) ⟨hx, hb, hml, hown, ht⟩ (r_nibble l dC dI H.size (fB k) t  ht16) (cwS 2 ht (gdS k_16_18 k_16_16 k_16_17 k_1_17) rfl rfl rfl (by decide +kernel) ⟨Nat.le_of_ble_eq_true rfl, Nat.le_of_ble_eq_true rfl⟩) ⟨pcw_blind, pcw_at hP hD hK [] [] (by decide) rfl rfl rfl⟩ rfl rfl hl.1 rfl (lv_room (Nat.le_of_ble_eq_true rfl)) dX15_findLast_98 ⟨Nat.le_of_ble_eq_true rfl, Nat.le_of_ble_eq_true rfl⟩) hP hD hK hS hA [] [0, 1, 2, 3, 4, 5, 6] rfl rfl (by decide) (by decide) (fun r_36 u H locs w_37 hK hP hD hS => ?_)
        have hK : va_K (dC, dI) cls [(ka, .long), (kb, .long), (cl, .int), (c_2, .long), (c_5, .int), (c_8, .int)] s := hK
        have hP : va_P (dC, dI) cls [(q, .inr (15, G3)), (sa, .inl (ka, 111152, .inr (.inl fA))), (sb, .inl (kb, 111152, .inr (.inl fB))), (lv, .inl (cl, 6, .inl fl)), (q_1, .inl (c_2, 262144, .inr (.inl uA3))), (q_4, .inl (c_5, 262144, .inl ub3)), (q_7, .inl (c_8, 524288, .inl um3))] H := hP
        have hD : va_D A [(q, .inr (15, G3)), (sa, .inl (ka, 111152, .inr (.inl fA))), (sb, .inl (kb, 111152, .inr (.inl fB))), (lv, .inl (cl, 6, .inl fl)), (q_1, .inl (c_2, 262144, .inr (.inl uA3))), (q_4, .inl (c_5, 262144, .inl ub3)), (q_7, .inl (c_8, 524288, .inl um3))] := hD
        obtain rfl : r_36 = nI (lane (uN (fB k)) t) := w_37
        refine ca_i (wr := [(q, .inr (15, G3)), (sa, .inl (ka, 111152, .inr (.inl fA))), (sb, .inl (kb, 111152, .inr (.inl fB))), (lv, .inl (cl, 6, .inl fl)), (q_1, .inl (c_2, 262144, .inr (.inl uA3))), (q_4, .inl (c_5, 262144, .inl ub3)), (q_7, .inl (c_8, 524288, .inl um3))]) (va_runS (As := [.int (nI x), .int (nI (lane (uN (fA k)) t)), .int (nI (lane (uN (fB k)) t))]) (rest := [.long a]) ⟨hx, hb, hml, hown, ht⟩ (r_stepA l dC dI H.size x (lane (uN (fA k)) t) (lane (uN (fB k)) t)  hx18 (lane_lt _ _) (lane_lt _ _)) (cwS 3 ht (gdS k_16_21 k_16_19 k_16_20 k_1_17) rfl rfl rfl (by decide +kernel) ⟨Nat.le_of_ble_eq_true rfl, Nat.le_of_ble_eq_true rfl⟩) ⟨pcw_blind, pcw_at hP hD hK [] [] (by decide) rfl rfl rfl⟩ rfl rfl hl.1 rfl (lv_room (Nat.le_of_ble_eq_true rfl)) dX15_findLast_101 ⟨Nat.le_of_ble_eq_true rfl, Nat.le_of_ble_eq_true rfl⟩) hP hD hK hS hA [] [0, 1, 2, 3, 4, 5, 6] rfl rfl (by decide) (by decide) (fun r_38 u H locs w_39 hK hP hD hS => ?_)
        have hK : va_K (dC, dI) cls [(ka, .long), (kb, .long), (cl, .int), (c_2, .long), (c_5, .int), (c_8, .int)] s := hK
        have hP : va_P (dC, dI) cls [(q, .inr (15, G3)), (sa, .inl (ka, 111152, .inr (.inl fA))), (sb, .inl (kb, 111152, .inr (.inl fB))), (lv, .inl (cl, 6, .inl fl)), (q_1, .inl (c_2, 262144, .inr (.inl uA3))), (q_4, .inl (c_5, 262144, .inl ub3)), (q_7, .inl (c_8, 524288, .inl um3))] H := hP
        have hD : va_D A [(q, .inr (15, G3)), (sa, .inl (ka, 111152, .inr (.inl fA))), (sb, .inl (kb, 111152, .inr (.inl fB))), (lv, .inl (cl, 6, .inl fl)), (q_1, .inl (c_2, 262144, .inr (.inl uA3))), (q_4, .inl (c_5, 262144, .inl ub3)), (q_7, .inl (c_8, 524288, .inl um3))] := hD
        obtain rfl : r_38 = nI (lane (uN (nxA x (fA k) (fB k))) t) := w_39.trans (by rw [lane_nxA hx18 _ _ ht16])
        refine lv_i2l hx hb dX15_findLast_104 rfl ?_
        refine lv_topl (fun x_40 ex_40 => ?_)
        refine lv_iconst (v := 4) hx hb dX15_findLast_105 (by decide) ?_
        refine lv_iload hx hb dX15_findLast_106 (lv_at hl 0 rfl) ?_
        refine lv_imul hx hb dX15_findLast_108 ?_
        refine tk_i (y := (nI (4 * t))) (pk_mul 4 t) ?_
        refine lv_lshl hx hb dX15_findLast_109 rfl ?_
        refine lv_topl (fun x_41 ex_41 => ?_)
        refine lv_lor hx hb dX15_findLast_110 ?_
        refine lv_topl (fun x_42 ex_42 => ?_)
        refine lv_lstore_n (lv' := [(3, .long x_42), (5, .int (nI t)), (2, .int (nI x)), (1, .int (nI k)), (0, .ref q)]) hx hb dX15_findLast_111 rfl hl (by decide) rfl (fun ls hl => ?_)
        refine lv_iinc (v := (nI (t + 1))) (lv' := [(5, .int (nI (t + 1))), (3, .long x_42), (2, .int (nI x)), (1, .int (nI k)), (0, .ref q)]) hx hb dX15_findLast_112 hl (k := 1) rfl (nI_1 t) (by decide) rfl (fun ls hl => ?_)
        refine lv_goto (tgt := 70) hx hb dX15_findLast_115 (by decide) ?_
        exact ih70 (t + 1, x_42) H locs ls (show 16 - (t + 1) < 16 - t by omega) ⟨hP.sub [0, 1, 2, 3, 4, 5, 6] rfl, hD.sub [0, 1, 2, 3, 4, 5, 6] (by decide) rfl, hS, lv_sub hl [0, 1, 2, 3, 4] rfl, trivial, (by omega), (by rw [ex_42, ex_41, ex_40]; exact lor_step (f := fun j => lane (uN (nxA x (fA k) (fB k))) j) ht16 (lane_lt _ _) hla)⟩
set_option maxHeartbeats 4000000 in
set_option maxRecDepth 100000 in
theorem r_leads (l : Launch) (dC : Nat → ClassId) (dI : Nat → Nat → Nat) (sz : Nat) (q : Nat) (fs : List Value) (sa : Nat) (sb : Nat) (ka : ClassId) (kb : ClassId) (fA : Nat → Int64) (fB : Nat → Int64) (k : Nat) (x : Nat) (goal : Int64) (L_fs : fs.length = 163) (K141_fs : fs[141]? = some (.ref sa)) (K142_fs : fs[142]? = some (.ref sb)) (hk9 : k < 111152) (hx18 : x < 18) : Met l yX15_leads (Cond.code yX15_leads cX15_leads 7 (some .boolean) :: tb) ({ frames := 1, cells := 0, slots := 0, locals := 82 }) (pcw [.ref q, .int (nI k), .int (nI x), .long goal] (dC, dI) [(q, .inr (15, fs)), (sa, .inl (ka, 111152, .inr (.inl fA))), (sb, .inl (kb, 111152, .inr (.inl fB)))] [(ka, .long), (kb, .long)] sz) (va_Qi (fun (r : Int32) => (fun (_ : Unit) => (r = 1 ∧ (nxA x (fA k) (fB k)) = goal) ∨ (r = 0 ∧ ¬ (nxA x (fA k) (fB k)) = goal))) (bw (dC, dI) (va_A [(q, .inr (15, fs)), (sa, .inl (ka, 111152, .inr (.inl fA))), (sb, .inl (kb, 111152, .inr (.inl fB)))] sz) (fun (_ : Unit) => [(q, .inr (15, fs)), (sa, .inl (ka, 111152, .inr (.inl fA))), (sb, .inl (kb, 111152, .inr (.inl fB)))]) (fun (_ : Unit) => [])) (va_A [(q, .inr (15, fs)), (sa, .inl (ka, 111152, .inr (.inl fA))), (sb, .inl (kb, 111152, .inr (.inl fB)))] sz)) 0 0 (va_A [(q, .inr (15, fs)), (sa, .inl (ka, 111152, .inr (.inl fA))), (sb, .inl (kb, 111152, .inr (.inl fB)))] sz) := by
  refine Met.ofW (cc := cX15_leads) (maxL := 7) (ret := (some .boolean)) (by decide) rfl ?_
  intro p e s m args below meth c s₁ B hml hv
  obtain ⟨rfl, hsz, hP, hK, hD0⟩ := hv
  have hx := B.exec
  have hb := B.bytes
  have hr := B.returns
  have hts := atoms_spec (ws := Cond.code yX15_leads cX15_leads 7 (some .boolean) :: tb) B.pre
  have ht : ∀ w ∈ tb, w.before _ s = true := fun w h => hts w (List.mem_cons_of_mem _ h)
  have hown : s.vm.findClass RX15 = some m.cls := findClass_of_methodNamed B.named
  have hlocks := B.notSynchronized
  subst hsz
  have hD := hD0.self (sz := s.heap.size)
  generalize hAe : va_A [(q, .inr (15, fs)), (sa, .inl (ka, 111152, .inr (.inl fA))), (sb, .inl (kb, 111152, .inr (.inl fB)))] s.heap.size = A at hD ⊢
  have hA : ∀ q : Nat, s.heap.size ≤ q → A q := fun q h => by rw [← hAe]; exact Or.inr h
  have hS : va_S A s.heap s.heap [] := va_S.rf
  have hl := lv_entry ([.ref q, .int (nI k), .int (nI x), .long goal]) (n := 7) (Nat.le_of_ble_eq_true rfl)
  rw [lg_entry_eq]
  generalize (lg_sl ([.ref q, .int (nI k), .int (nI x), .long goal]) ++ List.replicate (7 - (lg_sl ([.ref q, .int (nI k), .int (nI x), .long goal])).length) Slot.unset).toArray = ls at hl ⊢
  have hl : lv_has ls 7 [(0, .ref q), (1, .int (nI k)), (2, .int (nI x)), (3, .long goal)] := hl
  have hP : va_P (dC, dI) cls [(q, .inr (15, fs)), (sa, .inl (ka, 111152, .inr (.inl fA))), (sb, .inl (kb, 111152, .inr (.inl fB)))] s.heap := hP
  refine lv_iconst (v := 1) hx hb dX15_leads_0 (by decide) ?_
  refine lv_istore (lv' := [(5, .int 1), (0, .ref q), (1, .int (nI k)), (2, .int (nI x)), (3, .long goal)]) hx hb dX15_leads_1 hl (by decide) rfl (fun ls hl => ?_)
  refine lv_iconst (v := 0) hx hb dX15_leads_3 (by decide) ?_
  refine lv_istore (lv' := [(6, .int 0), (5, .int 1), (0, .ref q), (1, .int (nI k)), (2, .int (nI x)), (3, .long goal)]) hx hb dX15_leads_4 hl (by decide) rfl (fun ls hl => ?_)
  refine lp_rule (fun H locs ls => W p l e _ s m _ below meth c H locs _ _ _ (F0 m 6 ls [])) (fun (z : Nat × Int32) H locs ls => match z with | (t, b9) => va_P (dC, dI) cls [(q, .inr (15, fs)), (sa, .inl (ka, 111152, .inr (.inl fA))), (sb, .inl (kb, 111152, .inr (.inl fB)))] H ∧ va_D A [(q, .inr (15, fs)), (sa, .inl (ka, 111152, .inr (.inl fA))), (sb, .inl (kb, 111152, .inr (.inl fB)))] ∧ va_S A s.heap H locs ∧ lv_has ls 7 [(6, .int (nI t)), (5, .int b9), (3, .long goal), (2, .int (nI x)), (1, .int (nI k)), (0, .ref q)] ∧ True ∧ t ≤ 16 ∧ ((b9 = 1 ∧ ∀ j, j < t → lane (uN (nxA x (fA k) (fB k))) j = lane (uN goal) j) ∨ (b9 = 0 ∧ ¬ (nxA x (fA k) (fB k)) = goal))) (fun (z : Nat × Int32) => match z with | (t, b9) => 16 - t) ?_ (0, 1) s.heap [] ls ⟨hP, hD, hS, lv_sub hl [0, 1, 5, 4, 3, 2] rfl, trivial, (by decide), (Or.inl ⟨rfl, fun j hj => absurd hj (Nat.not_lt_zero _)⟩)⟩
  intro z H locs ls hI ih6
  obtain ⟨t, b9⟩ := z
  obtain ⟨hP, hD, hS, hl, -, htt, hb9⟩ := hI
  have hP : va_P (dC, dI) cls [(q, .inr (15, fs)), (sa, .inl (ka, 111152, .inr (.inl fA))), (sb, .inl (kb, 111152, .inr (.inl fB)))] H := hP
  have hD : va_D A [(q, .inr (15, fs)), (sa, .inl (ka, 111152, .inr (.inl fA))), (sb, .inl (kb, 111152, .inr (.inl fB)))] := hD
  have hl : lv_has ls 7 [(6, .int (nI t)), (5, .int b9), (3, .long goal), (2, .int (nI x)), (1, .int (nI k)), (0, .ref q)] := hl
  refine lv_iload hx hb dX15_leads_6 (lv_at hl 0 rfl) ?_
  refine lv_bipush (v := 16) hx hb dX15_leads_8 (by decide) ?_
  refine lv_icmp_ge (tgt := 66) hx hb dX15_leads_10 (by decide) (fun b_1 => ?_) (fun b_1 => ?_)
  · rcases hb9 with ⟨rfl, hall⟩ | ⟨rfl, hng⟩
    · refine lv_iload hx hb dX15_leads_66 (lv_at hl 1 rfl) ?_
      exact W.zret (v := 1) hx hb hr rfl (fun t ht9 hW => ⟨⟨1, (), rfl, (Or.inl ⟨rfl, lane_eq (fun j hj => hall j (by have := eq16 htt b_1; omega))⟩), by rw [ht9]; exact hP.sub [0, 1, 2] rfl, va_K.moved hW.alike (hK.sub [] rfl), hD.sub [0, 1, 2] (by decide) rfl⟩, hS.F ht9⟩) hS.2.2 dX15_leads_68
    · refine lv_iload hx hb dX15_leads_66 (lv_at hl 1 rfl) ?_
      exact W.zret (v := 0) hx hb hr rfl (fun t ht9 hW => ⟨⟨0, (), rfl, (Or.inr ⟨rfl, hng⟩), by rw [ht9]; exact hP.sub [0, 1, 2] rfl, va_K.moved hW.alike (hK.sub [] rfl), hD.sub [0, 1, 2] (by decide) rfl⟩, hS.F ht9⟩) hS.2.2 dX15_leads_68
  · have ht16 : t < 16 := lt16 htt b_1
    refine lv_iload hx hb dX15_leads_13 (lv_at hl 1 rfl) ?_
    refine lv_if_eq (tgt := 66) hx hb dX15_leads_15 (by decide) (fun b_2 => ?_) (fun b_2 => ?_)
    · obtain ⟨rfl, hng⟩ := hb9.resolve_left (fun h => absurd (h.1.symm.trans b_2) (by decide))
      refine lv_iload hx hb dX15_leads_66 (lv_at hl 1 rfl) ?_
      exact W.zret (v := 0) hx hb hr rfl (fun t ht9 hW => ⟨⟨0, (), rfl, (Or.inr ⟨rfl, hng⟩), by rw [ht9]; exact hP.sub [0, 1, 2] rfl, va_K.moved hW.alike (hK.sub [] rfl), hD.sub [0, 1, 2] (by decide) rfl⟩, hS.F ht9⟩) hS.2.2 dX15_leads_68
    · obtain ⟨-, hall⟩ := hb9.resolve_right (fun h => b_2 h.1)
      refine lv_iload_n hx hb dX15_leads_18 rfl (lv_at hl 3 rfl) ?_
      refine lv_aload_n hx hb dX15_leads_19 rfl (lv_at hl 5 rfl) ?_
      refine va_get (D := (dC, dI)) (ci := 15) (v := .ref sa) (C := RX15) (T := TX15) (N := 163) hx hb ht uX15 hown hK hP 0 rfl rfl 141 (by decide) (ht _ k_11_89) (fun _ h9 => h9) K141_fs dX15_leads_20 ?_
      refine lv_iload_n hx hb dX15_leads_23 rfl (lv_at hl 4 rfl) ?_
      refine va_lald hx hb hK hP 1 0 rfl rfl (vp_in_nI (by omega) (by decide)) dX15_leads_24 ?_
      refine tk_l (y := (fA k)) (by rw [nI_clamp (by omega)]) ?_
      refine lv_iload hx hb dX15_leads_25 (lv_at hl 0 rfl) ?_
      refine ca_i (wr := [(q, .inr (15, fs)), (sa, .inl (ka, 111152, .inr (.inl fA))), (sb, .inl (kb, 111152, .inr (.inl fB)))]) (va_runS (As := [.long (fA k), .int (nI t)]) (rest := [.int (nI x)]) ⟨hx, hb, hml, hown, ht⟩ (r_nibble l dC dI H.size (fA k) t  ht16) (cwS 2 ht (gdS k_16_18 k_16_16 k_16_17 k_1_17) rfl rfl rfl (by decide +kernel) ⟨Nat.le_of_ble_eq_true rfl, Nat.le_of_ble_eq_true rfl⟩) ⟨pcw_blind, pcw_at hP hD hK [] [] (by decide) rfl rfl rfl⟩ rfl rfl hl.1 rfl (lv_room (Nat.le_of_ble_eq_true rfl)) dX15_leads_27 ⟨Nat.le_of_ble_eq_true rfl, Nat.le_of_ble_eq_true rfl⟩) hP hD hK hS hA [] [0, 1, 2] rfl rfl (by decide) (by decide) (fun r_3 u H locs w_4 hK hP hD hS => ?_)
      have hK : va_K (dC, dI) cls [(ka, .long), (kb, .long)] s := hK
      have hP : va_P (dC, dI) cls [(q, .inr (15, fs)), (sa, .inl (ka, 111152, .inr (.inl fA))), (sb, .inl (kb, 111152, .inr (.inl fB)))] H := hP
      have hD : va_D A [(q, .inr (15, fs)), (sa, .inl (ka, 111152, .inr (.inl fA))), (sb, .inl (kb, 111152, .inr (.inl fB)))] := hD
      obtain rfl : r_3 = nI (lane (uN (fA k)) t) := w_4
      refine lv_aload_n hx hb dX15_leads_30 rfl (lv_at hl 5 rfl) ?_
      refine va_get (D := (dC, dI)) (ci := 15) (v := .ref sb) (C := RX15) (T := TX15) (N := 163) hx hb ht uX15 hown hK hP 0 rfl rfl 142 (by decide) (ht _ k_11_90) (fun _ h9 => h9) K142_fs dX15_leads_31 ?_
      refine lv_iload_n hx hb dX15_leads_34 rfl (lv_at hl 4 rfl) ?_
      refine va_lald hx hb hK hP 2 1 rfl rfl (vp_in_nI (by omega) (by decide)) dX15_leads_35 ?_
      refine tk_l (y := (fB k)) (by rw [nI_clamp (by omega)]) ?_
      refine lv_iload hx hb dX15_leads_36 (lv_at hl 0 rfl) ?_
      refine ca_i (wr := [(q, .inr (15, fs)), (sa, .inl (ka, 111152, .inr (.inl fA))), (sb, .inl (kb, 111152, .inr (.inl fB)))]) (va_runS (As := [.long (fB k), .int (nI t)]) (rest := [.int (nI (lane (uN (fA k)) t)), .int (nI x)]) ⟨hx, hb, hml, hown, ht⟩ (r_nibble l dC dI H.size (fB k) t  ht16) (cwS 2 ht (gdS k_16_18 k_16_16 k_16_17 k_1_17) rfl rfl rfl (by decide +kernel) ⟨Nat.le_of_ble_eq_true rfl, Nat.le_of_ble_eq_true rfl⟩) ⟨pcw_blind, pcw_at hP hD hK [] [] (by decide) rfl rfl rfl⟩ rfl rfl hl.1 rfl (lv_room (Nat.le_of_ble_eq_true rfl)) dX15_leads_38 ⟨Nat.le_of_ble_eq_true rfl, Nat.le_of_ble_eq_true rfl⟩) hP hD hK hS hA [] [0, 1, 2] rfl rfl (by decide) (by decide) (fun r_5 u H locs w_6 hK hP hD hS => ?_)
      have hK : va_K (dC, dI) cls [(ka, .long), (kb, .long)] s := hK
      have hP : va_P (dC, dI) cls [(q, .inr (15, fs)), (sa, .inl (ka, 111152, .inr (.inl fA))), (sb, .inl (kb, 111152, .inr (.inl fB)))] H := hP
      have hD : va_D A [(q, .inr (15, fs)), (sa, .inl (ka, 111152, .inr (.inl fA))), (sb, .inl (kb, 111152, .inr (.inl fB)))] := hD
      obtain rfl : r_5 = nI (lane (uN (fB k)) t) := w_6
      refine ca_i (wr := [(q, .inr (15, fs)), (sa, .inl (ka, 111152, .inr (.inl fA))), (sb, .inl (kb, 111152, .inr (.inl fB)))]) (va_runS (As := [.int (nI x), .int (nI (lane (uN (fA k)) t)), .int (nI (lane (uN (fB k)) t))]) (rest := []) ⟨hx, hb, hml, hown, ht⟩ (r_stepA l dC dI H.size x (lane (uN (fA k)) t) (lane (uN (fB k)) t)  hx18 (lane_lt _ _) (lane_lt _ _)) (cwS 3 ht (gdS k_16_21 k_16_19 k_16_20 k_1_17) rfl rfl rfl (by decide +kernel) ⟨Nat.le_of_ble_eq_true rfl, Nat.le_of_ble_eq_true rfl⟩) ⟨pcw_blind, pcw_at hP hD hK [] [] (by decide) rfl rfl rfl⟩ rfl rfl hl.1 rfl (lv_room (Nat.le_of_ble_eq_true rfl)) dX15_leads_41 ⟨Nat.le_of_ble_eq_true rfl, Nat.le_of_ble_eq_true rfl⟩) hP hD hK hS hA [] [0, 1, 2] rfl rfl (by decide) (by decide) (fun r_7 u H locs w_8 hK hP hD hS => ?_)
      have hK : va_K (dC, dI) cls [(ka, .long), (kb, .long)] s := hK
      have hP : va_P (dC, dI) cls [(q, .inr (15, fs)), (sa, .inl (ka, 111152, .inr (.inl fA))), (sb, .inl (kb, 111152, .inr (.inl fB)))] H := hP
      have hD : va_D A [(q, .inr (15, fs)), (sa, .inl (ka, 111152, .inr (.inl fA))), (sb, .inl (kb, 111152, .inr (.inl fB)))] := hD
      obtain rfl : r_7 = nI (lane (uN (nxA x (fA k) (fB k))) t) := w_8.trans (by rw [lane_nxA hx18 _ _ ht16])
      refine lv_lload_n hx hb dX15_leads_44 rfl (lv_at hl 2 rfl) ?_
      refine lv_iload hx hb dX15_leads_45 (lv_at hl 0 rfl) ?_
      refine ca_i (wr := [(q, .inr (15, fs)), (sa, .inl (ka, 111152, .inr (.inl fA))), (sb, .inl (kb, 111152, .inr (.inl fB)))]) (va_runS (As := [.long goal, .int (nI t)]) (rest := [.int (nI (lane (uN (nxA x (fA k) (fB k))) t))]) ⟨hx, hb, hml, hown, ht⟩ (r_nibble l dC dI H.size goal t  ht16) (cwS 2 ht (gdS k_16_18 k_16_16 k_16_17 k_1_17) rfl rfl rfl (by decide +kernel) ⟨Nat.le_of_ble_eq_true rfl, Nat.le_of_ble_eq_true rfl⟩) ⟨pcw_blind, pcw_at hP hD hK [] [] (by decide) rfl rfl rfl⟩ rfl rfl hl.1 rfl (lv_room (Nat.le_of_ble_eq_true rfl)) dX15_leads_47 ⟨Nat.le_of_ble_eq_true rfl, Nat.le_of_ble_eq_true rfl⟩) hP hD hK hS hA [] [0, 1, 2] rfl rfl (by decide) (by decide) (fun r_9 u H locs w_10 hK hP hD hS => ?_)
      have hK : va_K (dC, dI) cls [(ka, .long), (kb, .long)] s := hK
      have hP : va_P (dC, dI) cls [(q, .inr (15, fs)), (sa, .inl (ka, 111152, .inr (.inl fA))), (sb, .inl (kb, 111152, .inr (.inl fB)))] H := hP
      have hD : va_D A [(q, .inr (15, fs)), (sa, .inl (ka, 111152, .inr (.inl fA))), (sb, .inl (kb, 111152, .inr (.inl fB)))] := hD
      obtain rfl : r_9 = nI (lane (uN goal) t) := w_10
      refine lv_icmp_ne (tgt := 57) hx hb dX15_leads_50 (by decide) (fun b_11 => ?_) (fun b_11 => ?_)
      · refine lv_iconst (v := 0) hx hb dX15_leads_57 (by decide) ?_
        refine lv_istore (lv' := [(5, .int 0), (6, .int (nI t)), (3, .long goal), (2, .int (nI x)), (1, .int (nI k)), (0, .ref q)]) hx hb dX15_leads_58 hl (by decide) rfl (fun ls hl => ?_)
        refine lv_iinc (v := (nI (t + 1))) (lv' := [(6, .int (nI (t + 1))), (5, .int 0), (3, .long goal), (2, .int (nI x)), (1, .int (nI k)), (0, .ref q)]) hx hb dX15_leads_60 hl (k := 1) rfl (nI_1 t) (by decide) rfl (fun ls hl => ?_)
        refine lv_goto (tgt := 6) hx hb dX15_leads_63 (by decide) ?_
        exact ih6 (t + 1, 0) H locs ls (show 16 - (t + 1) < 16 - t by omega) ⟨hP.sub [0, 1, 2] rfl, hD.sub [0, 1, 2] (by decide) rfl, hS, lv_sub hl [0, 1, 2, 3, 4, 5] rfl, trivial, (by omega), (Or.inr ⟨rfl, fun e9 => b_11 (by rw [e9])⟩)⟩
      · refine lv_iconst (v := 1) hx hb dX15_leads_53 (by decide) ?_
        refine lv_goto (tgt := 58) hx hb dX15_leads_54 (by decide) ?_
        refine lv_istore (lv' := [(5, .int 1), (6, .int (nI t)), (3, .long goal), (2, .int (nI x)), (1, .int (nI k)), (0, .ref q)]) hx hb dX15_leads_58 hl (by decide) rfl (fun ls hl => ?_)
        refine lv_iinc (v := (nI (t + 1))) (lv' := [(6, .int (nI (t + 1))), (5, .int 1), (3, .long goal), (2, .int (nI x)), (1, .int (nI k)), (0, .ref q)]) hx hb dX15_leads_60 hl (k := 1) rfl (nI_1 t) (by decide) rfl (fun ls hl => ?_)
        refine lv_goto (tgt := 6) hx hb dX15_leads_63 (by decide) ?_
        exact ih6 (t + 1, 1) H locs ls (show 16 - (t + 1) < 16 - t by omega) ⟨hP.sub [0, 1, 2] rfl, hD.sub [0, 1, 2] (by decide) rfl, hS, lv_sub hl [0, 1, 2, 3, 4, 5] rfl, trivial, (by omega), (Or.inl ⟨rfl, all_step (P := fun j => lane (uN (nxA x (fA k) (fB k))) j = lane (uN goal) j) hall (nI_inj31 (Nat.lt_trans (lane_lt _ _) (by decide)) (Nat.lt_trans (lane_lt _ _) (by decide)) b_11)⟩)⟩
set_option maxHeartbeats 4000000 in
set_option maxRecDepth 100000 in
theorem r_lastOf (l : Launch) (dC : Nat → ClassId) (dI : Nat → Nat → Nat) (sz : Nat) (q : Nat) (fs : List Value) (sa : Nat) (sb : Nat) (sf : Nat) (sy : Nat) (lv : Nat) (se : Nat) (ka : ClassId) (kb : ClassId) (cl : ClassId) (fl : Nat → Int32) (L4 : Nat) (L5 : Nat) (fA : Nat → Int64) (fB : Nat → Int64) (goal : Int64) (L_fs : fs.length = 163) (K138_fs : fs[138]? = some (.ref se)) (K141_fs : fs[141]? = some (.ref sa)) (K142_fs : fs[142]? = some (.ref sb)) (K143_fs : fs[143]? = some (.ref sf)) (K144_fs : fs[144]? = some (.ref sy)) (K147_fs : fs[147]? = some (.ref lv)) (K151_fs : fs[151]? = some (.null)) (K152_fs : fs[152]? = some (.int 0)) (hL4 : fl 4 = nI L4) (hL5 : fl 5 = nI L5) (hL45 : L4 ≤ L5) (hLb : L5 ≤ 111151) : Met l yX15_lastOf (Cond.code yX15_lastOf cX15_lastOf 6 (some .int) :: tb) ({ frames := 3, cells := 3, slots := 1048576, locals := 108 }) (pcw [.ref q, .long goal] (dC, dI) [(q, .inr (15, fs)), (sa, .inl (ka, 111152, .inr (.inl fA))), (sb, .inl (kb, 111152, .inr (.inl fB))), (lv, .inl (cl, 6, .inl fl))] [(ka, .long), (kb, .long), (cl, .int)] sz) (va_Qi (fun (r : Int32) => (fun (fs1 : List Value) => (lastV L4 L5 fA fB goal r) ∧ (fs1.length = 163) ∧ (fs1[138]? = some (.ref se)) ∧ (fs1[143]? = some (.ref sf)) ∧ (fs1[144]? = some (.ref sy)))) (bw (dC, dI) (va_A [(q, .inr (15, fs)), (sa, .inl (ka, 111152, .inr (.inl fA))), (sb, .inl (kb, 111152, .inr (.inl fB))), (lv, .inl (cl, 6, .inl fl))] sz) (fun (fs1 : List Value) => [(q, .inr (15, fs1))]) (fun (fs1 : List Value) => [])) (va_A [(q, .inr (15, fs)), (sa, .inl (ka, 111152, .inr (.inl fA))), (sb, .inl (kb, 111152, .inr (.inl fB))), (lv, .inl (cl, 6, .inl fl))] sz)) 3 1048576 (va_A [(q, .inr (15, fs)), (sa, .inl (ka, 111152, .inr (.inl fA))), (sb, .inl (kb, 111152, .inr (.inl fB))), (lv, .inl (cl, 6, .inl fl))] sz) := by
  refine Met.ofW (cc := cX15_lastOf) (maxL := 6) (ret := (some .int)) (by decide) rfl ?_
  intro p e s m args below meth c s₁ B hml hv
  obtain ⟨rfl, hsz, hP, hK, hD0⟩ := hv
  have hx := B.exec
  have hb := B.bytes
  have hr := B.returns
  have hts := atoms_spec (ws := Cond.code yX15_lastOf cX15_lastOf 6 (some .int) :: tb) B.pre
  have ht : ∀ w ∈ tb, w.before _ s = true := fun w h => hts w (List.mem_cons_of_mem _ h)
  have hown : s.vm.findClass RX15 = some m.cls := findClass_of_methodNamed B.named
  have hlocks := B.notSynchronized
  subst hsz
  have hD := hD0.self (sz := s.heap.size)
  generalize hAe : va_A [(q, .inr (15, fs)), (sa, .inl (ka, 111152, .inr (.inl fA))), (sb, .inl (kb, 111152, .inr (.inl fB))), (lv, .inl (cl, 6, .inl fl))] s.heap.size = A at hD ⊢
  have hA : ∀ q : Nat, s.heap.size ≤ q → A q := fun q h => by rw [← hAe]; exact Or.inr h
  have hS : va_S A s.heap s.heap [] := va_S.rf
  have hl := lv_entry ([.ref q, .long goal]) (n := 6) (Nat.le_of_ble_eq_true rfl)
  rw [lg_entry_eq]
  generalize (lg_sl ([.ref q, .long goal]) ++ List.replicate (6 - (lg_sl ([.ref q, .long goal])).length) Slot.unset).toArray = ls at hl ⊢
  have hl : lv_has ls 6 [(0, .ref q), (1, .long goal)] := hl
  have hP : va_P (dC, dI) cls [(q, .inr (15, fs)), (sa, .inl (ka, 111152, .inr (.inl fA))), (sb, .inl (kb, 111152, .inr (.inl fB))), (lv, .inl (cl, 6, .inl fl))] s.heap := hP
  refine lv_aload_n hx hb dX15_lastOf_0 rfl (lv_at hl 0 rfl) ?_
  refine ca_v (wr := []) (va_runV (As := []) (rest := []) ⟨hx, hb, hml, hown, ht⟩ (r_findLast l dC dI s.heap.size q fs sa sb sf sy lv se ka kb cl fl L4 L5 fA fB L_fs K138_fs K141_fs K142_fs K143_fs K144_fs K147_fs K151_fs K152_fs hL4 hL5 hL45 hLb) (cwV 0 ht (gdV k_16_36 k_16_33 k_16_35 ks_238 k_1_17) rfl rfl rfl (by decide +kernel) ⟨Nat.le_of_ble_eq_true rfl, Nat.le_of_ble_eq_true rfl⟩) ⟨pcw_blind, va_recv hK hP (ci := 15) (q0 := 0) rfl rfl, pcw_at hP hD hK [0, 1, 2, 3] [0, 1, 2] (by decide) rfl rfl rfl⟩ rfl rfl hl.1 rfl (lv_room (Nat.le_of_ble_eq_true rfl)) dX15_lastOf_1 ⟨Nat.le_of_ble_eq_true rfl, Nat.le_of_ble_eq_true rfl⟩) hP hD hK hS hA [0, 1, 2, 3] [] rfl rfl (by decide) (by decide) (fun u H locs w_2 hK hP hD hS => ?_)
  obtain ⟨F_3, q_4, q_5, q_6, c_7, c_8, c_9, q_10, y_11, y_12, y_13, y_14⟩ := u
  have hK : va_K (dC, dI) cls [(ka, .long), (kb, .long), (cl, .int), (c_7, .long), (c_8, .int), (c_9, .int)] s := hK
  have hP : va_P (dC, dI) cls [(q, .inr (15, F_3)), (sa, .inl (ka, 111152, .inr (.inl fA))), (sb, .inl (kb, 111152, .inr (.inl fB))), (lv, .inl (cl, 6, .inl fl)), (q_4, .inl (c_7, 262144, .inr (.inl y_12))), (q_5, .inl (c_8, 262144, .inl y_13)), (q_6, .inl (c_9, 524288, .inl y_14))] H := hP
  have hD : va_D A [(q, .inr (15, F_3)), (sa, .inl (ka, 111152, .inr (.inl fA))), (sb, .inl (kb, 111152, .inr (.inl fB))), (lv, .inl (cl, 6, .inl fl)), (q_4, .inl (c_7, 262144, .inr (.inl y_12))), (q_5, .inl (c_8, 262144, .inl y_13)), (q_6, .inl (c_9, 524288, .inl y_14))] := hD
  refine W.widen (k := 3) (n := 1048576) (by omega) (by omega) ?_
  obtain ⟨w_2, K_15, K_16, K_17, K_18, K_19, K_20, K_21, K_22, K_23, K_24, K_25, K_26⟩ := w_2
  have hLD := w_2
  refine lv_lload_n hx hb dX15_lastOf_4 rfl (lv_at hl 1 rfl) ?_
  refine lv_lconst (v := 0) hx hb dX15_lastOf_5 (by decide) ?_
  refine lv_bipush (v := 19) hx hb dX15_lastOf_6 (by decide) ?_
  refine ca_i (wr := [(q, .inr (15, F_3)), (sa, .inl (ka, 111152, .inr (.inl fA))), (sb, .inl (kb, 111152, .inr (.inl fB))), (lv, .inl (cl, 6, .inl fl)), (q_4, .inl (c_7, 262144, .inr (.inl y_12))), (q_5, .inl (c_8, 262144, .inl y_13)), (q_6, .inl (c_9, 524288, .inl y_14))]) (va_runS (As := [.long goal, .long 0, .int 19]) (rest := []) ⟨hx, hb, hml, hown, ht⟩ (r_sumOf_19 l dC dI H.size goal 0  ) (cwS 3 ht (gdS k_16_11 k_16_9 k_16_10 k_1_17) rfl rfl rfl (by decide +kernel) ⟨Nat.le_of_ble_eq_true rfl, Nat.le_of_ble_eq_true rfl⟩) ⟨pcw_blind, pcw_at hP hD hK [] [] (by decide) rfl rfl rfl⟩ rfl rfl hl.1 rfl (lv_room (Nat.le_of_ble_eq_true rfl)) dX15_lastOf_8 ⟨Nat.le_of_ble_eq_true rfl, Nat.le_of_ble_eq_true rfl⟩) hP hD hK hS hA [] [0, 1, 2, 3, 4, 5, 6] rfl rfl (by decide) (by decide) (fun r_27 u H locs w_28 hK hP hD hS => ?_)
  have hK : va_K (dC, dI) cls [(ka, .long), (kb, .long), (cl, .int), (c_7, .long), (c_8, .int), (c_9, .int)] s := hK
  have hP : va_P (dC, dI) cls [(q, .inr (15, F_3)), (sa, .inl (ka, 111152, .inr (.inl fA))), (sb, .inl (kb, 111152, .inr (.inl fB))), (lv, .inl (cl, 6, .inl fl)), (q_4, .inl (c_7, 262144, .inr (.inl y_12))), (q_5, .inl (c_8, 262144, .inl y_13)), (q_6, .inl (c_9, 524288, .inl y_14))] H := hP
  have hD : va_D A [(q, .inr (15, F_3)), (sa, .inl (ka, 111152, .inr (.inl fA))), (sb, .inl (kb, 111152, .inr (.inl fB))), (lv, .inl (cl, 6, .inl fl)), (q_4, .inl (c_7, 262144, .inr (.inl y_12))), (q_5, .inl (c_8, 262144, .inl y_13)), (q_6, .inl (c_9, 524288, .inl y_14))] := hD
  obtain rfl : r_27 = nI ((hsh 19 goal 0 + 0) % 524288) := w_28.trans (by rw [Nat.add_zero, Nat.mod_eq_of_lt (show hsh 19 goal 0 < 524288 from hsh_lt (k := 19) (by decide) goal 0)])
  refine lv_istore_n (lv' := [(3, .int (nI ((hsh 19 goal 0 + 0) % 524288))), (0, .ref q), (1, .long goal)]) hx hb dX15_lastOf_11 rfl hl (by decide) rfl (fun ls hl => ?_)
  have hlm := hLD.1
  obtain ⟨d, hd⟩ := few_open0 hLD.2.2.1 (show q_10 < 524288 by omega) (hsh_lt (k := 19) (by decide) goal 0)
  refine lp_rule (fun H locs ls => W p l e _ s m _ below meth c H locs _ _ _ (F0 m 12 ls [])) (fun (z : Nat) H locs ls => match z with | i => va_P (dC, dI) cls [(q, .inr (15, F_3)), (sa, .inl (ka, 111152, .inr (.inl fA))), (sb, .inl (kb, 111152, .inr (.inl fB))), (lv, .inl (cl, 6, .inl fl)), (q_4, .inl (c_7, 262144, .inr (.inl y_12))), (q_5, .inl (c_8, 262144, .inl y_13)), (q_6, .inl (c_9, 524288, .inl y_14))] H ∧ va_D A [(q, .inr (15, F_3)), (sa, .inl (ka, 111152, .inr (.inl fA))), (sb, .inl (kb, 111152, .inr (.inl fB))), (lv, .inl (cl, 6, .inl fl)), (q_4, .inl (c_7, 262144, .inr (.inl y_12))), (q_5, .inl (c_8, 262144, .inl y_13)), (q_6, .inl (c_9, 524288, .inl y_14))] ∧ va_S A s.heap H locs ∧ lv_has ls 6 [(3, .int (nI ((hsh 19 goal 0 + i) % 524288))), (1, .long goal), (0, .ref q)] ∧ True ∧ i ≤ d ∧ ∀ i', i' < i → ∀ j, j < q_10 → y_14 ((hsh 19 goal 0 + i') % 524288) = nI (j + 1) → y_12 j ≠ goal) (fun (z : Nat) => match z with | i => d - i) ?_ (0) H locs ls ⟨hP, hD, hS, lv_sub hl [0, 2, 1] rfl, trivial, (Nat.zero_le _), (fun i hi => absurd hi (Nat.not_lt_zero _))⟩
  intro z H locs ls hI ih12
  obtain ⟨i, rfl⟩ : ∃ y, y = z := ⟨_, rfl⟩
  obtain ⟨hP, hD, hS, hl, -, hid, hnn⟩ := hI
  have hP : va_P (dC, dI) cls [(q, .inr (15, F_3)), (sa, .inl (ka, 111152, .inr (.inl fA))), (sb, .inl (kb, 111152, .inr (.inl fB))), (lv, .inl (cl, 6, .inl fl)), (q_4, .inl (c_7, 262144, .inr (.inl y_12))), (q_5, .inl (c_8, 262144, .inl y_13)), (q_6, .inl (c_9, 524288, .inl y_14))] H := hP
  have hD : va_D A [(q, .inr (15, F_3)), (sa, .inl (ka, 111152, .inr (.inl fA))), (sb, .inl (kb, 111152, .inr (.inl fB))), (lv, .inl (cl, 6, .inl fl)), (q_4, .inl (c_7, 262144, .inr (.inl y_12))), (q_5, .inl (c_8, 262144, .inl y_13)), (q_6, .inl (c_9, 524288, .inl y_14))] := hD
  have hl : lv_has ls 6 [(3, .int (nI ((hsh 19 goal 0 + i) % 524288))), (1, .long goal), (0, .ref q)] := hl
  obtain ⟨v, hv, ev⟩ := hLD.2.2.1.1 ((hsh 19 goal 0 + i) % 524288) (Nat.mod_lt _ (by decide))
  refine lv_aload_n hx hb dX15_lastOf_12 rfl (lv_at hl 2 rfl) ?_
  refine va_get (D := (dC, dI)) (ci := 15) (v := .ref q_6) (C := RX15) (T := TX15) (N := 163) hx hb ht uX15 hown hK hP 0 rfl rfl 151 (by decide) (ht _ k_11_99) (fun _ h9 => h9) K_24 dX15_lastOf_13 ?_
  refine lv_iload_n hx hb dX15_lastOf_16 rfl (lv_at hl 0 rfl) ?_
  refine va_iald hx hb hK hP 6 5 rfl rfl (vp_in_nI (by omega) (by decide)) dX15_lastOf_17 ?_
  refine tk_i (y := (nI v)) (by rw [nI_clamp (by omega)]; exact ev) ?_
  refine lv_if_le (tgt := 64) hx hb dX15_lastOf_18 (by decide) (fun b_29 => ?_) (fun b_29 => ?_)
  · have hz := ev
    rw [zero_of (by omega) b_29] at hz
    have hno := LD_not hLD hz hnn
    refine lv_aload_n hx hb dX15_lastOf_64 rfl (lv_at hl 2 rfl) ?_
    refine va_get (D := (dC, dI)) (ci := 15) (v := .ref lv) (C := RX15) (T := TX15) (N := 163) hx hb ht uX15 hown hK hP 0 rfl rfl 147 (by decide) (ht _ k_11_95) (fun _ h9 => h9) K_21 dX15_lastOf_65 ?_
    refine lv_iconst (v := 4) hx hb dX15_lastOf_68 (by decide) ?_
    refine va_iald hx hb hK hP 3 2 rfl rfl (by unfold vp_in; decide) dX15_lastOf_69 ?_
    refine tk_i (y := fl 4) (by first | rfl | decide) ?_
    refine tk_i (y := (nI L4)) hL4 ?_
    refine lv_istore (lv' := [(4, .int (nI L4)), (3, .int (nI ((hsh 19 goal 0 + i) % 524288))), (1, .long goal), (0, .ref q)]) hx hb dX15_lastOf_70 hl (by decide) rfl (fun ls hl => ?_)
    refine lp_rule (fun H locs ls => W p l e _ s m _ below meth c H locs _ _ _ (F0 m 72 ls [])) (fun (z : Nat) H locs ls => match z with | k => va_P (dC, dI) cls [(q, .inr (15, F_3)), (sa, .inl (ka, 111152, .inr (.inl fA))), (sb, .inl (kb, 111152, .inr (.inl fB))), (lv, .inl (cl, 6, .inl fl)), (q_4, .inl (c_7, 262144, .inr (.inl y_12))), (q_5, .inl (c_8, 262144, .inl y_13)), (q_6, .inl (c_9, 524288, .inl y_14))] H ∧ va_D A [(q, .inr (15, F_3)), (sa, .inl (ka, 111152, .inr (.inl fA))), (sb, .inl (kb, 111152, .inr (.inl fB))), (lv, .inl (cl, 6, .inl fl)), (q_4, .inl (c_7, 262144, .inr (.inl y_12))), (q_5, .inl (c_8, 262144, .inl y_13)), (q_6, .inl (c_9, 524288, .inl y_14))] ∧ va_S A s.heap H locs ∧ lv_has ls 6 [(4, .int (nI k)), (1, .long goal), (0, .ref q)] ∧ True ∧ L4 ≤ k ∧ k ≤ L5 ∧ ∀ k' x, L4 ≤ k' → k' < k → x < 18 → ¬ nxA x (fA k') (fB k') = goal) (fun (z : Nat) => match z with | k => L5 - k) ?_ (L4) H locs ls ⟨hP, hD, hS, lv_sub hl [0, 2, 3] rfl, trivial, (Nat.le_refl _), hL45, (fun k9 x9 h1 h2 => absurd h2 (by omega))⟩
    intro z H locs ls hI ih72
    obtain ⟨k, rfl⟩ : ∃ y, y = z := ⟨_, rfl⟩
    obtain ⟨hP, hD, hS, hl, -, hk1, hk2, hnk⟩ := hI
    have hP : va_P (dC, dI) cls [(q, .inr (15, F_3)), (sa, .inl (ka, 111152, .inr (.inl fA))), (sb, .inl (kb, 111152, .inr (.inl fB))), (lv, .inl (cl, 6, .inl fl)), (q_4, .inl (c_7, 262144, .inr (.inl y_12))), (q_5, .inl (c_8, 262144, .inl y_13)), (q_6, .inl (c_9, 524288, .inl y_14))] H := hP
    have hD : va_D A [(q, .inr (15, F_3)), (sa, .inl (ka, 111152, .inr (.inl fA))), (sb, .inl (kb, 111152, .inr (.inl fB))), (lv, .inl (cl, 6, .inl fl)), (q_4, .inl (c_7, 262144, .inr (.inl y_12))), (q_5, .inl (c_8, 262144, .inl y_13)), (q_6, .inl (c_9, 524288, .inl y_14))] := hD
    have hl : lv_has ls 6 [(4, .int (nI k)), (1, .long goal), (0, .ref q)] := hl
    refine lv_iload hx hb dX15_lastOf_72 (lv_at hl 0 rfl) ?_
    refine lv_aload_n hx hb dX15_lastOf_74 rfl (lv_at hl 2 rfl) ?_
    refine va_get (D := (dC, dI)) (ci := 15) (v := .ref lv) (C := RX15) (T := TX15) (N := 163) hx hb ht uX15 hown hK hP 0 rfl rfl 147 (by decide) (ht _ k_11_95) (fun _ h9 => h9) K_21 dX15_lastOf_75 ?_
    refine lv_iconst (v := 5) hx hb dX15_lastOf_78 (by decide) ?_
    refine va_iald hx hb hK hP 3 2 rfl rfl (by unfold vp_in; decide) dX15_lastOf_79 ?_
    refine tk_i (y := fl 5) (by first | rfl | decide) ?_
    refine tk_i (y := (nI L5)) hL5 ?_
    refine lv_icmp_ge (tgt := 133) hx hb dX15_lastOf_80 (by decide) (fun b_30 => ?_) (fun b_30 => ?_)
    · refine lv_iconst (v := (-1)) hx hb dX15_lastOf_133 (by decide) ?_
      exact W.iret (v := (-1)) hx hb hr (fun t ht9 hW => ⟨⟨(-1), F_3, rfl, ⟨(Or.inr ⟨rfl, fun k9 x9 h1 h2 h3 => hnk k9 x9 h1 (by have := ge_of hk2 (by omega) b_30; omega) h3⟩), K_15, K_16, K_19, K_20⟩, by rw [ht9]; exact hP.sub [0] rfl, va_K.moved hW.alike (hK.sub [] rfl), hD.sub [0] (by decide) rfl⟩, hS.F ht9⟩) hS.2.2 dX15_lastOf_134
    · have hkl : k < L5 := nI_lej (by omega) (by omega) b_30
      refine lv_aload_n hx hb dX15_lastOf_83 rfl (lv_at hl 2 rfl) ?_
      refine va_get (D := (dC, dI)) (ci := 15) (v := .int y_11) (C := RX15) (T := TX15) (N := 163) hx hb ht uX15 hown hK hP 0 rfl rfl 153 (by decide) (ht _ k_11_101) (fun _ h9 => h9) K_26 dX15_lastOf_84 ?_
      refine lv_if_ne (tgt := 133) hx hb dX15_lastOf_87 (by decide) (fun b_31 => ?_) (fun b_31 => ?_)
      · refine lv_iconst (v := (-1)) hx hb dX15_lastOf_133 (by decide) ?_
        exact W.iret (v := (-1)) hx hb hr (fun t ht9 hW => ⟨⟨(-1), F_3, rfl, ⟨(Or.inr ⟨rfl, LD_none hLD hno b_31⟩), K_15, K_16, K_19, K_20⟩, by rw [ht9]; exact hP.sub [0] rfl, va_K.moved hW.alike (hK.sub [] rfl), hD.sub [0] (by decide) rfl⟩, hS.F ht9⟩) hS.2.2 dX15_lastOf_134
      · refine lv_iconst (v := 0) hx hb dX15_lastOf_90 (by decide) ?_
        refine lv_istore (lv' := [(5, .int 0), (4, .int (nI k)), (1, .long goal), (0, .ref q)]) hx hb dX15_lastOf_91 hl (by decide) rfl (fun ls hl => ?_)
        refine lp_rule (fun H locs ls => W p l e _ s m _ below meth c H locs _ _ _ (F0 m 93 ls [])) (fun (z : Nat) H locs ls => match z with | x => va_P (dC, dI) cls [(q, .inr (15, F_3)), (sa, .inl (ka, 111152, .inr (.inl fA))), (sb, .inl (kb, 111152, .inr (.inl fB))), (lv, .inl (cl, 6, .inl fl)), (q_4, .inl (c_7, 262144, .inr (.inl y_12))), (q_5, .inl (c_8, 262144, .inl y_13)), (q_6, .inl (c_9, 524288, .inl y_14))] H ∧ va_D A [(q, .inr (15, F_3)), (sa, .inl (ka, 111152, .inr (.inl fA))), (sb, .inl (kb, 111152, .inr (.inl fB))), (lv, .inl (cl, 6, .inl fl)), (q_4, .inl (c_7, 262144, .inr (.inl y_12))), (q_5, .inl (c_8, 262144, .inl y_13)), (q_6, .inl (c_9, 524288, .inl y_14))] ∧ va_S A s.heap H locs ∧ lv_has ls 6 [(5, .int (nI x)), (4, .int (nI k)), (1, .long goal), (0, .ref q)] ∧ True ∧ x ≤ 18 ∧ ∀ x', x' < x → ¬ nxA x' (fA k) (fB k) = goal) (fun (z : Nat) => match z with | x => 18 - x) ?_ (0) H locs ls ⟨hP, hD, hS, lv_sub hl [0, 1, 2, 3] rfl, trivial, (by decide), (fun i hi => absurd hi (Nat.not_lt_zero _))⟩
        intro z H locs ls hI ih93
        obtain ⟨x, rfl⟩ : ∃ y, y = z := ⟨_, rfl⟩
        obtain ⟨hP, hD, hS, hl, -, hxx, hnx⟩ := hI
        have hP : va_P (dC, dI) cls [(q, .inr (15, F_3)), (sa, .inl (ka, 111152, .inr (.inl fA))), (sb, .inl (kb, 111152, .inr (.inl fB))), (lv, .inl (cl, 6, .inl fl)), (q_4, .inl (c_7, 262144, .inr (.inl y_12))), (q_5, .inl (c_8, 262144, .inl y_13)), (q_6, .inl (c_9, 524288, .inl y_14))] H := hP
        have hD : va_D A [(q, .inr (15, F_3)), (sa, .inl (ka, 111152, .inr (.inl fA))), (sb, .inl (kb, 111152, .inr (.inl fB))), (lv, .inl (cl, 6, .inl fl)), (q_4, .inl (c_7, 262144, .inr (.inl y_12))), (q_5, .inl (c_8, 262144, .inl y_13)), (q_6, .inl (c_9, 524288, .inl y_14))] := hD
        have hl : lv_has ls 6 [(5, .int (nI x)), (4, .int (nI k)), (1, .long goal), (0, .ref q)] := hl
        refine lv_iload hx hb dX15_lastOf_93 (lv_at hl 0 rfl) ?_
        refine lv_bipush (v := 18) hx hb dX15_lastOf_95 (by decide) ?_
        refine lv_icmp_ge (tgt := 127) hx hb dX15_lastOf_97 (by decide) (fun b_32 => ?_) (fun b_32 => ?_)
        · refine lv_iinc (v := (nI (k + 1))) (lv' := [(4, .int (nI (k + 1))), (5, .int (nI x)), (1, .long goal), (0, .ref q)]) hx hb dX15_lastOf_127 hl (k := 1) rfl (nI_1 k) (by decide) rfl (fun ls hl => ?_)
          refine lv_goto (tgt := 72) hx hb dX15_lastOf_130 (by decide) ?_
          exact ih72 (k + 1) H locs ls (show L5 - (k + 1) < L5 - k by omega) ⟨hP.sub [0, 1, 2, 3, 4, 5, 6] rfl, hD.sub [0, 1, 2, 3, 4, 5, 6] (by decide) rfl, hS, lv_sub hl [0, 2, 3] rfl, trivial, (by omega), (by omega), (no_one (P := fun k x => nxA x (fA k) (fB k) = goal) hnk (fun x9 hx9 => hnx x9 (by have := eq18' hxx b_32; omega)))⟩
        · have hx18 : x < 18 := lt18' hxx b_32
          refine lv_aload_n hx hb dX15_lastOf_100 rfl (lv_at hl 3 rfl) ?_
          refine lv_iload hx hb dX15_lastOf_101 (lv_at hl 1 rfl) ?_
          refine lv_iload hx hb dX15_lastOf_103 (lv_at hl 0 rfl) ?_
          refine lv_lload_n hx hb dX15_lastOf_105 rfl (lv_at hl 2 rfl) ?_
          refine ca_i (wr := [(lv, .inl (cl, 6, .inl fl)), (q_4, .inl (c_7, 262144, .inr (.inl y_12))), (q_5, .inl (c_8, 262144, .inl y_13)), (q_6, .inl (c_9, 524288, .inl y_14))]) (va_runV (As := [.int (nI k), .int (nI x), .long goal]) (rest := []) ⟨hx, hb, hml, hown, ht⟩ (r_leads l dC dI H.size q F_3 sa sb ka kb fA fB k x goal K_15 K_17 K_18 (by omega) hx18) (cwV 3 ht (gdV k_16_46 k_16_43 k_16_45 ks_240 k_1_17) rfl rfl rfl (by decide +kernel) ⟨Nat.le_of_ble_eq_true rfl, Nat.le_of_ble_eq_true rfl⟩) ⟨pcw_blind, va_recv hK hP (ci := 15) (q0 := 0) rfl rfl, pcw_at hP hD hK [0, 1, 2] [0, 1] (by decide) rfl rfl rfl⟩ rfl rfl hl.1 rfl (lv_room (Nat.le_of_ble_eq_true rfl)) dX15_lastOf_106 ⟨Nat.le_of_ble_eq_true rfl, Nat.le_of_ble_eq_true rfl⟩) hP hD hK hS hA [0, 1, 2] [3, 4, 5, 6] rfl rfl (by decide) (by decide) (fun r_33 u H locs w_34 hK hP hD hS => ?_)
          have hK : va_K (dC, dI) cls [(ka, .long), (kb, .long), (cl, .int), (c_7, .long), (c_8, .int), (c_9, .int)] s := hK
          have hP : va_P (dC, dI) cls [(lv, .inl (cl, 6, .inl fl)), (q_4, .inl (c_7, 262144, .inr (.inl y_12))), (q_5, .inl (c_8, 262144, .inl y_13)), (q_6, .inl (c_9, 524288, .inl y_14)), (q, .inr (15, F_3)), (sa, .inl (ka, 111152, .inr (.inl fA))), (sb, .inl (kb, 111152, .inr (.inl fB)))] H := hP
          have hD : va_D A [(lv, .inl (cl, 6, .inl fl)), (q_4, .inl (c_7, 262144, .inr (.inl y_12))), (q_5, .inl (c_8, 262144, .inl y_13)), (q_6, .inl (c_9, 524288, .inl y_14)), (q, .inr (15, F_3)), (sa, .inl (ka, 111152, .inr (.inl fA))), (sb, .inl (kb, 111152, .inr (.inl fB)))] := hD
          rcases w_34 with ⟨rfl, n_35⟩ | ⟨rfl, n_35⟩
          · refine lv_if_eq (tgt := 121) hx hb dX15_lastOf_109 (by decide) (fun c0 => absurd c0 (by decide)) (fun _ => ?_)
            refine lv_bipush (v := 32) hx hb dX15_lastOf_112 (by decide) ?_
            refine lv_iload hx hb dX15_lastOf_114 (lv_at hl 1 rfl) ?_
            refine lv_imul hx hb dX15_lastOf_116 ?_
            refine tk_i (y := (nI (32 * k))) (pk_mul 32 k) ?_
            refine lv_iload hx hb dX15_lastOf_117 (lv_at hl 0 rfl) ?_
            refine lv_iadd hx hb dX15_lastOf_119 ?_
            refine tk_i (y := (nI (32 * k + x))) (nI_add _ _) ?_
            exact W.iret (v := (nI (32 * k + x))) hx hb hr (fun t ht9 hW => ⟨⟨(nI (32 * k + x)), F_3, rfl, ⟨(Or.inl ⟨k, x, rfl, hk1, hkl, hx18, n_35⟩), K_15, K_16, K_19, K_20⟩, by rw [ht9]; exact hP.sub [4] rfl, va_K.moved hW.alike (hK.sub [] rfl), hD.sub [4] (by decide) rfl⟩, hS.F ht9⟩) hS.2.2 dX15_lastOf_120
          · refine lv_if_eq (tgt := 121) hx hb dX15_lastOf_109 (by decide) (fun _ => ?_) (fun c0 => absurd c0 (by decide))
            refine lv_iinc (v := (nI (x + 1))) (lv' := [(5, .int (nI (x + 1))), (4, .int (nI k)), (1, .long goal), (0, .ref q)]) hx hb dX15_lastOf_121 hl (k := 0) rfl (nI_1 x) (by decide) rfl (fun ls hl => ?_)
            refine lv_goto (tgt := 93) hx hb dX15_lastOf_124 (by decide) ?_
            exact ih93 (x + 1) H locs ls (show 18 - (x + 1) < 18 - x by omega) ⟨hP.sub [4, 5, 6, 0, 1, 2, 3] rfl, hD.sub [4, 5, 6, 0, 1, 2, 3] (by decide) rfl, hS, lv_sub hl [0, 1, 2, 3] rfl, trivial, (by omega), (no_step (P := fun x => nxA x (fA k) (fB k) = goal) hnx n_35)⟩
  · have hv0 : 0 < v := pos_ne ev (by omega) b_29
    have hid2 : i < d := by
      rcases Nat.lt_or_ge i d with h | h
      · exact h
      · have e9 : i = d := by omega
        rw [e9, hd] at ev
        exact absurd ev.symm (nI_nz (by omega) hv0)
    refine lv_aload_n hx hb dX15_lastOf_21 rfl (lv_at hl 2 rfl) ?_
    refine va_get (D := (dC, dI)) (ci := 15) (v := .ref q_4) (C := RX15) (T := TX15) (N := 163) hx hb ht uX15 hown hK hP 0 rfl rfl 149 (by decide) (ht _ k_11_97) (fun _ h9 => h9) K_22 dX15_lastOf_22 ?_
    refine lv_aload_n hx hb dX15_lastOf_25 rfl (lv_at hl 2 rfl) ?_
    refine va_get (D := (dC, dI)) (ci := 15) (v := .ref q_6) (C := RX15) (T := TX15) (N := 163) hx hb ht uX15 hown hK hP 0 rfl rfl 151 (by decide) (ht _ k_11_99) (fun _ h9 => h9) K_24 dX15_lastOf_26 ?_
    refine lv_iload_n hx hb dX15_lastOf_29 rfl (lv_at hl 0 rfl) ?_
    refine va_iald hx hb hK hP 6 5 rfl rfl (vp_in_nI (by omega) (by decide)) dX15_lastOf_30 ?_
    refine tk_i (y := (nI v)) (by rw [nI_clamp (by omega)]; exact ev) ?_
    refine lv_iconst (v := 1) hx hb dX15_lastOf_31 (by decide) ?_
    refine lv_isub hx hb dX15_lastOf_32 ?_
    refine tk_i (y := (nI (v - 1))) (nI_m1 hv0) ?_
    refine va_lald hx hb hK hP 4 3 rfl rfl (vp_in_nI (by omega) (by decide)) dX15_lastOf_33 ?_
    refine tk_l (y := (y_12 (v - 1))) (by rw [nI_clamp (by omega)]) ?_
    refine lv_lload_n hx hb dX15_lastOf_34 rfl (lv_at hl 1 rfl) ?_
    refine W.lcmp hx hb dX15_lastOf_35 ?_
    refine lv_if_ne (tgt := 53) hx hb dX15_lastOf_36 (by decide) (fun b_36 => ?_) (fun b_36 => ?_)
    · refine lv_iload_n hx hb dX15_lastOf_53 rfl (lv_at hl 0 rfl) ?_
      refine lv_iconst (v := 1) hx hb dX15_lastOf_54 (by decide) ?_
      refine lv_iadd hx hb dX15_lastOf_55 ?_
      refine lv_topi (fun x_37 ex_37 => ?_)
      refine lv_ldcw (v := 524287) hx hb hown (ht _ k_16_42) dX15_lastOf_56 ?_
      refine lv_iand hx hb dX15_lastOf_59 ?_
      refine tk_i (y := (nI ((hsh 19 goal 0 + (i + 1)) % 524288))) (by rw [ex_37]; exact wrap19 _ _) ?_
      refine lv_istore_n (lv' := [(3, .int (nI ((hsh 19 goal 0 + (i + 1)) % 524288))), (1, .long goal), (0, .ref q)]) hx hb dX15_lastOf_60 rfl hl (by decide) rfl (fun ls hl => ?_)
      refine lv_goto (tgt := 12) hx hb dX15_lastOf_61 (by decide) ?_
      exact ih12 (i + 1) H locs ls (show d - (i + 1) < d - i by omega) ⟨hP.sub [0, 1, 2, 3, 4, 5, 6] rfl, hD.sub [0, 1, 2, 3, 4, 5, 6] (by decide) rfl, hS, lv_sub hl [0, 1, 2] rfl, trivial, (show i + 1 ≤ d by omega), (all_step (P := fun i' => ∀ j, j < q_10 → y_14 ((hsh 19 goal 0 + i') % 524288) = nI (j + 1) → y_12 j ≠ goal) hnn (fun j hj e9 h9 => by have e8 := nI_inj31 (by omega) (by omega) (ev.symm.trans e9); have e7 : j = v - 1 := (by omega); rw [e7] at h9; exact b_36 ((lg_cmp_eq _ _).mpr h9)))⟩
    · refine lv_aload_n hx hb dX15_lastOf_39 rfl (lv_at hl 2 rfl) ?_
      refine va_get (D := (dC, dI)) (ci := 15) (v := .ref q_5) (C := RX15) (T := TX15) (N := 163) hx hb ht uX15 hown hK hP 0 rfl rfl 150 (by decide) (ht _ k_11_98) (fun _ h9 => h9) K_23 dX15_lastOf_40 ?_
      refine lv_aload_n hx hb dX15_lastOf_43 rfl (lv_at hl 2 rfl) ?_
      refine va_get (D := (dC, dI)) (ci := 15) (v := .ref q_6) (C := RX15) (T := TX15) (N := 163) hx hb ht uX15 hown hK hP 0 rfl rfl 151 (by decide) (ht _ k_11_99) (fun _ h9 => h9) K_24 dX15_lastOf_44 ?_
      refine lv_iload_n hx hb dX15_lastOf_47 rfl (lv_at hl 0 rfl) ?_
      refine va_iald hx hb hK hP 6 5 rfl rfl (vp_in_nI (by omega) (by decide)) dX15_lastOf_48 ?_
      refine tk_i (y := (nI v)) (by rw [nI_clamp (by omega)]; exact ev) ?_
      refine lv_iconst (v := 1) hx hb dX15_lastOf_49 (by decide) ?_
      refine lv_isub hx hb dX15_lastOf_50 ?_
      refine tk_i (y := (nI (v - 1))) (nI_m1 hv0) ?_
      refine va_iald hx hb hK hP 5 4 rfl rfl (vp_in_nI (by omega) (by decide)) dX15_lastOf_51 ?_
      refine tk_i (y := (y_13 (v - 1))) (by rw [nI_clamp (by omega)]) ?_
      exact W.iret (v := (y_13 (v - 1))) hx hb hr (fun t ht9 hW => ⟨⟨(y_13 (v - 1)), F_3, rfl, ⟨(LD_found hLD hv0 hv ((lg_cmp_eq _ _).mp b_36)), K_15, K_16, K_19, K_20⟩, by rw [ht9]; exact hP.sub [0] rfl, va_K.moved hW.alike (hK.sub [] rfl), hD.sub [0] (by decide) rfl⟩, hS.F ht9⟩) hS.2.2 dX15_lastOf_52
