theorem dX5_goalOf_0 : decode cX5_goalOf 0 = .ok (.iload_n 2, 1) := by decide +kernel
theorem dX5_goalOf_1 : decode cX5_goalOf 1 = .ok (.ifCond .lt 9, 3) := by decide +kernel
theorem dX5_goalOf_10 : decode cX5_goalOf 10 = .ok (.lconst 0, 1) := by decide +kernel
theorem dX5_goalOf_11 : decode cX5_goalOf 11 = .ok (.lreturn, 1) := by decide +kernel
theorem dX5_goalOf_4 : decode cX5_goalOf 4 = .ok (.iload_n 2, 1) := by decide +kernel
theorem dX5_goalOf_5 : decode cX5_goalOf 5 = .ok (.bipush 8, 2) := by decide +kernel
theorem dX5_goalOf_7 : decode cX5_goalOf 7 = .ok (.if_icmp .le 5, 3) := by decide +kernel
theorem k_8_226 : Jvm.Cond.constantLong "FinderHouse$Machines" (108 : Nat) (-81985529216486896 : Int64) ∈ tb := tb8 226 (by decide +kernel) (by decide +kernel)
theorem dX5_goalOf_12 : decode cX5_goalOf 12 = .ok (.ldc2_w 108, 3) := by decide +kernel
theorem dX5_goalOf_15 : decode cX5_goalOf 15 = .ok (.lstore_n 3, 1) := by decide +kernel
theorem dX5_goalOf_16 : decode cX5_goalOf 16 = .ok (.lconst 0, 1) := by decide +kernel
theorem dX5_goalOf_17 : decode cX5_goalOf 17 = .ok (.lstore 5, 2) := by decide +kernel
theorem dX5_goalOf_19 : decode cX5_goalOf 19 = .ok (.iconst 0, 1) := by decide +kernel
theorem dX5_goalOf_20 : decode cX5_goalOf 20 = .ok (.istore 7, 2) := by decide +kernel
theorem dX5_goalOf_22 : decode cX5_goalOf 22 = .ok (.iload 7, 2) := by decide +kernel
theorem dX5_goalOf_24 : decode cX5_goalOf 24 = .ok (.iload_n 2, 1) := by decide +kernel
theorem dX5_goalOf_25 : decode cX5_goalOf 25 = .ok (.if_icmp .ge 53, 3) := by decide +kernel
theorem dX5_goalOf_78 : decode cX5_goalOf 78 = .ok (.lload_n 3, 1) := by decide +kernel
theorem dX5_goalOf_79 : decode cX5_goalOf 79 = .ok (.lreturn, 1) := by decide +kernel
theorem dX5_goalOf_28 : decode cX5_goalOf 28 = .ok (.lload_n 0, 1) := by decide +kernel
theorem dX5_goalOf_29 : decode cX5_goalOf 29 = .ok (.iconst 5, 1) := by decide +kernel
theorem dX5_goalOf_30 : decode cX5_goalOf 30 = .ok (.iload 7, 2) := by decide +kernel
theorem dX5_goalOf_32 : decode cX5_goalOf 32 = .ok (.imul, 1) := by decide +kernel
theorem dX5_goalOf_33 : decode cX5_goalOf 33 = .ok (.lushr, 1) := by decide +kernel
theorem dX5_goalOf_34 : decode cX5_goalOf 34 = .ok (.l2i, 1) := by decide +kernel
theorem dX5_goalOf_35 : decode cX5_goalOf 35 = .ok (.bipush 31, 2) := by decide +kernel
theorem dX5_goalOf_37 : decode cX5_goalOf 37 = .ok (.iand, 1) := by decide +kernel
theorem dX5_goalOf_38 : decode cX5_goalOf 38 = .ok (.istore 8, 2) := by decide +kernel
theorem dX5_goalOf_40 : decode cX5_goalOf 40 = .ok (.iload 8, 2) := by decide +kernel
theorem dX5_goalOf_42 : decode cX5_goalOf 42 = .ok (.bipush 18, 2) := by decide +kernel
theorem dX5_goalOf_44 : decode cX5_goalOf 44 = .ok (.if_icmp .lt 5, 3) := by decide +kernel
theorem dX5_goalOf_49 : decode cX5_goalOf 49 = .ok (.iload 8, 2) := by decide +kernel
theorem dX5_goalOf_51 : decode cX5_goalOf 51 = .ok (.lload_n 3, 1) := by decide +kernel
theorem dX5_goalOf_52 : decode cX5_goalOf 52 = .ok (.lload 5, 2) := by decide +kernel
theorem k_8_233 : Jvm.Cond.code ({ cls := "FinderHouse$Machines", name := "nextA", desc := "(IJJ)J" } : Jvm.MethodName) prog_7_method_15_code (5 : Nat) (Option.some Jvm.ClassFile.FieldType.long) ∈ tb := tb8 233 (by decide +kernel) (by decide +kernel)
theorem k_8_231 : Jvm.Cond.methodLink "FinderHouse$Machines" (110 : Nat) ({ cls := "FinderHouse$Machines", name := "nextA", desc := "(IJJ)J" } : Jvm.MethodName) ∈ tb := tb8 231 (by decide +kernel) (by decide +kernel)
theorem k_8_232 : Jvm.Cond.static ({ cls := "FinderHouse$Machines", name := "nextA", desc := "(IJJ)J" } : Jvm.MethodName) ∈ tb := tb8 232 (by decide +kernel) (by decide +kernel)
theorem dX5_goalOf_54 : decode cX5_goalOf 54 = .ok (.invokestatic 110, 3) := by decide +kernel
theorem dX5_goalOf_57 : decode cX5_goalOf 57 = .ok (.lstore 9, 2) := by decide +kernel
theorem dX5_goalOf_59 : decode cX5_goalOf 59 = .ok (.iload 8, 2) := by decide +kernel
theorem dX5_goalOf_61 : decode cX5_goalOf 61 = .ok (.lload_n 3, 1) := by decide +kernel
theorem dX5_goalOf_62 : decode cX5_goalOf 62 = .ok (.lload 5, 2) := by decide +kernel
theorem k_9_10 : Jvm.Cond.code ({ cls := "FinderHouse$Machines", name := "nextB", desc := "(IJJ)J" } : Jvm.MethodName) prog_7_method_16_code (5 : Nat) (Option.some Jvm.ClassFile.FieldType.long) ∈ tb := tb9 10 (by decide +kernel) (by decide +kernel)
theorem k_9_8 : Jvm.Cond.methodLink "FinderHouse$Machines" (114 : Nat) ({ cls := "FinderHouse$Machines", name := "nextB", desc := "(IJJ)J" } : Jvm.MethodName) ∈ tb := tb9 8 (by decide +kernel) (by decide +kernel)
theorem k_9_9 : Jvm.Cond.static ({ cls := "FinderHouse$Machines", name := "nextB", desc := "(IJJ)J" } : Jvm.MethodName) ∈ tb := tb9 9 (by decide +kernel) (by decide +kernel)
theorem dX5_goalOf_64 : decode cX5_goalOf 64 = .ok (.invokestatic 114, 3) := by decide +kernel
theorem dX5_goalOf_67 : decode cX5_goalOf 67 = .ok (.lstore 5, 2) := by decide +kernel
theorem dX5_goalOf_69 : decode cX5_goalOf 69 = .ok (.lload 9, 2) := by decide +kernel
theorem dX5_goalOf_71 : decode cX5_goalOf 71 = .ok (.lstore_n 3, 1) := by decide +kernel
theorem dX5_goalOf_72 : decode cX5_goalOf 72 = .ok (.iinc 7 1, 3) := by decide +kernel
theorem dX5_goalOf_75 : decode cX5_goalOf 75 = .ok (.goto (-53), 3) := by decide +kernel
theorem dX5_goalOf_47 : decode cX5_goalOf 47 = .ok (.lconst 0, 1) := by decide +kernel
theorem dX5_goalOf_48 : decode cX5_goalOf 48 = .ok (.lreturn, 1) := by decide +kernel
theorem dX11_goal_0 : decode cX11_goal 0 = .ok (.lload_n 1, 1) := by decide +kernel
theorem dX11_goal_1 : decode cX11_goal 1 = .ok (.iload_n 3, 1) := by decide +kernel
theorem k_9_25 : Jvm.Cond.code ({ cls := "FinderHouse$Machines", name := "goalOf", desc := "(JI)J" } : Jvm.MethodName) prog_7_method_17_code (11 : Nat) (Option.some Jvm.ClassFile.FieldType.long) ∈ tb := tb9 25 (by decide +kernel) (by decide +kernel)
theorem k_9_23 : Jvm.Cond.methodLink "FinderHouse" (488 : Nat) ({ cls := "FinderHouse$Machines", name := "goalOf", desc := "(JI)J" } : Jvm.MethodName) ∈ tb := tb9 23 (by decide +kernel) (by decide +kernel)
theorem k_9_24 : Jvm.Cond.static ({ cls := "FinderHouse$Machines", name := "goalOf", desc := "(JI)J" } : Jvm.MethodName) ∈ tb := tb9 24 (by decide +kernel) (by decide +kernel)
theorem dX11_goal_2 : decode cX11_goal 2 = .ok (.invokestatic 488, 3) := by decide +kernel
theorem dX11_goal_5 : decode cX11_goal 5 = .ok (.lreturn, 1) := by decide +kernel
theorem dX15_stepA_0 : decode cX15_stepA 0 = .ok (.iload_n 0, 1) := by decide +kernel
theorem dX15_stepA_1 : decode cX15_stepA 1 = .ok (.tableswitch 147 0 17 #[87, 147, 94, 147, 101, 147, 105, 147, 109, 147, 114, 116, 147, 123, 130, 114, 134, 140], 87) := by decide +kernel
theorem dX15_stepA_88 : decode cX15_stepA 88 = .ok (.iload_n 1, 1) := by decide +kernel
theorem dX15_stepA_89 : decode cX15_stepA 89 = .ok (.iload_n 2, 1) := by decide +kernel
theorem dX15_stepA_90 : decode cX15_stepA 90 = .ok (.iadd, 1) := by decide +kernel
theorem dX15_stepA_91 : decode cX15_stepA 91 = .ok (.bipush 15, 2) := by decide +kernel
theorem dX15_stepA_93 : decode cX15_stepA 93 = .ok (.iand, 1) := by decide +kernel
theorem dX15_stepA_94 : decode cX15_stepA 94 = .ok (.ireturn, 1) := by decide +kernel
theorem dX15_stepA_148 : decode cX15_stepA 148 = .ok (.iload_n 1, 1) := by decide +kernel
theorem dX15_stepA_149 : decode cX15_stepA 149 = .ok (.ireturn, 1) := by decide +kernel
theorem dX15_stepA_95 : decode cX15_stepA 95 = .ok (.iload_n 1, 1) := by decide +kernel
theorem dX15_stepA_96 : decode cX15_stepA 96 = .ok (.iload_n 2, 1) := by decide +kernel
theorem dX15_stepA_97 : decode cX15_stepA 97 = .ok (.isub, 1) := by decide +kernel
theorem dX15_stepA_98 : decode cX15_stepA 98 = .ok (.bipush 15, 2) := by decide +kernel
theorem dX15_stepA_100 : decode cX15_stepA 100 = .ok (.iand, 1) := by decide +kernel
theorem dX15_stepA_101 : decode cX15_stepA 101 = .ok (.ireturn, 1) := by decide +kernel
theorem dX15_stepA_102 : decode cX15_stepA 102 = .ok (.iload_n 1, 1) := by decide +kernel
theorem dX15_stepA_103 : decode cX15_stepA 103 = .ok (.iload_n 2, 1) := by decide +kernel
theorem dX15_stepA_104 : decode cX15_stepA 104 = .ok (.ixor, 1) := by decide +kernel
theorem dX15_stepA_105 : decode cX15_stepA 105 = .ok (.ireturn, 1) := by decide +kernel
theorem dX15_stepA_106 : decode cX15_stepA 106 = .ok (.iload_n 1, 1) := by decide +kernel
theorem dX15_stepA_107 : decode cX15_stepA 107 = .ok (.iload_n 2, 1) := by decide +kernel
theorem dX15_stepA_108 : decode cX15_stepA 108 = .ok (.iand, 1) := by decide +kernel
theorem dX15_stepA_109 : decode cX15_stepA 109 = .ok (.ireturn, 1) := by decide +kernel
theorem dX15_stepA_110 : decode cX15_stepA 110 = .ok (.bipush 15, 2) := by decide +kernel
theorem dX15_stepA_112 : decode cX15_stepA 112 = .ok (.iload_n 1, 1) := by decide +kernel
theorem dX15_stepA_113 : decode cX15_stepA 113 = .ok (.isub, 1) := by decide +kernel
theorem dX15_stepA_114 : decode cX15_stepA 114 = .ok (.ireturn, 1) := by decide +kernel
theorem dX15_stepA_115 : decode cX15_stepA 115 = .ok (.iload_n 2, 1) := by decide +kernel
theorem dX15_stepA_116 : decode cX15_stepA 116 = .ok (.ireturn, 1) := by decide +kernel
theorem dX15_stepA_117 : decode cX15_stepA 117 = .ok (.iload_n 1, 1) := by decide +kernel
theorem dX15_stepA_118 : decode cX15_stepA 118 = .ok (.iconst 1, 1) := by decide +kernel
theorem dX15_stepA_119 : decode cX15_stepA 119 = .ok (.iadd, 1) := by decide +kernel
theorem dX15_stepA_120 : decode cX15_stepA 120 = .ok (.bipush 15, 2) := by decide +kernel
theorem dX15_stepA_122 : decode cX15_stepA 122 = .ok (.iand, 1) := by decide +kernel
theorem dX15_stepA_123 : decode cX15_stepA 123 = .ok (.ireturn, 1) := by decide +kernel
theorem dX15_stepA_124 : decode cX15_stepA 124 = .ok (.iconst 2, 1) := by decide +kernel
theorem dX15_stepA_125 : decode cX15_stepA 125 = .ok (.iload_n 1, 1) := by decide +kernel
theorem dX15_stepA_126 : decode cX15_stepA 126 = .ok (.imul, 1) := by decide +kernel
theorem dX15_stepA_127 : decode cX15_stepA 127 = .ok (.bipush 15, 2) := by decide +kernel
theorem dX15_stepA_129 : decode cX15_stepA 129 = .ok (.iand, 1) := by decide +kernel
theorem dX15_stepA_130 : decode cX15_stepA 130 = .ok (.ireturn, 1) := by decide +kernel
theorem dX15_stepA_131 : decode cX15_stepA 131 = .ok (.iload_n 1, 1) := by decide +kernel
theorem dX15_stepA_132 : decode cX15_stepA 132 = .ok (.iconst 2, 1) := by decide +kernel
theorem dX15_stepA_133 : decode cX15_stepA 133 = .ok (.idiv, 1) := by decide +kernel
theorem dX15_stepA_134 : decode cX15_stepA 134 = .ok (.ireturn, 1) := by decide +kernel
theorem dX15_stepA_135 : decode cX15_stepA 135 = .ok (.iload_n 1, 1) := by decide +kernel
theorem dX15_stepA_136 : decode cX15_stepA 136 = .ok (.ineg, 1) := by decide +kernel
theorem dX15_stepA_137 : decode cX15_stepA 137 = .ok (.bipush 15, 2) := by decide +kernel
theorem dX15_stepA_139 : decode cX15_stepA 139 = .ok (.iand, 1) := by decide +kernel
theorem dX15_stepA_140 : decode cX15_stepA 140 = .ok (.ireturn, 1) := by decide +kernel
theorem dX15_stepA_141 : decode cX15_stepA 141 = .ok (.iload_n 1, 1) := by decide +kernel
theorem dX15_stepA_142 : decode cX15_stepA 142 = .ok (.iload_n 2, 1) := by decide +kernel
theorem dX15_stepA_143 : decode cX15_stepA 143 = .ok (.imul, 1) := by decide +kernel
theorem dX15_stepA_144 : decode cX15_stepA 144 = .ok (.bipush 15, 2) := by decide +kernel
theorem dX15_stepA_146 : decode cX15_stepA 146 = .ok (.iand, 1) := by decide +kernel
theorem dX15_stepA_147 : decode cX15_stepA 147 = .ok (.ireturn, 1) := by decide +kernel
theorem dX15_stepB_0 : decode cX15_stepB 0 = .ok (.iload_n 0, 1) := by decide +kernel
theorem dX15_stepB_1 : decode cX15_stepB 1 = .ok (.tableswitch 106 1 15 #[75, 106, 82, 106, 89, 106, 93, 106, 97, 106, 106, 99, 106, 106, 97], 75) := by decide +kernel
theorem dX15_stepB_107 : decode cX15_stepB 107 = .ok (.iload_n 2, 1) := by decide +kernel
theorem dX15_stepB_108 : decode cX15_stepB 108 = .ok (.ireturn, 1) := by decide +kernel
theorem dX15_stepB_76 : decode cX15_stepB 76 = .ok (.iload_n 1, 1) := by decide +kernel
theorem dX15_stepB_77 : decode cX15_stepB 77 = .ok (.iload_n 2, 1) := by decide +kernel
theorem dX15_stepB_78 : decode cX15_stepB 78 = .ok (.iadd, 1) := by decide +kernel
theorem dX15_stepB_79 : decode cX15_stepB 79 = .ok (.bipush 15, 2) := by decide +kernel
theorem dX15_stepB_81 : decode cX15_stepB 81 = .ok (.iand, 1) := by decide +kernel
theorem dX15_stepB_82 : decode cX15_stepB 82 = .ok (.ireturn, 1) := by decide +kernel
theorem dX15_stepB_83 : decode cX15_stepB 83 = .ok (.iload_n 2, 1) := by decide +kernel
theorem dX15_stepB_84 : decode cX15_stepB 84 = .ok (.iload_n 1, 1) := by decide +kernel
theorem dX15_stepB_85 : decode cX15_stepB 85 = .ok (.isub, 1) := by decide +kernel
theorem dX15_stepB_86 : decode cX15_stepB 86 = .ok (.bipush 15, 2) := by decide +kernel
theorem dX15_stepB_88 : decode cX15_stepB 88 = .ok (.iand, 1) := by decide +kernel
theorem dX15_stepB_89 : decode cX15_stepB 89 = .ok (.ireturn, 1) := by decide +kernel
theorem dX15_stepB_90 : decode cX15_stepB 90 = .ok (.iload_n 1, 1) := by decide +kernel
theorem dX15_stepB_91 : decode cX15_stepB 91 = .ok (.iload_n 2, 1) := by decide +kernel
theorem dX15_stepB_92 : decode cX15_stepB 92 = .ok (.ixor, 1) := by decide +kernel
theorem dX15_stepB_93 : decode cX15_stepB 93 = .ok (.ireturn, 1) := by decide +kernel
theorem dX15_stepB_94 : decode cX15_stepB 94 = .ok (.iload_n 1, 1) := by decide +kernel
theorem dX15_stepB_95 : decode cX15_stepB 95 = .ok (.iload_n 2, 1) := by decide +kernel
theorem dX15_stepB_96 : decode cX15_stepB 96 = .ok (.ior, 1) := by decide +kernel
theorem dX15_stepB_97 : decode cX15_stepB 97 = .ok (.ireturn, 1) := by decide +kernel
theorem dX15_stepB_98 : decode cX15_stepB 98 = .ok (.iload_n 1, 1) := by decide +kernel
theorem dX15_stepB_99 : decode cX15_stepB 99 = .ok (.ireturn, 1) := by decide +kernel
theorem dX15_stepB_100 : decode cX15_stepB 100 = .ok (.iload_n 2, 1) := by decide +kernel
theorem dX15_stepB_101 : decode cX15_stepB 101 = .ok (.iconst 1, 1) := by decide +kernel
theorem dX15_stepB_102 : decode cX15_stepB 102 = .ok (.iadd, 1) := by decide +kernel
theorem dX15_stepB_103 : decode cX15_stepB 103 = .ok (.bipush 15, 2) := by decide +kernel
theorem dX15_stepB_105 : decode cX15_stepB 105 = .ok (.iand, 1) := by decide +kernel
theorem dX15_stepB_106 : decode cX15_stepB 106 = .ok (.ireturn, 1) := by decide +kernel
theorem dX15_goalOf_0 : decode cX15_goalOf 0 = .ok (.lconst 0, 1) := by decide +kernel
theorem dX15_goalOf_1 : decode cX15_goalOf 1 = .ok (.lstore_n 2, 1) := by decide +kernel
theorem dX15_goalOf_2 : decode cX15_goalOf 2 = .ok (.iconst 0, 1) := by decide +kernel
theorem dX15_goalOf_3 : decode cX15_goalOf 3 = .ok (.istore 4, 2) := by decide +kernel
theorem dX15_goalOf_5 : decode cX15_goalOf 5 = .ok (.iload 4, 2) := by decide +kernel
theorem dX15_goalOf_7 : decode cX15_goalOf 7 = .ok (.bipush 16, 2) := by decide +kernel
theorem dX15_goalOf_9 : decode cX15_goalOf 9 = .ok (.if_icmp .ge 22, 3) := by decide +kernel
theorem dX15_goalOf_31 : decode cX15_goalOf 31 = .ok (.lload_n 2, 1) := by decide +kernel
theorem dX15_goalOf_32 : decode cX15_goalOf 32 = .ok (.lreturn, 1) := by decide +kernel
theorem dX15_goalOf_12 : decode cX15_goalOf 12 = .ok (.lload_n 2, 1) := by decide +kernel
theorem dX15_goalOf_13 : decode cX15_goalOf 13 = .ok (.aload_n 1, 1) := by decide +kernel
theorem dX15_goalOf_14 : decode cX15_goalOf 14 = .ok (.iload 4, 2) := by decide +kernel
theorem dX15_goalOf_16 : decode cX15_goalOf 16 = .ok (.iaload, 1) := by decide +kernel
theorem dX15_goalOf_17 : decode cX15_goalOf 17 = .ok (.i2l, 1) := by decide +kernel
theorem dX15_goalOf_18 : decode cX15_goalOf 18 = .ok (.iconst 4, 1) := by decide +kernel
theorem dX15_goalOf_19 : decode cX15_goalOf 19 = .ok (.iload 4, 2) := by decide +kernel
theorem dX15_goalOf_21 : decode cX15_goalOf 21 = .ok (.imul, 1) := by decide +kernel
theorem dX15_goalOf_22 : decode cX15_goalOf 22 = .ok (.lshl, 1) := by decide +kernel
theorem dX15_goalOf_23 : decode cX15_goalOf 23 = .ok (.lor, 1) := by decide +kernel
theorem dX15_goalOf_24 : decode cX15_goalOf 24 = .ok (.lstore_n 2, 1) := by decide +kernel
theorem dX15_goalOf_25 : decode cX15_goalOf 25 = .ok (.iinc 4 1, 3) := by decide +kernel
theorem dX15_goalOf_28 : decode cX15_goalOf 28 = .ok (.goto (-23), 3) := by decide +kernel
theorem dX15_inputs__0 : decode cX15_inputs_ 0 = .ok (.iconst 0, 1) := by decide +kernel
theorem dX15_inputs__1 : decode cX15_inputs_ 1 = .ok (.istore_n 3, 1) := by decide +kernel
theorem dX15_inputs__2 : decode cX15_inputs_ 2 = .ok (.iload_n 3, 1) := by decide +kernel
theorem dX15_inputs__3 : decode cX15_inputs_ 3 = .ok (.bipush 16, 2) := by decide +kernel
theorem dX15_inputs__5 : decode cX15_inputs_ 5 = .ok (.if_icmp .ge 17, 3) := by decide +kernel
theorem dX15_inputs__22 : decode cX15_inputs_ 22 = .ok (.return_, 1) := by decide +kernel
theorem dX15_inputs__8 : decode cX15_inputs_ 8 = .ok (.aload_n 1, 1) := by decide +kernel
theorem dX15_inputs__9 : decode cX15_inputs_ 9 = .ok (.iload_n 3, 1) := by decide +kernel
theorem dX15_inputs__10 : decode cX15_inputs_ 10 = .ok (.iload_n 3, 1) := by decide +kernel
theorem dX15_inputs__11 : decode cX15_inputs_ 11 = .ok (.iastore, 1) := by decide +kernel
theorem dX15_inputs__12 : decode cX15_inputs_ 12 = .ok (.aload_n 2, 1) := by decide +kernel
theorem dX15_inputs__13 : decode cX15_inputs_ 13 = .ok (.iload_n 3, 1) := by decide +kernel
theorem dX15_inputs__14 : decode cX15_inputs_ 14 = .ok (.iconst 0, 1) := by decide +kernel
theorem dX15_inputs__15 : decode cX15_inputs_ 15 = .ok (.iastore, 1) := by decide +kernel
theorem dX15_inputs__16 : decode cX15_inputs_ 16 = .ok (.iinc 3 1, 3) := by decide +kernel
theorem dX15_inputs__19 : decode cX15_inputs_ 19 = .ok (.goto (-17), 3) := by decide +kernel
/-- what goal answers -/
def goalV (acts : Int64) (p : Int32) : Int64 := if p < 0 then 0 else if p ≤ 8 then goalN acts p.toNatClampNeg else 0
theorem goalV_in {acts : Int64} {m : Nat} (hm : m ≤ 8) : goalV acts (nI m) = goalN acts m := by
  unfold goalV
  rw [if_neg (nn9 m (by omega)), if_pos (le9 m (by omega)), nI_clamp (by omega)]
section ALDG
variable {p : Program} {l : Launch} {e : Env} {R : Room} {s : State} {m : MethodId} {args : Array Value} {below : List Frame} {meth : Method} {c : Code} {H : Heap} {locs : List Loc} {cells slots : Nat} {Q : State → Prop}
variable {cc : ByteArray} {pc : Nat} {ls : Array Slot} {rest : List Value} {D : va_G} {cl : List vw_C} {a : Nat} {tys : List (ClassId × FieldType)} {ws : va_W}
/-- a row of a grid -/
theorem va_aldg (hexec : p.tables.exec = Jvm.exec) (hb : c.code = cc) (hK : va_K D cl tys s) (hP : va_P D cl ws H) (q0 t0 : Nat) {cA : ClassId} {ty : FieldType} {n v : Nat} {f : Nat → Option Nat} (ha : ws[q0]? = some (a, .inl (cA, n, .inr (.inr (.inr (.inr f)))))) (ht : tys[t0]? = some (cA, .array ty)) {i : Int32} (hin : vp_in i n) (hv : f i.toNatClampNeg = some v) (hdg : decode cc pc = .ok (.aaload, 1))
    (kk : W p l e R s m args below meth c H locs cells slots Q (F0 m (pc + 1) ls (.ref v :: rest))) : W p l e R s m args below meth c H locs cells slots Q (F0 m pc ls (.int i :: .ref a :: rest)) := by
  have hlt : i.toNatClampNeg < n := Nat.not_le.mp fun q => hin (Or.inr q)
  exact W.aald (v := .ref v) (ty := .array ty) hexec hb (hP q0 _ ha) ((hK.2 t0 _ ht).1 n (fun j => va_rf (f j))) rfl (fun q => by cases q) (by show ¬ (i < 0 ∨ (arrV _ _ _).slots.size ≤ _); rw [arrV_size]; exact hin) (by show (arrV _ _ _).slots[_]? = _; rw [arrV_read _ _ hlt, hv]; rfl) rfl rfl hdg kk
end ALDG
set_option maxHeartbeats 4000000 in
set_option maxRecDepth 100000 in
theorem x_goalOf (l : Launch) (dC : Nat → ClassId) (dI : Nat → Nat → Nat) (sz : Nat) (acts : Int64) (p1 : Int32)  : Met l yX5_goalOf (Cond.code yX5_goalOf cX5_goalOf 11 (some .long) :: tb) ({ frames := 5, cells := 0, slots := 0, locals := 144 }) (pcw [.long acts, .int p1] (dC, dI) [] [] sz) (va_Ql (fun (r : Int64) => (fun (_ : Unit) => r = goalV acts p1)) (bw (dC, dI) (va_A [] sz) (fun (_ : Unit) => []) (fun (_ : Unit) => [])) (va_A [] sz)) 0 0 (va_A [] sz) := by
  refine Met.ofW (cc := cX5_goalOf) (maxL := 11) (ret := (some .long)) (by decide) rfl ?_
  intro p e s m args below meth c s₁ B hml hv
  obtain ⟨rfl, hsz, hP, hK, hD0⟩ := hv
  have hx := B.exec
  have hb := B.bytes
  have hr := B.returns
  have hts := atoms_spec (ws := Cond.code yX5_goalOf cX5_goalOf 11 (some .long) :: tb) B.pre
  have ht : ∀ w ∈ tb, w.before _ s = true := fun w h => hts w (List.mem_cons_of_mem _ h)
  have hown : s.vm.findClass RX5 = some m.cls := findClass_of_methodNamed B.named
  have hlocks := B.notSynchronized
  subst hsz
  have hD := hD0.self (sz := s.heap.size)
  generalize hAe : va_A [] s.heap.size = A at hD ⊢
  have hA : ∀ q : Nat, s.heap.size ≤ q → A q := fun q h => by rw [← hAe]; exact Or.inr h
  have hS : va_S A s.heap s.heap [] := va_S.rf
  have hl := lv_entry ([.long acts, .int p1]) (n := 11) (Nat.le_of_ble_eq_true rfl)
  rw [lg_entry_eq]
  generalize (lg_sl ([.long acts, .int p1]) ++ List.replicate (11 - (lg_sl ([.long acts, .int p1])).length) Slot.unset).toArray = ls at hl ⊢
  have hl : lv_has ls 11 [(0, .long acts), (2, .int p1)] := hl
  have hP : va_P (dC, dI) cls [] s.heap := hP
  refine lv_iload_n hx hb dX5_goalOf_0 rfl (lv_at hl 1 rfl) ?_
  refine lv_if_lt (tgt := 10) hx hb dX5_goalOf_1 (by decide) (fun b_1 => ?_) (fun b_1 => ?_)
  · refine lv_lconst (v := 0) hx hb dX5_goalOf_10 (by decide) ?_
    exact W.lret (v := 0) hx hb hr (fun t ht9 hW => ⟨⟨0, (), rfl, (by simp [goalV, b_1]), by rw [ht9]; exact hP.sub [] rfl, va_K.moved hW.alike (hK.sub [] rfl), hD.sub [] (by decide) rfl⟩, hS.F ht9⟩) hS.2.2 dX5_goalOf_11
  · refine lv_iload_n hx hb dX5_goalOf_4 rfl (lv_at hl 1 rfl) ?_
    refine lv_bipush (v := 8) hx hb dX5_goalOf_5 (by decide) ?_
    refine lv_icmp_le (tgt := 12) hx hb dX5_goalOf_7 (by decide) (fun b_2 => ?_) (fun b_2 => ?_)
    · obtain ⟨mm, hm, rfl⟩ := nI_of2 (M := 8) (n := 8) (by decide) b_1 b_2
      have hl : lv_has ls 11 [(0, .long acts), (2, .int (nI mm))] := hl
      refine lv_ldc2 (v := (-81985529216486896)) hx hb hown (ht _ k_8_226) dX5_goalOf_12 ?_
      refine lv_lstore_n (lv' := [(3, .long (-81985529216486896)), (0, .long acts), (2, .int (nI mm))]) hx hb dX5_goalOf_15 rfl hl (by decide) rfl (fun ls hl => ?_)
      refine lv_lconst (v := 0) hx hb dX5_goalOf_16 (by decide) ?_
      refine lv_lstore (lv' := [(5, .long 0), (3, .long (-81985529216486896)), (0, .long acts), (2, .int (nI mm))]) hx hb dX5_goalOf_17 hl (by decide) rfl (fun ls hl => ?_)
      refine lv_iconst (v := 0) hx hb dX5_goalOf_19 (by decide) ?_
      refine lv_istore (lv' := [(7, .int 0), (5, .long 0), (3, .long (-81985529216486896)), (0, .long acts), (2, .int (nI mm))]) hx hb dX5_goalOf_20 hl (by decide) rfl (fun ls hl => ?_)
      refine lp_rule (fun H locs ls => W p l e _ s m _ below meth c H locs _ _ _ (F0 m 22 ls [])) (fun (z : Nat × Int64 × Int64) H locs ls => match z with | (i, a, b) => va_P (dC, dI) cls [] H ∧ va_D A [] ∧ va_S A s.heap H locs ∧ lv_has ls 11 [(7, .int (nI i)), (5, .long b), (3, .long a), (2, .int (nI mm)), (0, .long acts)] ∧ True ∧ i ≤ mm ∧ gAB acts i = some (a, b)) (fun (z : Nat × Int64 × Int64) => match z with | (i, a, b) => mm - i) ?_ (0, (-81985529216486896), 0) s.heap [] ls ⟨hP, hD, hS, lv_sub hl [0, 1, 2, 4, 3] rfl, trivial, (Nat.zero_le _), rfl⟩
      intro z H locs ls hI ih22
      obtain ⟨i, a, b⟩ := z
      obtain ⟨hP, hD, hS, hl, -, hi, hg⟩ := hI
      have hP : va_P (dC, dI) cls [] H := hP
      have hD : va_D A [] := hD
      have hl : lv_has ls 11 [(7, .int (nI i)), (5, .long b), (3, .long a), (2, .int (nI mm)), (0, .long acts)] := hl
      refine lv_iload hx hb dX5_goalOf_22 (lv_at hl 0 rfl) ?_
      refine lv_iload_n hx hb dX5_goalOf_24 rfl (lv_at hl 3 rfl) ?_
      refine lv_icmp_ge (tgt := 78) hx hb dX5_goalOf_25 (by decide) (fun b_3 => ?_) (fun b_3 => ?_)
      · refine lv_lload_n hx hb dX5_goalOf_78 rfl (lv_at hl 2 rfl) ?_
        exact W.lret (v := a) hx hb hr (fun t ht9 hW => ⟨⟨a, (), rfl, (by rw [goalV_in hm]; exact goal_end hg (ge_of hi (by omega) b_3)), by rw [ht9]; exact hP.sub [] rfl, va_K.moved hW.alike (hK.sub [] rfl), hD.sub [] (by decide) rfl⟩, hS.F ht9⟩) hS.2.2 dX5_goalOf_79
      · have him : i < mm := nI_lej (by omega) (by omega) b_3
        refine lv_lload_n hx hb dX5_goalOf_28 rfl (lv_at hl 4 rfl) ?_
        refine lv_iconst (v := 5) hx hb dX5_goalOf_29 (by decide) ?_
        refine lv_iload hx hb dX5_goalOf_30 (lv_at hl 0 rfl) ?_
        refine lv_imul hx hb dX5_goalOf_32 ?_
        refine tk_i (y := (nI (5 * i))) (pk_mul 5 i) ?_
        refine lv_lushr hx hb dX5_goalOf_33 rfl ?_
        refine lv_topl (fun x_4 ex_4 => ?_)
        refine lv_l2i hx hb dX5_goalOf_34 rfl ?_
        refine lv_topi (fun x_5 ex_5 => ?_)
        refine lv_bipush (v := 31) hx hb dX5_goalOf_35 (by decide) ?_
        refine lv_iand hx hb dX5_goalOf_37 ?_
        refine tk_i (y := (nI (actAt acts i))) (by rw [ex_5, ex_4]; exact act_x acts (by omega)) ?_
        refine lv_istore (lv' := [(8, .int (nI (actAt acts i))), (7, .int (nI i)), (5, .long b), (3, .long a), (2, .int (nI mm)), (0, .long acts)]) hx hb dX5_goalOf_38 hl (by decide) rfl (fun ls hl => ?_)
        refine lv_iload hx hb dX5_goalOf_40 (lv_at hl 0 rfl) ?_
        refine lv_bipush (v := 18) hx hb dX5_goalOf_42 (by decide) ?_
        refine lv_icmp_lt (tgt := 49) hx hb dX5_goalOf_44 (by decide) (fun b_6 => ?_) (fun b_6 => ?_)
        · have hj : actAt acts i < 18 := nI_lt18 _ (actAt_lt _ _) b_6
          refine lv_iload hx hb dX5_goalOf_49 (lv_at hl 0 rfl) ?_
          refine lv_lload_n hx hb dX5_goalOf_51 rfl (lv_at hl 3 rfl) ?_
          refine lv_lload hx hb dX5_goalOf_52 (lv_at hl 2 rfl) ?_
          refine ca_l (wr := []) (va_runS (As := [.int (nI (actAt acts i)), .long a, .long b]) (rest := []) ⟨hx, hb, hml, hown, ht⟩ (x_nextA l dC dI H.size (actAt acts i) a b  hj) (cwS 3 ht (gdS k_8_233 k_8_231 k_8_232 k_1_15) rfl rfl rfl (by decide +kernel) ⟨Nat.le_of_ble_eq_true rfl, Nat.le_of_ble_eq_true rfl⟩) ⟨pcw_blind, pcw_at hP hD hK [] [] (by decide) rfl rfl rfl⟩ rfl rfl hl.1 rfl (lv_room (Nat.le_of_ble_eq_true rfl)) dX5_goalOf_54 ⟨Nat.le_of_ble_eq_true rfl, Nat.le_of_ble_eq_true rfl⟩) hP hD hK hS hA [] [] rfl rfl (by decide) (by decide) (fun r_7 u H locs w_8 hK hP hD hS => ?_)
          have hK : va_K (dC, dI) cls [] s := hK
          have hP : va_P (dC, dI) cls [] H := hP
          have hD : va_D A [] := hD
          refine lv_lstore (lv' := [(9, .long r_7), (8, .int (nI (actAt acts i))), (7, .int (nI i)), (5, .long b), (3, .long a), (2, .int (nI mm)), (0, .long acts)]) hx hb dX5_goalOf_57 hl (by decide) rfl (fun ls hl => ?_)
          refine lv_iload hx hb dX5_goalOf_59 (lv_at hl 1 rfl) ?_
          refine lv_lload_n hx hb dX5_goalOf_61 rfl (lv_at hl 4 rfl) ?_
          refine lv_lload hx hb dX5_goalOf_62 (lv_at hl 3 rfl) ?_
          refine ca_l (wr := []) (va_runS (As := [.int (nI (actAt acts i)), .long a, .long b]) (rest := []) ⟨hx, hb, hml, hown, ht⟩ (x_nextB l dC dI H.size (actAt acts i) a b  hj) (cwS 3 ht (gdS k_9_10 k_9_8 k_9_9 k_1_15) rfl rfl rfl (by decide +kernel) ⟨Nat.le_of_ble_eq_true rfl, Nat.le_of_ble_eq_true rfl⟩) ⟨pcw_blind, pcw_at hP hD hK [] [] (by decide) rfl rfl rfl⟩ rfl rfl hl.1 rfl (lv_room (Nat.le_of_ble_eq_true rfl)) dX5_goalOf_64 ⟨Nat.le_of_ble_eq_true rfl, Nat.le_of_ble_eq_true rfl⟩) hP hD hK hS hA [] [] rfl rfl (by decide) (by decide) (fun r_9 u H locs w_10 hK hP hD hS => ?_)
          have hK : va_K (dC, dI) cls [] s := hK
          have hP : va_P (dC, dI) cls [] H := hP
          have hD : va_D A [] := hD
          refine lv_lstore (lv' := [(5, .long r_9), (9, .long r_7), (8, .int (nI (actAt acts i))), (7, .int (nI i)), (3, .long a), (2, .int (nI mm)), (0, .long acts)]) hx hb dX5_goalOf_67 hl (by decide) rfl (fun ls hl => ?_)
          refine lv_lload hx hb dX5_goalOf_69 (lv_at hl 1 rfl) ?_
          refine lv_lstore_n (lv' := [(3, .long r_7), (5, .long r_9), (9, .long r_7), (8, .int (nI (actAt acts i))), (7, .int (nI i)), (2, .int (nI mm)), (0, .long acts)]) hx hb dX5_goalOf_71 rfl hl (by decide) rfl (fun ls hl => ?_)
          refine lv_iinc (v := (nI (i + 1))) (lv' := [(7, .int (nI (i + 1))), (3, .long r_7), (5, .long r_9), (9, .long r_7), (8, .int (nI (actAt acts i))), (2, .int (nI mm)), (0, .long acts)]) hx hb dX5_goalOf_72 hl (k := 4) rfl (nI_1 i) (by decide) rfl (fun ls hl => ?_)
          refine lv_goto (tgt := 22) hx hb dX5_goalOf_75 (by decide) ?_
          exact ih22 (i + 1, r_7, r_9) H locs ls (show mm - (i + 1) < mm - i by omega) ⟨hP.sub [] rfl, hD.sub [] (by decide) rfl, hS, lv_sub hl [0, 2, 1, 5, 6] rfl, trivial, (by omega), (by rw [gAB_step hg hj, w_8, w_10])⟩
        · refine lv_lconst (v := 0) hx hb dX5_goalOf_47 (by decide) ?_
          exact W.lret (v := 0) hx hb hr (fun t ht9 hW => ⟨⟨0, (), rfl, (by rw [goalV_in hm]; exact goal_no hg (nI_ge18 _ (actAt_lt _ _) b_6) him), by rw [ht9]; exact hP.sub [] rfl, va_K.moved hW.alike (hK.sub [] rfl), hD.sub [] (by decide) rfl⟩, hS.F ht9⟩) hS.2.2 dX5_goalOf_48
    · refine lv_lconst (v := 0) hx hb dX5_goalOf_10 (by decide) ?_
      exact W.lret (v := 0) hx hb hr (fun t ht9 hW => ⟨⟨0, (), rfl, (by simp [goalV, b_1, b_2]), by rw [ht9]; exact hP.sub [] rfl, va_K.moved hW.alike (hK.sub [] rfl), hD.sub [] (by decide) rfl⟩, hS.F ht9⟩) hS.2.2 dX5_goalOf_11
set_option maxHeartbeats 4000000 in
set_option maxRecDepth 100000 in
theorem x_goal (l : Launch) (dC : Nat → ClassId) (dI : Nat → Nat → Nat) (sz : Nat) (q : Nat) (fs : List Value) (acts : Int64) (p1 : Int32) (L_fs : fs.length = 18) : Met l yX11_goal (Cond.code yX11_goal cX11_goal 4 (some .long) :: tb) ({ frames := 6, cells := 0, slots := 0, locals := 174 }) (pcw [.ref q, .long acts, .int p1] (dC, dI) [(q, .inr (11, fs))] [] sz) (va_Ql (fun (r : Int64) => (fun (_ : Unit) => r = goalV acts p1)) (bw (dC, dI) (va_A [(q, .inr (11, fs))] sz) (fun (_ : Unit) => []) (fun (_ : Unit) => [])) (va_A [(q, .inr (11, fs))] sz)) 0 0 (va_A [(q, .inr (11, fs))] sz) := by
  refine Met.ofW (cc := cX11_goal) (maxL := 4) (ret := (some .long)) (by decide) rfl ?_
  intro p e s m args below meth c s₁ B hml hv
  obtain ⟨rfl, hsz, hP, hK, hD0⟩ := hv
  have hx := B.exec
  have hb := B.bytes
  have hr := B.returns
  have hts := atoms_spec (ws := Cond.code yX11_goal cX11_goal 4 (some .long) :: tb) B.pre
  have ht : ∀ w ∈ tb, w.before _ s = true := fun w h => hts w (List.mem_cons_of_mem _ h)
  have hown : s.vm.findClass RX11 = some m.cls := findClass_of_methodNamed B.named
  have hlocks := B.notSynchronized
  subst hsz
  have hD := hD0.self (sz := s.heap.size)
  generalize hAe : va_A [(q, .inr (11, fs))] s.heap.size = A at hD ⊢
  have hA : ∀ q : Nat, s.heap.size ≤ q → A q := fun q h => by rw [← hAe]; exact Or.inr h
  have hS : va_S A s.heap s.heap [] := va_S.rf
  have hl := lv_entry ([.ref q, .long acts, .int p1]) (n := 4) (Nat.le_of_ble_eq_true rfl)
  rw [lg_entry_eq]
  generalize (lg_sl ([.ref q, .long acts, .int p1]) ++ List.replicate (4 - (lg_sl ([.ref q, .long acts, .int p1])).length) Slot.unset).toArray = ls at hl ⊢
  have hl : lv_has ls 4 [(0, .ref q), (1, .long acts), (3, .int p1)] := hl
  have hP : va_P (dC, dI) cls [(q, .inr (11, fs))] s.heap := hP
  refine lv_lload_n hx hb dX11_goal_0 rfl (lv_at hl 1 rfl) ?_
  refine lv_iload_n hx hb dX11_goal_1 rfl (lv_at hl 2 rfl) ?_
  refine ca_l (wr := [(q, .inr (11, fs))]) (va_runS (As := [.long acts, .int p1]) (rest := []) ⟨hx, hb, hml, hown, ht⟩ (x_goalOf l dC dI s.heap.size acts p1  ) (cwS2 2 ht (gdI k_9_25) rfl rfl rfl (ht _ k_1_15) (ht _ k_9_23) (ht _ k_9_24) (by decide +kernel) ⟨Nat.le_of_ble_eq_true rfl, Nat.le_of_ble_eq_true rfl⟩) ⟨pcw_blind, pcw_at hP hD hK [] [] (by decide) rfl rfl rfl⟩ rfl rfl hl.1 rfl (lv_room (Nat.le_of_ble_eq_true rfl)) dX11_goal_2 ⟨Nat.le_of_ble_eq_true rfl, Nat.le_of_ble_eq_true rfl⟩) hP hD hK hS hA [] [0] rfl rfl (by decide) (by decide) (fun r_1 u H locs w_2 hK hP hD hS => ?_)
  have hK : va_K (dC, dI) cls [] s := hK
  have hP : va_P (dC, dI) cls [(q, .inr (11, fs))] H := hP
  have hD : va_D A [(q, .inr (11, fs))] := hD
  exact W.lret (v := r_1) hx hb hr (fun t ht9 hW => ⟨⟨r_1, (), rfl, w_2, by rw [ht9]; exact hP.sub [] rfl, va_K.moved hW.alike (hK.sub [] rfl), hD.sub [] (by decide) rfl⟩, hS.F ht9⟩) hS.2.2 dX11_goal_5
theorem sA_0 : ∀ a, a < 16 → ∀ b, b < 16 → (((nI a) + (nI b)) &&& 15) = nI (nA 0 a b) := by decide +kernel
set_option maxHeartbeats 4000000 in
set_option maxRecDepth 100000 in
theorem r_stepA_0 (l : Launch) (dC : Nat → ClassId) (dI : Nat → Nat → Nat) (sz : Nat) (a : Nat) (b : Nat) (ha : a < 16) (hb2 : b < 16) : Met l yX15_stepA (Cond.code yX15_stepA cX15_stepA 3 (some .int) :: tb) ({ frames := 0, cells := 0, slots := 0, locals := 60 }) (pcw [.int 0, .int (nI a), .int (nI b)] (dC, dI) [] [] sz) (va_Qi (fun (r : Int32) => (fun (_ : Unit) => r = nI (nA 0 a b))) (bw (dC, dI) (va_A [] sz) (fun (_ : Unit) => []) (fun (_ : Unit) => [])) (va_A [] sz)) 0 0 (va_A [] sz) := by
  refine Met.ofW (cc := cX15_stepA) (maxL := 3) (ret := (some .int)) (by decide) rfl ?_
  intro p e s m args below meth c s₁ B hml hv
  obtain ⟨rfl, hsz, hP, hK, hD0⟩ := hv
  have hx := B.exec
  have hb := B.bytes
  have hr := B.returns
  have hts := atoms_spec (ws := Cond.code yX15_stepA cX15_stepA 3 (some .int) :: tb) B.pre
  have ht : ∀ w ∈ tb, w.before _ s = true := fun w h => hts w (List.mem_cons_of_mem _ h)
  have hown : s.vm.findClass RX15 = some m.cls := findClass_of_methodNamed B.named
  have hlocks := B.notSynchronized
  subst hsz
  have hD := hD0.self (sz := s.heap.size)
  generalize hAe : va_A [] s.heap.size = A at hD ⊢
  have hA : ∀ q : Nat, s.heap.size ≤ q → A q := fun q h => by rw [← hAe]; exact Or.inr h
  have hS : va_S A s.heap s.heap [] := va_S.rf
  have hl := lv_entry ([.int 0, .int (nI a), .int (nI b)]) (n := 3) (Nat.le_of_ble_eq_true rfl)
  rw [lg_entry_eq]
  generalize (lg_sl ([.int 0, .int (nI a), .int (nI b)]) ++ List.replicate (3 - (lg_sl ([.int 0, .int (nI a), .int (nI b)])).length) Slot.unset).toArray = ls at hl ⊢
  have hl : lv_has ls 3 [(0, .int 0), (1, .int (nI a)), (2, .int (nI b))] := hl
  have hP : va_P (dC, dI) cls [] s.heap := hP
  refine lv_iload_n hx hb dX15_stepA_0 rfl (lv_at hl 0 rfl) ?_
  refine lv_tableIn (off := 87) (tgt := 88) hx hb dX15_stepA_1 (by decide) (by decide) (by decide) (by decide) ?_
  refine lv_iload_n hx hb dX15_stepA_88 rfl (lv_at hl 1 rfl) ?_
  refine lv_iload_n hx hb dX15_stepA_89 rfl (lv_at hl 2 rfl) ?_
  refine lv_iadd hx hb dX15_stepA_90 ?_
  refine lv_topi (fun x_1 ex_1 => ?_)
  refine lv_bipush (v := 15) hx hb dX15_stepA_91 (by decide) ?_
  refine lv_iand hx hb dX15_stepA_93 ?_
  refine lv_topi (fun x_2 ex_2 => ?_)
  exact W.iret (v := x_2) hx hb hr (fun t ht9 hW => ⟨⟨x_2, (), rfl, (by rw [ex_2, ex_1]; exact sA_0 a ha b hb2), by rw [ht9]; exact hP.sub [] rfl, va_K.moved hW.alike (hK.sub [] rfl), hD.sub [] (by decide) rfl⟩, hS.F ht9⟩) hS.2.2 dX15_stepA_94
theorem sA_1 : ∀ a, a < 16 → ∀ b, b < 16 → (nI a) = nI (nA 1 a b) := by decide +kernel
set_option maxHeartbeats 4000000 in
set_option maxRecDepth 100000 in
theorem r_stepA_1 (l : Launch) (dC : Nat → ClassId) (dI : Nat → Nat → Nat) (sz : Nat) (a : Nat) (b : Nat) (ha : a < 16) (hb2 : b < 16) : Met l yX15_stepA (Cond.code yX15_stepA cX15_stepA 3 (some .int) :: tb) ({ frames := 0, cells := 0, slots := 0, locals := 60 }) (pcw [.int 1, .int (nI a), .int (nI b)] (dC, dI) [] [] sz) (va_Qi (fun (r : Int32) => (fun (_ : Unit) => r = nI (nA 1 a b))) (bw (dC, dI) (va_A [] sz) (fun (_ : Unit) => []) (fun (_ : Unit) => [])) (va_A [] sz)) 0 0 (va_A [] sz) := by
  refine Met.ofW (cc := cX15_stepA) (maxL := 3) (ret := (some .int)) (by decide) rfl ?_
  intro p e s m args below meth c s₁ B hml hv
  obtain ⟨rfl, hsz, hP, hK, hD0⟩ := hv
  have hx := B.exec
  have hb := B.bytes
  have hr := B.returns
  have hts := atoms_spec (ws := Cond.code yX15_stepA cX15_stepA 3 (some .int) :: tb) B.pre
  have ht : ∀ w ∈ tb, w.before _ s = true := fun w h => hts w (List.mem_cons_of_mem _ h)
  have hown : s.vm.findClass RX15 = some m.cls := findClass_of_methodNamed B.named
  have hlocks := B.notSynchronized
  subst hsz
  have hD := hD0.self (sz := s.heap.size)
  generalize hAe : va_A [] s.heap.size = A at hD ⊢
  have hA : ∀ q : Nat, s.heap.size ≤ q → A q := fun q h => by rw [← hAe]; exact Or.inr h
  have hS : va_S A s.heap s.heap [] := va_S.rf
  have hl := lv_entry ([.int 1, .int (nI a), .int (nI b)]) (n := 3) (Nat.le_of_ble_eq_true rfl)
  rw [lg_entry_eq]
  generalize (lg_sl ([.int 1, .int (nI a), .int (nI b)]) ++ List.replicate (3 - (lg_sl ([.int 1, .int (nI a), .int (nI b)])).length) Slot.unset).toArray = ls at hl ⊢
  have hl : lv_has ls 3 [(0, .int 1), (1, .int (nI a)), (2, .int (nI b))] := hl
  have hP : va_P (dC, dI) cls [] s.heap := hP
  refine lv_iload_n hx hb dX15_stepA_0 rfl (lv_at hl 0 rfl) ?_
  refine lv_tableIn (off := 147) (tgt := 148) hx hb dX15_stepA_1 (by decide) (by decide) (by decide) (by decide) ?_
  refine lv_iload_n hx hb dX15_stepA_148 rfl (lv_at hl 1 rfl) ?_
  exact W.iret (v := (nI a)) hx hb hr (fun t ht9 hW => ⟨⟨(nI a), (), rfl, (by exact sA_1 a ha b hb2), by rw [ht9]; exact hP.sub [] rfl, va_K.moved hW.alike (hK.sub [] rfl), hD.sub [] (by decide) rfl⟩, hS.F ht9⟩) hS.2.2 dX15_stepA_149
theorem sA_2 : ∀ a, a < 16 → ∀ b, b < 16 → (((nI a) - (nI b)) &&& 15) = nI (nA 2 a b) := by decide +kernel
set_option maxHeartbeats 4000000 in
set_option maxRecDepth 100000 in
theorem r_stepA_2 (l : Launch) (dC : Nat → ClassId) (dI : Nat → Nat → Nat) (sz : Nat) (a : Nat) (b : Nat) (ha : a < 16) (hb2 : b < 16) : Met l yX15_stepA (Cond.code yX15_stepA cX15_stepA 3 (some .int) :: tb) ({ frames := 0, cells := 0, slots := 0, locals := 60 }) (pcw [.int 2, .int (nI a), .int (nI b)] (dC, dI) [] [] sz) (va_Qi (fun (r : Int32) => (fun (_ : Unit) => r = nI (nA 2 a b))) (bw (dC, dI) (va_A [] sz) (fun (_ : Unit) => []) (fun (_ : Unit) => [])) (va_A [] sz)) 0 0 (va_A [] sz) := by
  refine Met.ofW (cc := cX15_stepA) (maxL := 3) (ret := (some .int)) (by decide) rfl ?_
  intro p e s m args below meth c s₁ B hml hv
  obtain ⟨rfl, hsz, hP, hK, hD0⟩ := hv
  have hx := B.exec
  have hb := B.bytes
  have hr := B.returns
  have hts := atoms_spec (ws := Cond.code yX15_stepA cX15_stepA 3 (some .int) :: tb) B.pre
  have ht : ∀ w ∈ tb, w.before _ s = true := fun w h => hts w (List.mem_cons_of_mem _ h)
  have hown : s.vm.findClass RX15 = some m.cls := findClass_of_methodNamed B.named
  have hlocks := B.notSynchronized
  subst hsz
  have hD := hD0.self (sz := s.heap.size)
  generalize hAe : va_A [] s.heap.size = A at hD ⊢
  have hA : ∀ q : Nat, s.heap.size ≤ q → A q := fun q h => by rw [← hAe]; exact Or.inr h
  have hS : va_S A s.heap s.heap [] := va_S.rf
  have hl := lv_entry ([.int 2, .int (nI a), .int (nI b)]) (n := 3) (Nat.le_of_ble_eq_true rfl)
  rw [lg_entry_eq]
  generalize (lg_sl ([.int 2, .int (nI a), .int (nI b)]) ++ List.replicate (3 - (lg_sl ([.int 2, .int (nI a), .int (nI b)])).length) Slot.unset).toArray = ls at hl ⊢
  have hl : lv_has ls 3 [(0, .int 2), (1, .int (nI a)), (2, .int (nI b))] := hl
  have hP : va_P (dC, dI) cls [] s.heap := hP
  refine lv_iload_n hx hb dX15_stepA_0 rfl (lv_at hl 0 rfl) ?_
  refine lv_tableIn (off := 94) (tgt := 95) hx hb dX15_stepA_1 (by decide) (by decide) (by decide) (by decide) ?_
  refine lv_iload_n hx hb dX15_stepA_95 rfl (lv_at hl 1 rfl) ?_
  refine lv_iload_n hx hb dX15_stepA_96 rfl (lv_at hl 2 rfl) ?_
  refine lv_isub hx hb dX15_stepA_97 ?_
  refine lv_topi (fun x_1 ex_1 => ?_)
  refine lv_bipush (v := 15) hx hb dX15_stepA_98 (by decide) ?_
  refine lv_iand hx hb dX15_stepA_100 ?_
  refine lv_topi (fun x_2 ex_2 => ?_)
  exact W.iret (v := x_2) hx hb hr (fun t ht9 hW => ⟨⟨x_2, (), rfl, (by rw [ex_2, ex_1]; exact sA_2 a ha b hb2), by rw [ht9]; exact hP.sub [] rfl, va_K.moved hW.alike (hK.sub [] rfl), hD.sub [] (by decide) rfl⟩, hS.F ht9⟩) hS.2.2 dX15_stepA_101
theorem sA_3 : ∀ a, a < 16 → ∀ b, b < 16 → (nI a) = nI (nA 3 a b) := by decide +kernel
set_option maxHeartbeats 4000000 in
set_option maxRecDepth 100000 in
theorem r_stepA_3 (l : Launch) (dC : Nat → ClassId) (dI : Nat → Nat → Nat) (sz : Nat) (a : Nat) (b : Nat) (ha : a < 16) (hb2 : b < 16) : Met l yX15_stepA (Cond.code yX15_stepA cX15_stepA 3 (some .int) :: tb) ({ frames := 0, cells := 0, slots := 0, locals := 60 }) (pcw [.int 3, .int (nI a), .int (nI b)] (dC, dI) [] [] sz) (va_Qi (fun (r : Int32) => (fun (_ : Unit) => r = nI (nA 3 a b))) (bw (dC, dI) (va_A [] sz) (fun (_ : Unit) => []) (fun (_ : Unit) => [])) (va_A [] sz)) 0 0 (va_A [] sz) := by
  refine Met.ofW (cc := cX15_stepA) (maxL := 3) (ret := (some .int)) (by decide) rfl ?_
  intro p e s m args below meth c s₁ B hml hv
  obtain ⟨rfl, hsz, hP, hK, hD0⟩ := hv
  have hx := B.exec
  have hb := B.bytes
  have hr := B.returns
  have hts := atoms_spec (ws := Cond.code yX15_stepA cX15_stepA 3 (some .int) :: tb) B.pre
  have ht : ∀ w ∈ tb, w.before _ s = true := fun w h => hts w (List.mem_cons_of_mem _ h)
  have hown : s.vm.findClass RX15 = some m.cls := findClass_of_methodNamed B.named
  have hlocks := B.notSynchronized
  subst hsz
  have hD := hD0.self (sz := s.heap.size)
  generalize hAe : va_A [] s.heap.size = A at hD ⊢
  have hA : ∀ q : Nat, s.heap.size ≤ q → A q := fun q h => by rw [← hAe]; exact Or.inr h
  have hS : va_S A s.heap s.heap [] := va_S.rf
  have hl := lv_entry ([.int 3, .int (nI a), .int (nI b)]) (n := 3) (Nat.le_of_ble_eq_true rfl)
  rw [lg_entry_eq]
  generalize (lg_sl ([.int 3, .int (nI a), .int (nI b)]) ++ List.replicate (3 - (lg_sl ([.int 3, .int (nI a), .int (nI b)])).length) Slot.unset).toArray = ls at hl ⊢
  have hl : lv_has ls 3 [(0, .int 3), (1, .int (nI a)), (2, .int (nI b))] := hl
  have hP : va_P (dC, dI) cls [] s.heap := hP
  refine lv_iload_n hx hb dX15_stepA_0 rfl (lv_at hl 0 rfl) ?_
  refine lv_tableIn (off := 147) (tgt := 148) hx hb dX15_stepA_1 (by decide) (by decide) (by decide) (by decide) ?_
  refine lv_iload_n hx hb dX15_stepA_148 rfl (lv_at hl 1 rfl) ?_
  exact W.iret (v := (nI a)) hx hb hr (fun t ht9 hW => ⟨⟨(nI a), (), rfl, (by exact sA_3 a ha b hb2), by rw [ht9]; exact hP.sub [] rfl, va_K.moved hW.alike (hK.sub [] rfl), hD.sub [] (by decide) rfl⟩, hS.F ht9⟩) hS.2.2 dX15_stepA_149
theorem sA_4 : ∀ a, a < 16 → ∀ b, b < 16 → ((nI a) ^^^ (nI b)) = nI (nA 4 a b) := by decide +kernel
set_option maxHeartbeats 4000000 in
set_option maxRecDepth 100000 in
theorem r_stepA_4 (l : Launch) (dC : Nat → ClassId) (dI : Nat → Nat → Nat) (sz : Nat) (a : Nat) (b : Nat) (ha : a < 16) (hb2 : b < 16) : Met l yX15_stepA (Cond.code yX15_stepA cX15_stepA 3 (some .int) :: tb) ({ frames := 0, cells := 0, slots := 0, locals := 60 }) (pcw [.int 4, .int (nI a), .int (nI b)] (dC, dI) [] [] sz) (va_Qi (fun (r : Int32) => (fun (_ : Unit) => r = nI (nA 4 a b))) (bw (dC, dI) (va_A [] sz) (fun (_ : Unit) => []) (fun (_ : Unit) => [])) (va_A [] sz)) 0 0 (va_A [] sz) := by
  refine Met.ofW (cc := cX15_stepA) (maxL := 3) (ret := (some .int)) (by decide) rfl ?_
  intro p e s m args below meth c s₁ B hml hv
  obtain ⟨rfl, hsz, hP, hK, hD0⟩ := hv
  have hx := B.exec
  have hb := B.bytes
  have hr := B.returns
  have hts := atoms_spec (ws := Cond.code yX15_stepA cX15_stepA 3 (some .int) :: tb) B.pre
  have ht : ∀ w ∈ tb, w.before _ s = true := fun w h => hts w (List.mem_cons_of_mem _ h)
  have hown : s.vm.findClass RX15 = some m.cls := findClass_of_methodNamed B.named
  have hlocks := B.notSynchronized
  subst hsz
  have hD := hD0.self (sz := s.heap.size)
  generalize hAe : va_A [] s.heap.size = A at hD ⊢
  have hA : ∀ q : Nat, s.heap.size ≤ q → A q := fun q h => by rw [← hAe]; exact Or.inr h
  have hS : va_S A s.heap s.heap [] := va_S.rf
  have hl := lv_entry ([.int 4, .int (nI a), .int (nI b)]) (n := 3) (Nat.le_of_ble_eq_true rfl)
  rw [lg_entry_eq]
  generalize (lg_sl ([.int 4, .int (nI a), .int (nI b)]) ++ List.replicate (3 - (lg_sl ([.int 4, .int (nI a), .int (nI b)])).length) Slot.unset).toArray = ls at hl ⊢
  have hl : lv_has ls 3 [(0, .int 4), (1, .int (nI a)), (2, .int (nI b))] := hl
  have hP : va_P (dC, dI) cls [] s.heap := hP
  refine lv_iload_n hx hb dX15_stepA_0 rfl (lv_at hl 0 rfl) ?_
  refine lv_tableIn (off := 101) (tgt := 102) hx hb dX15_stepA_1 (by decide) (by decide) (by decide) (by decide) ?_
  refine lv_iload_n hx hb dX15_stepA_102 rfl (lv_at hl 1 rfl) ?_
  refine lv_iload_n hx hb dX15_stepA_103 rfl (lv_at hl 2 rfl) ?_
  refine lv_ixor hx hb dX15_stepA_104 ?_
  refine lv_topi (fun x_1 ex_1 => ?_)
  exact W.iret (v := x_1) hx hb hr (fun t ht9 hW => ⟨⟨x_1, (), rfl, (by rw [ex_1]; exact sA_4 a ha b hb2), by rw [ht9]; exact hP.sub [] rfl, va_K.moved hW.alike (hK.sub [] rfl), hD.sub [] (by decide) rfl⟩, hS.F ht9⟩) hS.2.2 dX15_stepA_105
theorem sA_5 : ∀ a, a < 16 → ∀ b, b < 16 → (nI a) = nI (nA 5 a b) := by decide +kernel
set_option maxHeartbeats 4000000 in
set_option maxRecDepth 100000 in
theorem r_stepA_5 (l : Launch) (dC : Nat → ClassId) (dI : Nat → Nat → Nat) (sz : Nat) (a : Nat) (b : Nat) (ha : a < 16) (hb2 : b < 16) : Met l yX15_stepA (Cond.code yX15_stepA cX15_stepA 3 (some .int) :: tb) ({ frames := 0, cells := 0, slots := 0, locals := 60 }) (pcw [.int 5, .int (nI a), .int (nI b)] (dC, dI) [] [] sz) (va_Qi (fun (r : Int32) => (fun (_ : Unit) => r = nI (nA 5 a b))) (bw (dC, dI) (va_A [] sz) (fun (_ : Unit) => []) (fun (_ : Unit) => [])) (va_A [] sz)) 0 0 (va_A [] sz) := by
  refine Met.ofW (cc := cX15_stepA) (maxL := 3) (ret := (some .int)) (by decide) rfl ?_
  intro p e s m args below meth c s₁ B hml hv
  obtain ⟨rfl, hsz, hP, hK, hD0⟩ := hv
  have hx := B.exec
  have hb := B.bytes
  have hr := B.returns
  have hts := atoms_spec (ws := Cond.code yX15_stepA cX15_stepA 3 (some .int) :: tb) B.pre
  have ht : ∀ w ∈ tb, w.before _ s = true := fun w h => hts w (List.mem_cons_of_mem _ h)
  have hown : s.vm.findClass RX15 = some m.cls := findClass_of_methodNamed B.named
  have hlocks := B.notSynchronized
  subst hsz
  have hD := hD0.self (sz := s.heap.size)
  generalize hAe : va_A [] s.heap.size = A at hD ⊢
  have hA : ∀ q : Nat, s.heap.size ≤ q → A q := fun q h => by rw [← hAe]; exact Or.inr h
  have hS : va_S A s.heap s.heap [] := va_S.rf
  have hl := lv_entry ([.int 5, .int (nI a), .int (nI b)]) (n := 3) (Nat.le_of_ble_eq_true rfl)
  rw [lg_entry_eq]
  generalize (lg_sl ([.int 5, .int (nI a), .int (nI b)]) ++ List.replicate (3 - (lg_sl ([.int 5, .int (nI a), .int (nI b)])).length) Slot.unset).toArray = ls at hl ⊢
  have hl : lv_has ls 3 [(0, .int 5), (1, .int (nI a)), (2, .int (nI b))] := hl
  have hP : va_P (dC, dI) cls [] s.heap := hP
  refine lv_iload_n hx hb dX15_stepA_0 rfl (lv_at hl 0 rfl) ?_
  refine lv_tableIn (off := 147) (tgt := 148) hx hb dX15_stepA_1 (by decide) (by decide) (by decide) (by decide) ?_
  refine lv_iload_n hx hb dX15_stepA_148 rfl (lv_at hl 1 rfl) ?_
  exact W.iret (v := (nI a)) hx hb hr (fun t ht9 hW => ⟨⟨(nI a), (), rfl, (by exact sA_5 a ha b hb2), by rw [ht9]; exact hP.sub [] rfl, va_K.moved hW.alike (hK.sub [] rfl), hD.sub [] (by decide) rfl⟩, hS.F ht9⟩) hS.2.2 dX15_stepA_149
theorem sA_6 : ∀ a, a < 16 → ∀ b, b < 16 → ((nI a) &&& (nI b)) = nI (nA 6 a b) := by decide +kernel
set_option maxHeartbeats 4000000 in
set_option maxRecDepth 100000 in
theorem r_stepA_6 (l : Launch) (dC : Nat → ClassId) (dI : Nat → Nat → Nat) (sz : Nat) (a : Nat) (b : Nat) (ha : a < 16) (hb2 : b < 16) : Met l yX15_stepA (Cond.code yX15_stepA cX15_stepA 3 (some .int) :: tb) ({ frames := 0, cells := 0, slots := 0, locals := 60 }) (pcw [.int 6, .int (nI a), .int (nI b)] (dC, dI) [] [] sz) (va_Qi (fun (r : Int32) => (fun (_ : Unit) => r = nI (nA 6 a b))) (bw (dC, dI) (va_A [] sz) (fun (_ : Unit) => []) (fun (_ : Unit) => [])) (va_A [] sz)) 0 0 (va_A [] sz) := by
  refine Met.ofW (cc := cX15_stepA) (maxL := 3) (ret := (some .int)) (by decide) rfl ?_
  intro p e s m args below meth c s₁ B hml hv
  obtain ⟨rfl, hsz, hP, hK, hD0⟩ := hv
  have hx := B.exec
  have hb := B.bytes
  have hr := B.returns
  have hts := atoms_spec (ws := Cond.code yX15_stepA cX15_stepA 3 (some .int) :: tb) B.pre
  have ht : ∀ w ∈ tb, w.before _ s = true := fun w h => hts w (List.mem_cons_of_mem _ h)
  have hown : s.vm.findClass RX15 = some m.cls := findClass_of_methodNamed B.named
  have hlocks := B.notSynchronized
  subst hsz
  have hD := hD0.self (sz := s.heap.size)
  generalize hAe : va_A [] s.heap.size = A at hD ⊢
  have hA : ∀ q : Nat, s.heap.size ≤ q → A q := fun q h => by rw [← hAe]; exact Or.inr h
  have hS : va_S A s.heap s.heap [] := va_S.rf
  have hl := lv_entry ([.int 6, .int (nI a), .int (nI b)]) (n := 3) (Nat.le_of_ble_eq_true rfl)
  rw [lg_entry_eq]
  generalize (lg_sl ([.int 6, .int (nI a), .int (nI b)]) ++ List.replicate (3 - (lg_sl ([.int 6, .int (nI a), .int (nI b)])).length) Slot.unset).toArray = ls at hl ⊢
  have hl : lv_has ls 3 [(0, .int 6), (1, .int (nI a)), (2, .int (nI b))] := hl
  have hP : va_P (dC, dI) cls [] s.heap := hP
  refine lv_iload_n hx hb dX15_stepA_0 rfl (lv_at hl 0 rfl) ?_
  refine lv_tableIn (off := 105) (tgt := 106) hx hb dX15_stepA_1 (by decide) (by decide) (by decide) (by decide) ?_
  refine lv_iload_n hx hb dX15_stepA_106 rfl (lv_at hl 1 rfl) ?_
  refine lv_iload_n hx hb dX15_stepA_107 rfl (lv_at hl 2 rfl) ?_
  refine lv_iand hx hb dX15_stepA_108 ?_
  refine lv_topi (fun x_1 ex_1 => ?_)
  exact W.iret (v := x_1) hx hb hr (fun t ht9 hW => ⟨⟨x_1, (), rfl, (by rw [ex_1]; exact sA_6 a ha b hb2), by rw [ht9]; exact hP.sub [] rfl, va_K.moved hW.alike (hK.sub [] rfl), hD.sub [] (by decide) rfl⟩, hS.F ht9⟩) hS.2.2 dX15_stepA_109
theorem sA_7 : ∀ a, a < 16 → ∀ b, b < 16 → (nI a) = nI (nA 7 a b) := by decide +kernel
set_option maxHeartbeats 4000000 in
set_option maxRecDepth 100000 in
theorem r_stepA_7 (l : Launch) (dC : Nat → ClassId) (dI : Nat → Nat → Nat) (sz : Nat) (a : Nat) (b : Nat) (ha : a < 16) (hb2 : b < 16) : Met l yX15_stepA (Cond.code yX15_stepA cX15_stepA 3 (some .int) :: tb) ({ frames := 0, cells := 0, slots := 0, locals := 60 }) (pcw [.int 7, .int (nI a), .int (nI b)] (dC, dI) [] [] sz) (va_Qi (fun (r : Int32) => (fun (_ : Unit) => r = nI (nA 7 a b))) (bw (dC, dI) (va_A [] sz) (fun (_ : Unit) => []) (fun (_ : Unit) => [])) (va_A [] sz)) 0 0 (va_A [] sz) := by
  refine Met.ofW (cc := cX15_stepA) (maxL := 3) (ret := (some .int)) (by decide) rfl ?_
  intro p e s m args below meth c s₁ B hml hv
  obtain ⟨rfl, hsz, hP, hK, hD0⟩ := hv
  have hx := B.exec
  have hb := B.bytes
  have hr := B.returns
  have hts := atoms_spec (ws := Cond.code yX15_stepA cX15_stepA 3 (some .int) :: tb) B.pre
  have ht : ∀ w ∈ tb, w.before _ s = true := fun w h => hts w (List.mem_cons_of_mem _ h)
  have hown : s.vm.findClass RX15 = some m.cls := findClass_of_methodNamed B.named
  have hlocks := B.notSynchronized
  subst hsz
  have hD := hD0.self (sz := s.heap.size)
  generalize hAe : va_A [] s.heap.size = A at hD ⊢
  have hA : ∀ q : Nat, s.heap.size ≤ q → A q := fun q h => by rw [← hAe]; exact Or.inr h
  have hS : va_S A s.heap s.heap [] := va_S.rf
  have hl := lv_entry ([.int 7, .int (nI a), .int (nI b)]) (n := 3) (Nat.le_of_ble_eq_true rfl)
  rw [lg_entry_eq]
  generalize (lg_sl ([.int 7, .int (nI a), .int (nI b)]) ++ List.replicate (3 - (lg_sl ([.int 7, .int (nI a), .int (nI b)])).length) Slot.unset).toArray = ls at hl ⊢
  have hl : lv_has ls 3 [(0, .int 7), (1, .int (nI a)), (2, .int (nI b))] := hl
  have hP : va_P (dC, dI) cls [] s.heap := hP
  refine lv_iload_n hx hb dX15_stepA_0 rfl (lv_at hl 0 rfl) ?_
  refine lv_tableIn (off := 147) (tgt := 148) hx hb dX15_stepA_1 (by decide) (by decide) (by decide) (by decide) ?_
  refine lv_iload_n hx hb dX15_stepA_148 rfl (lv_at hl 1 rfl) ?_
  exact W.iret (v := (nI a)) hx hb hr (fun t ht9 hW => ⟨⟨(nI a), (), rfl, (by exact sA_7 a ha b hb2), by rw [ht9]; exact hP.sub [] rfl, va_K.moved hW.alike (hK.sub [] rfl), hD.sub [] (by decide) rfl⟩, hS.F ht9⟩) hS.2.2 dX15_stepA_149
theorem sA_8 : ∀ a, a < 16 → ∀ b, b < 16 → (15 - (nI a)) = nI (nA 8 a b) := by decide +kernel
set_option maxHeartbeats 4000000 in
set_option maxRecDepth 100000 in
theorem r_stepA_8 (l : Launch) (dC : Nat → ClassId) (dI : Nat → Nat → Nat) (sz : Nat) (a : Nat) (b : Nat) (ha : a < 16) (hb2 : b < 16) : Met l yX15_stepA (Cond.code yX15_stepA cX15_stepA 3 (some .int) :: tb) ({ frames := 0, cells := 0, slots := 0, locals := 60 }) (pcw [.int 8, .int (nI a), .int (nI b)] (dC, dI) [] [] sz) (va_Qi (fun (r : Int32) => (fun (_ : Unit) => r = nI (nA 8 a b))) (bw (dC, dI) (va_A [] sz) (fun (_ : Unit) => []) (fun (_ : Unit) => [])) (va_A [] sz)) 0 0 (va_A [] sz) := by
  refine Met.ofW (cc := cX15_stepA) (maxL := 3) (ret := (some .int)) (by decide) rfl ?_
  intro p e s m args below meth c s₁ B hml hv
  obtain ⟨rfl, hsz, hP, hK, hD0⟩ := hv
  have hx := B.exec
  have hb := B.bytes
  have hr := B.returns
  have hts := atoms_spec (ws := Cond.code yX15_stepA cX15_stepA 3 (some .int) :: tb) B.pre
  have ht : ∀ w ∈ tb, w.before _ s = true := fun w h => hts w (List.mem_cons_of_mem _ h)
  have hown : s.vm.findClass RX15 = some m.cls := findClass_of_methodNamed B.named
  have hlocks := B.notSynchronized
  subst hsz
  have hD := hD0.self (sz := s.heap.size)
  generalize hAe : va_A [] s.heap.size = A at hD ⊢
  have hA : ∀ q : Nat, s.heap.size ≤ q → A q := fun q h => by rw [← hAe]; exact Or.inr h
  have hS : va_S A s.heap s.heap [] := va_S.rf
  have hl := lv_entry ([.int 8, .int (nI a), .int (nI b)]) (n := 3) (Nat.le_of_ble_eq_true rfl)
  rw [lg_entry_eq]
  generalize (lg_sl ([.int 8, .int (nI a), .int (nI b)]) ++ List.replicate (3 - (lg_sl ([.int 8, .int (nI a), .int (nI b)])).length) Slot.unset).toArray = ls at hl ⊢
  have hl : lv_has ls 3 [(0, .int 8), (1, .int (nI a)), (2, .int (nI b))] := hl
  have hP : va_P (dC, dI) cls [] s.heap := hP
  refine lv_iload_n hx hb dX15_stepA_0 rfl (lv_at hl 0 rfl) ?_
  refine lv_tableIn (off := 109) (tgt := 110) hx hb dX15_stepA_1 (by decide) (by decide) (by decide) (by decide) ?_
  refine lv_bipush (v := 15) hx hb dX15_stepA_110 (by decide) ?_
  refine lv_iload_n hx hb dX15_stepA_112 rfl (lv_at hl 1 rfl) ?_
  refine lv_isub hx hb dX15_stepA_113 ?_
  refine lv_topi (fun x_1 ex_1 => ?_)
  exact W.iret (v := x_1) hx hb hr (fun t ht9 hW => ⟨⟨x_1, (), rfl, (by rw [ex_1]; exact sA_8 a ha b hb2), by rw [ht9]; exact hP.sub [] rfl, va_K.moved hW.alike (hK.sub [] rfl), hD.sub [] (by decide) rfl⟩, hS.F ht9⟩) hS.2.2 dX15_stepA_114
theorem sA_9 : ∀ a, a < 16 → ∀ b, b < 16 → (nI a) = nI (nA 9 a b) := by decide +kernel
set_option maxHeartbeats 4000000 in
set_option maxRecDepth 100000 in
theorem r_stepA_9 (l : Launch) (dC : Nat → ClassId) (dI : Nat → Nat → Nat) (sz : Nat) (a : Nat) (b : Nat) (ha : a < 16) (hb2 : b < 16) : Met l yX15_stepA (Cond.code yX15_stepA cX15_stepA 3 (some .int) :: tb) ({ frames := 0, cells := 0, slots := 0, locals := 60 }) (pcw [.int 9, .int (nI a), .int (nI b)] (dC, dI) [] [] sz) (va_Qi (fun (r : Int32) => (fun (_ : Unit) => r = nI (nA 9 a b))) (bw (dC, dI) (va_A [] sz) (fun (_ : Unit) => []) (fun (_ : Unit) => [])) (va_A [] sz)) 0 0 (va_A [] sz) := by
  refine Met.ofW (cc := cX15_stepA) (maxL := 3) (ret := (some .int)) (by decide) rfl ?_
  intro p e s m args below meth c s₁ B hml hv
  obtain ⟨rfl, hsz, hP, hK, hD0⟩ := hv
  have hx := B.exec
  have hb := B.bytes
  have hr := B.returns
  have hts := atoms_spec (ws := Cond.code yX15_stepA cX15_stepA 3 (some .int) :: tb) B.pre
  have ht : ∀ w ∈ tb, w.before _ s = true := fun w h => hts w (List.mem_cons_of_mem _ h)
  have hown : s.vm.findClass RX15 = some m.cls := findClass_of_methodNamed B.named
  have hlocks := B.notSynchronized
  subst hsz
  have hD := hD0.self (sz := s.heap.size)
  generalize hAe : va_A [] s.heap.size = A at hD ⊢
  have hA : ∀ q : Nat, s.heap.size ≤ q → A q := fun q h => by rw [← hAe]; exact Or.inr h
  have hS : va_S A s.heap s.heap [] := va_S.rf
  have hl := lv_entry ([.int 9, .int (nI a), .int (nI b)]) (n := 3) (Nat.le_of_ble_eq_true rfl)
  rw [lg_entry_eq]
  generalize (lg_sl ([.int 9, .int (nI a), .int (nI b)]) ++ List.replicate (3 - (lg_sl ([.int 9, .int (nI a), .int (nI b)])).length) Slot.unset).toArray = ls at hl ⊢
  have hl : lv_has ls 3 [(0, .int 9), (1, .int (nI a)), (2, .int (nI b))] := hl
  have hP : va_P (dC, dI) cls [] s.heap := hP
  refine lv_iload_n hx hb dX15_stepA_0 rfl (lv_at hl 0 rfl) ?_
  refine lv_tableIn (off := 147) (tgt := 148) hx hb dX15_stepA_1 (by decide) (by decide) (by decide) (by decide) ?_
  refine lv_iload_n hx hb dX15_stepA_148 rfl (lv_at hl 1 rfl) ?_
  exact W.iret (v := (nI a)) hx hb hr (fun t ht9 hW => ⟨⟨(nI a), (), rfl, (by exact sA_9 a ha b hb2), by rw [ht9]; exact hP.sub [] rfl, va_K.moved hW.alike (hK.sub [] rfl), hD.sub [] (by decide) rfl⟩, hS.F ht9⟩) hS.2.2 dX15_stepA_149
theorem sA_10 : ∀ a, a < 16 → ∀ b, b < 16 → (nI b) = nI (nA 10 a b) := by decide +kernel
set_option maxHeartbeats 4000000 in
set_option maxRecDepth 100000 in
theorem r_stepA_10 (l : Launch) (dC : Nat → ClassId) (dI : Nat → Nat → Nat) (sz : Nat) (a : Nat) (b : Nat) (ha : a < 16) (hb2 : b < 16) : Met l yX15_stepA (Cond.code yX15_stepA cX15_stepA 3 (some .int) :: tb) ({ frames := 0, cells := 0, slots := 0, locals := 60 }) (pcw [.int 10, .int (nI a), .int (nI b)] (dC, dI) [] [] sz) (va_Qi (fun (r : Int32) => (fun (_ : Unit) => r = nI (nA 10 a b))) (bw (dC, dI) (va_A [] sz) (fun (_ : Unit) => []) (fun (_ : Unit) => [])) (va_A [] sz)) 0 0 (va_A [] sz) := by
  refine Met.ofW (cc := cX15_stepA) (maxL := 3) (ret := (some .int)) (by decide) rfl ?_
  intro p e s m args below meth c s₁ B hml hv
  obtain ⟨rfl, hsz, hP, hK, hD0⟩ := hv
  have hx := B.exec
  have hb := B.bytes
  have hr := B.returns
  have hts := atoms_spec (ws := Cond.code yX15_stepA cX15_stepA 3 (some .int) :: tb) B.pre
  have ht : ∀ w ∈ tb, w.before _ s = true := fun w h => hts w (List.mem_cons_of_mem _ h)
  have hown : s.vm.findClass RX15 = some m.cls := findClass_of_methodNamed B.named
  have hlocks := B.notSynchronized
  subst hsz
  have hD := hD0.self (sz := s.heap.size)
  generalize hAe : va_A [] s.heap.size = A at hD ⊢
  have hA : ∀ q : Nat, s.heap.size ≤ q → A q := fun q h => by rw [← hAe]; exact Or.inr h
  have hS : va_S A s.heap s.heap [] := va_S.rf
  have hl := lv_entry ([.int 10, .int (nI a), .int (nI b)]) (n := 3) (Nat.le_of_ble_eq_true rfl)
  rw [lg_entry_eq]
  generalize (lg_sl ([.int 10, .int (nI a), .int (nI b)]) ++ List.replicate (3 - (lg_sl ([.int 10, .int (nI a), .int (nI b)])).length) Slot.unset).toArray = ls at hl ⊢
  have hl : lv_has ls 3 [(0, .int 10), (1, .int (nI a)), (2, .int (nI b))] := hl
  have hP : va_P (dC, dI) cls [] s.heap := hP
  refine lv_iload_n hx hb dX15_stepA_0 rfl (lv_at hl 0 rfl) ?_
  refine lv_tableIn (off := 114) (tgt := 115) hx hb dX15_stepA_1 (by decide) (by decide) (by decide) (by decide) ?_
  refine lv_iload_n hx hb dX15_stepA_115 rfl (lv_at hl 2 rfl) ?_
  exact W.iret (v := (nI b)) hx hb hr (fun t ht9 hW => ⟨⟨(nI b), (), rfl, (by exact sA_10 a ha b hb2), by rw [ht9]; exact hP.sub [] rfl, va_K.moved hW.alike (hK.sub [] rfl), hD.sub [] (by decide) rfl⟩, hS.F ht9⟩) hS.2.2 dX15_stepA_116
theorem sA_11 : ∀ a, a < 16 → ∀ b, b < 16 → (((nI a) + 1) &&& 15) = nI (nA 11 a b) := by decide +kernel
set_option maxHeartbeats 4000000 in
set_option maxRecDepth 100000 in
theorem r_stepA_11 (l : Launch) (dC : Nat → ClassId) (dI : Nat → Nat → Nat) (sz : Nat) (a : Nat) (b : Nat) (ha : a < 16) (hb2 : b < 16) : Met l yX15_stepA (Cond.code yX15_stepA cX15_stepA 3 (some .int) :: tb) ({ frames := 0, cells := 0, slots := 0, locals := 60 }) (pcw [.int 11, .int (nI a), .int (nI b)] (dC, dI) [] [] sz) (va_Qi (fun (r : Int32) => (fun (_ : Unit) => r = nI (nA 11 a b))) (bw (dC, dI) (va_A [] sz) (fun (_ : Unit) => []) (fun (_ : Unit) => [])) (va_A [] sz)) 0 0 (va_A [] sz) := by
  refine Met.ofW (cc := cX15_stepA) (maxL := 3) (ret := (some .int)) (by decide) rfl ?_
  intro p e s m args below meth c s₁ B hml hv
  obtain ⟨rfl, hsz, hP, hK, hD0⟩ := hv
  have hx := B.exec
  have hb := B.bytes
  have hr := B.returns
  have hts := atoms_spec (ws := Cond.code yX15_stepA cX15_stepA 3 (some .int) :: tb) B.pre
  have ht : ∀ w ∈ tb, w.before _ s = true := fun w h => hts w (List.mem_cons_of_mem _ h)
  have hown : s.vm.findClass RX15 = some m.cls := findClass_of_methodNamed B.named
  have hlocks := B.notSynchronized
  subst hsz
  have hD := hD0.self (sz := s.heap.size)
  generalize hAe : va_A [] s.heap.size = A at hD ⊢
  have hA : ∀ q : Nat, s.heap.size ≤ q → A q := fun q h => by rw [← hAe]; exact Or.inr h
  have hS : va_S A s.heap s.heap [] := va_S.rf
  have hl := lv_entry ([.int 11, .int (nI a), .int (nI b)]) (n := 3) (Nat.le_of_ble_eq_true rfl)
  rw [lg_entry_eq]
  generalize (lg_sl ([.int 11, .int (nI a), .int (nI b)]) ++ List.replicate (3 - (lg_sl ([.int 11, .int (nI a), .int (nI b)])).length) Slot.unset).toArray = ls at hl ⊢
  have hl : lv_has ls 3 [(0, .int 11), (1, .int (nI a)), (2, .int (nI b))] := hl
  have hP : va_P (dC, dI) cls [] s.heap := hP
  refine lv_iload_n hx hb dX15_stepA_0 rfl (lv_at hl 0 rfl) ?_
  refine lv_tableIn (off := 116) (tgt := 117) hx hb dX15_stepA_1 (by decide) (by decide) (by decide) (by decide) ?_
  refine lv_iload_n hx hb dX15_stepA_117 rfl (lv_at hl 1 rfl) ?_
  refine lv_iconst (v := 1) hx hb dX15_stepA_118 (by decide) ?_
  refine lv_iadd hx hb dX15_stepA_119 ?_
  refine lv_topi (fun x_1 ex_1 => ?_)
  refine lv_bipush (v := 15) hx hb dX15_stepA_120 (by decide) ?_
  refine lv_iand hx hb dX15_stepA_122 ?_
  refine lv_topi (fun x_2 ex_2 => ?_)
  exact W.iret (v := x_2) hx hb hr (fun t ht9 hW => ⟨⟨x_2, (), rfl, (by rw [ex_2, ex_1]; exact sA_11 a ha b hb2), by rw [ht9]; exact hP.sub [] rfl, va_K.moved hW.alike (hK.sub [] rfl), hD.sub [] (by decide) rfl⟩, hS.F ht9⟩) hS.2.2 dX15_stepA_123
theorem sA_12 : ∀ a, a < 16 → ∀ b, b < 16 → (nI a) = nI (nA 12 a b) := by decide +kernel
set_option maxHeartbeats 4000000 in
set_option maxRecDepth 100000 in
theorem r_stepA_12 (l : Launch) (dC : Nat → ClassId) (dI : Nat → Nat → Nat) (sz : Nat) (a : Nat) (b : Nat) (ha : a < 16) (hb2 : b < 16) : Met l yX15_stepA (Cond.code yX15_stepA cX15_stepA 3 (some .int) :: tb) ({ frames := 0, cells := 0, slots := 0, locals := 60 }) (pcw [.int 12, .int (nI a), .int (nI b)] (dC, dI) [] [] sz) (va_Qi (fun (r : Int32) => (fun (_ : Unit) => r = nI (nA 12 a b))) (bw (dC, dI) (va_A [] sz) (fun (_ : Unit) => []) (fun (_ : Unit) => [])) (va_A [] sz)) 0 0 (va_A [] sz) := by
  refine Met.ofW (cc := cX15_stepA) (maxL := 3) (ret := (some .int)) (by decide) rfl ?_
  intro p e s m args below meth c s₁ B hml hv
  obtain ⟨rfl, hsz, hP, hK, hD0⟩ := hv
  have hx := B.exec
  have hb := B.bytes
  have hr := B.returns
  have hts := atoms_spec (ws := Cond.code yX15_stepA cX15_stepA 3 (some .int) :: tb) B.pre
  have ht : ∀ w ∈ tb, w.before _ s = true := fun w h => hts w (List.mem_cons_of_mem _ h)
  have hown : s.vm.findClass RX15 = some m.cls := findClass_of_methodNamed B.named
  have hlocks := B.notSynchronized
  subst hsz
  have hD := hD0.self (sz := s.heap.size)
  generalize hAe : va_A [] s.heap.size = A at hD ⊢
  have hA : ∀ q : Nat, s.heap.size ≤ q → A q := fun q h => by rw [← hAe]; exact Or.inr h
  have hS : va_S A s.heap s.heap [] := va_S.rf
  have hl := lv_entry ([.int 12, .int (nI a), .int (nI b)]) (n := 3) (Nat.le_of_ble_eq_true rfl)
  rw [lg_entry_eq]
  generalize (lg_sl ([.int 12, .int (nI a), .int (nI b)]) ++ List.replicate (3 - (lg_sl ([.int 12, .int (nI a), .int (nI b)])).length) Slot.unset).toArray = ls at hl ⊢
  have hl : lv_has ls 3 [(0, .int 12), (1, .int (nI a)), (2, .int (nI b))] := hl
  have hP : va_P (dC, dI) cls [] s.heap := hP
  refine lv_iload_n hx hb dX15_stepA_0 rfl (lv_at hl 0 rfl) ?_
  refine lv_tableIn (off := 147) (tgt := 148) hx hb dX15_stepA_1 (by decide) (by decide) (by decide) (by decide) ?_
  refine lv_iload_n hx hb dX15_stepA_148 rfl (lv_at hl 1 rfl) ?_
  exact W.iret (v := (nI a)) hx hb hr (fun t ht9 hW => ⟨⟨(nI a), (), rfl, (by exact sA_12 a ha b hb2), by rw [ht9]; exact hP.sub [] rfl, va_K.moved hW.alike (hK.sub [] rfl), hD.sub [] (by decide) rfl⟩, hS.F ht9⟩) hS.2.2 dX15_stepA_149
theorem sA_13 : ∀ a, a < 16 → ∀ b, b < 16 → ((2 * (nI a)) &&& 15) = nI (nA 13 a b) := by decide +kernel
set_option maxHeartbeats 4000000 in
set_option maxRecDepth 100000 in
theorem r_stepA_13 (l : Launch) (dC : Nat → ClassId) (dI : Nat → Nat → Nat) (sz : Nat) (a : Nat) (b : Nat) (ha : a < 16) (hb2 : b < 16) : Met l yX15_stepA (Cond.code yX15_stepA cX15_stepA 3 (some .int) :: tb) ({ frames := 0, cells := 0, slots := 0, locals := 60 }) (pcw [.int 13, .int (nI a), .int (nI b)] (dC, dI) [] [] sz) (va_Qi (fun (r : Int32) => (fun (_ : Unit) => r = nI (nA 13 a b))) (bw (dC, dI) (va_A [] sz) (fun (_ : Unit) => []) (fun (_ : Unit) => [])) (va_A [] sz)) 0 0 (va_A [] sz) := by
  refine Met.ofW (cc := cX15_stepA) (maxL := 3) (ret := (some .int)) (by decide) rfl ?_
  intro p e s m args below meth c s₁ B hml hv
  obtain ⟨rfl, hsz, hP, hK, hD0⟩ := hv
  have hx := B.exec
  have hb := B.bytes
  have hr := B.returns
  have hts := atoms_spec (ws := Cond.code yX15_stepA cX15_stepA 3 (some .int) :: tb) B.pre
  have ht : ∀ w ∈ tb, w.before _ s = true := fun w h => hts w (List.mem_cons_of_mem _ h)
  have hown : s.vm.findClass RX15 = some m.cls := findClass_of_methodNamed B.named
  have hlocks := B.notSynchronized
  subst hsz
  have hD := hD0.self (sz := s.heap.size)
  generalize hAe : va_A [] s.heap.size = A at hD ⊢
  have hA : ∀ q : Nat, s.heap.size ≤ q → A q := fun q h => by rw [← hAe]; exact Or.inr h
  have hS : va_S A s.heap s.heap [] := va_S.rf
  have hl := lv_entry ([.int 13, .int (nI a), .int (nI b)]) (n := 3) (Nat.le_of_ble_eq_true rfl)
  rw [lg_entry_eq]
  generalize (lg_sl ([.int 13, .int (nI a), .int (nI b)]) ++ List.replicate (3 - (lg_sl ([.int 13, .int (nI a), .int (nI b)])).length) Slot.unset).toArray = ls at hl ⊢
  have hl : lv_has ls 3 [(0, .int 13), (1, .int (nI a)), (2, .int (nI b))] := hl
  have hP : va_P (dC, dI) cls [] s.heap := hP
  refine lv_iload_n hx hb dX15_stepA_0 rfl (lv_at hl 0 rfl) ?_
  refine lv_tableIn (off := 123) (tgt := 124) hx hb dX15_stepA_1 (by decide) (by decide) (by decide) (by decide) ?_
  refine lv_iconst (v := 2) hx hb dX15_stepA_124 (by decide) ?_
  refine lv_iload_n hx hb dX15_stepA_125 rfl (lv_at hl 1 rfl) ?_
  refine lv_imul hx hb dX15_stepA_126 ?_
  refine lv_topi (fun x_1 ex_1 => ?_)
  refine lv_bipush (v := 15) hx hb dX15_stepA_127 (by decide) ?_
  refine lv_iand hx hb dX15_stepA_129 ?_
  refine lv_topi (fun x_2 ex_2 => ?_)
  exact W.iret (v := x_2) hx hb hr (fun t ht9 hW => ⟨⟨x_2, (), rfl, (by rw [ex_2, ex_1]; exact sA_13 a ha b hb2), by rw [ht9]; exact hP.sub [] rfl, va_K.moved hW.alike (hK.sub [] rfl), hD.sub [] (by decide) rfl⟩, hS.F ht9⟩) hS.2.2 dX15_stepA_130
theorem sA_14 : ∀ a, a < 16 → ∀ b, b < 16 → ((nI a) / 2) = nI (nA 14 a b) := by decide +kernel
set_option maxHeartbeats 4000000 in
set_option maxRecDepth 100000 in
theorem r_stepA_14 (l : Launch) (dC : Nat → ClassId) (dI : Nat → Nat → Nat) (sz : Nat) (a : Nat) (b : Nat) (ha : a < 16) (hb2 : b < 16) : Met l yX15_stepA (Cond.code yX15_stepA cX15_stepA 3 (some .int) :: tb) ({ frames := 0, cells := 0, slots := 0, locals := 60 }) (pcw [.int 14, .int (nI a), .int (nI b)] (dC, dI) [] [] sz) (va_Qi (fun (r : Int32) => (fun (_ : Unit) => r = nI (nA 14 a b))) (bw (dC, dI) (va_A [] sz) (fun (_ : Unit) => []) (fun (_ : Unit) => [])) (va_A [] sz)) 0 0 (va_A [] sz) := by
  refine Met.ofW (cc := cX15_stepA) (maxL := 3) (ret := (some .int)) (by decide) rfl ?_
  intro p e s m args below meth c s₁ B hml hv
  obtain ⟨rfl, hsz, hP, hK, hD0⟩ := hv
  have hx := B.exec
  have hb := B.bytes
  have hr := B.returns
  have hts := atoms_spec (ws := Cond.code yX15_stepA cX15_stepA 3 (some .int) :: tb) B.pre
  have ht : ∀ w ∈ tb, w.before _ s = true := fun w h => hts w (List.mem_cons_of_mem _ h)
  have hown : s.vm.findClass RX15 = some m.cls := findClass_of_methodNamed B.named
  have hlocks := B.notSynchronized
  subst hsz
  have hD := hD0.self (sz := s.heap.size)
  generalize hAe : va_A [] s.heap.size = A at hD ⊢
  have hA : ∀ q : Nat, s.heap.size ≤ q → A q := fun q h => by rw [← hAe]; exact Or.inr h
  have hS : va_S A s.heap s.heap [] := va_S.rf
  have hl := lv_entry ([.int 14, .int (nI a), .int (nI b)]) (n := 3) (Nat.le_of_ble_eq_true rfl)
  rw [lg_entry_eq]
  generalize (lg_sl ([.int 14, .int (nI a), .int (nI b)]) ++ List.replicate (3 - (lg_sl ([.int 14, .int (nI a), .int (nI b)])).length) Slot.unset).toArray = ls at hl ⊢
  have hl : lv_has ls 3 [(0, .int 14), (1, .int (nI a)), (2, .int (nI b))] := hl
  have hP : va_P (dC, dI) cls [] s.heap := hP
  refine lv_iload_n hx hb dX15_stepA_0 rfl (lv_at hl 0 rfl) ?_
  refine lv_tableIn (off := 130) (tgt := 131) hx hb dX15_stepA_1 (by decide) (by decide) (by decide) (by decide) ?_
  refine lv_iload_n hx hb dX15_stepA_131 rfl (lv_at hl 1 rfl) ?_
  refine lv_iconst (v := 2) hx hb dX15_stepA_132 (by decide) ?_
  refine lv_idiv hx hb dX15_stepA_133 (by decide) ?_
  refine lv_topi (fun x_1 ex_1 => ?_)
  exact W.iret (v := x_1) hx hb hr (fun t ht9 hW => ⟨⟨x_1, (), rfl, (by rw [ex_1]; exact sA_14 a ha b hb2), by rw [ht9]; exact hP.sub [] rfl, va_K.moved hW.alike (hK.sub [] rfl), hD.sub [] (by decide) rfl⟩, hS.F ht9⟩) hS.2.2 dX15_stepA_134
theorem sA_15 : ∀ a, a < 16 → ∀ b, b < 16 → (nI b) = nI (nA 15 a b) := by decide +kernel
set_option maxHeartbeats 4000000 in
set_option maxRecDepth 100000 in
theorem r_stepA_15 (l : Launch) (dC : Nat → ClassId) (dI : Nat → Nat → Nat) (sz : Nat) (a : Nat) (b : Nat) (ha : a < 16) (hb2 : b < 16) : Met l yX15_stepA (Cond.code yX15_stepA cX15_stepA 3 (some .int) :: tb) ({ frames := 0, cells := 0, slots := 0, locals := 60 }) (pcw [.int 15, .int (nI a), .int (nI b)] (dC, dI) [] [] sz) (va_Qi (fun (r : Int32) => (fun (_ : Unit) => r = nI (nA 15 a b))) (bw (dC, dI) (va_A [] sz) (fun (_ : Unit) => []) (fun (_ : Unit) => [])) (va_A [] sz)) 0 0 (va_A [] sz) := by
  refine Met.ofW (cc := cX15_stepA) (maxL := 3) (ret := (some .int)) (by decide) rfl ?_
  intro p e s m args below meth c s₁ B hml hv
  obtain ⟨rfl, hsz, hP, hK, hD0⟩ := hv
  have hx := B.exec
  have hb := B.bytes
  have hr := B.returns
  have hts := atoms_spec (ws := Cond.code yX15_stepA cX15_stepA 3 (some .int) :: tb) B.pre
  have ht : ∀ w ∈ tb, w.before _ s = true := fun w h => hts w (List.mem_cons_of_mem _ h)
  have hown : s.vm.findClass RX15 = some m.cls := findClass_of_methodNamed B.named
  have hlocks := B.notSynchronized
  subst hsz
  have hD := hD0.self (sz := s.heap.size)
  generalize hAe : va_A [] s.heap.size = A at hD ⊢
  have hA : ∀ q : Nat, s.heap.size ≤ q → A q := fun q h => by rw [← hAe]; exact Or.inr h
  have hS : va_S A s.heap s.heap [] := va_S.rf
  have hl := lv_entry ([.int 15, .int (nI a), .int (nI b)]) (n := 3) (Nat.le_of_ble_eq_true rfl)
  rw [lg_entry_eq]
  generalize (lg_sl ([.int 15, .int (nI a), .int (nI b)]) ++ List.replicate (3 - (lg_sl ([.int 15, .int (nI a), .int (nI b)])).length) Slot.unset).toArray = ls at hl ⊢
  have hl : lv_has ls 3 [(0, .int 15), (1, .int (nI a)), (2, .int (nI b))] := hl
  have hP : va_P (dC, dI) cls [] s.heap := hP
  refine lv_iload_n hx hb dX15_stepA_0 rfl (lv_at hl 0 rfl) ?_
  refine lv_tableIn (off := 114) (tgt := 115) hx hb dX15_stepA_1 (by decide) (by decide) (by decide) (by decide) ?_
  refine lv_iload_n hx hb dX15_stepA_115 rfl (lv_at hl 2 rfl) ?_
  exact W.iret (v := (nI b)) hx hb hr (fun t ht9 hW => ⟨⟨(nI b), (), rfl, (by exact sA_15 a ha b hb2), by rw [ht9]; exact hP.sub [] rfl, va_K.moved hW.alike (hK.sub [] rfl), hD.sub [] (by decide) rfl⟩, hS.F ht9⟩) hS.2.2 dX15_stepA_116
theorem sA_16 : ∀ a, a < 16 → ∀ b, b < 16 → ((-(nI a)) &&& 15) = nI (nA 16 a b) := by decide +kernel
set_option maxHeartbeats 4000000 in
set_option maxRecDepth 100000 in
theorem r_stepA_16 (l : Launch) (dC : Nat → ClassId) (dI : Nat → Nat → Nat) (sz : Nat) (a : Nat) (b : Nat) (ha : a < 16) (hb2 : b < 16) : Met l yX15_stepA (Cond.code yX15_stepA cX15_stepA 3 (some .int) :: tb) ({ frames := 0, cells := 0, slots := 0, locals := 60 }) (pcw [.int 16, .int (nI a), .int (nI b)] (dC, dI) [] [] sz) (va_Qi (fun (r : Int32) => (fun (_ : Unit) => r = nI (nA 16 a b))) (bw (dC, dI) (va_A [] sz) (fun (_ : Unit) => []) (fun (_ : Unit) => [])) (va_A [] sz)) 0 0 (va_A [] sz) := by
  refine Met.ofW (cc := cX15_stepA) (maxL := 3) (ret := (some .int)) (by decide) rfl ?_
  intro p e s m args below meth c s₁ B hml hv
  obtain ⟨rfl, hsz, hP, hK, hD0⟩ := hv
  have hx := B.exec
  have hb := B.bytes
  have hr := B.returns
  have hts := atoms_spec (ws := Cond.code yX15_stepA cX15_stepA 3 (some .int) :: tb) B.pre
  have ht : ∀ w ∈ tb, w.before _ s = true := fun w h => hts w (List.mem_cons_of_mem _ h)
  have hown : s.vm.findClass RX15 = some m.cls := findClass_of_methodNamed B.named
  have hlocks := B.notSynchronized
  subst hsz
  have hD := hD0.self (sz := s.heap.size)
  generalize hAe : va_A [] s.heap.size = A at hD ⊢
  have hA : ∀ q : Nat, s.heap.size ≤ q → A q := fun q h => by rw [← hAe]; exact Or.inr h
  have hS : va_S A s.heap s.heap [] := va_S.rf
  have hl := lv_entry ([.int 16, .int (nI a), .int (nI b)]) (n := 3) (Nat.le_of_ble_eq_true rfl)
  rw [lg_entry_eq]
  generalize (lg_sl ([.int 16, .int (nI a), .int (nI b)]) ++ List.replicate (3 - (lg_sl ([.int 16, .int (nI a), .int (nI b)])).length) Slot.unset).toArray = ls at hl ⊢
  have hl : lv_has ls 3 [(0, .int 16), (1, .int (nI a)), (2, .int (nI b))] := hl
  have hP : va_P (dC, dI) cls [] s.heap := hP
  refine lv_iload_n hx hb dX15_stepA_0 rfl (lv_at hl 0 rfl) ?_
  refine lv_tableIn (off := 134) (tgt := 135) hx hb dX15_stepA_1 (by decide) (by decide) (by decide) (by decide) ?_
  refine lv_iload_n hx hb dX15_stepA_135 rfl (lv_at hl 1 rfl) ?_
  refine lv_ineg hx hb dX15_stepA_136 ?_
  refine lv_topi (fun x_1 ex_1 => ?_)
  refine lv_bipush (v := 15) hx hb dX15_stepA_137 (by decide) ?_
  refine lv_iand hx hb dX15_stepA_139 ?_
  refine lv_topi (fun x_2 ex_2 => ?_)
  exact W.iret (v := x_2) hx hb hr (fun t ht9 hW => ⟨⟨x_2, (), rfl, (by rw [ex_2, ex_1]; exact sA_16 a ha b hb2), by rw [ht9]; exact hP.sub [] rfl, va_K.moved hW.alike (hK.sub [] rfl), hD.sub [] (by decide) rfl⟩, hS.F ht9⟩) hS.2.2 dX15_stepA_140
theorem sA_17 : ∀ a, a < 16 → ∀ b, b < 16 → (((nI a) * (nI b)) &&& 15) = nI (nA 17 a b) := by decide +kernel
set_option maxHeartbeats 4000000 in
set_option maxRecDepth 100000 in
theorem r_stepA_17 (l : Launch) (dC : Nat → ClassId) (dI : Nat → Nat → Nat) (sz : Nat) (a : Nat) (b : Nat) (ha : a < 16) (hb2 : b < 16) : Met l yX15_stepA (Cond.code yX15_stepA cX15_stepA 3 (some .int) :: tb) ({ frames := 0, cells := 0, slots := 0, locals := 60 }) (pcw [.int 17, .int (nI a), .int (nI b)] (dC, dI) [] [] sz) (va_Qi (fun (r : Int32) => (fun (_ : Unit) => r = nI (nA 17 a b))) (bw (dC, dI) (va_A [] sz) (fun (_ : Unit) => []) (fun (_ : Unit) => [])) (va_A [] sz)) 0 0 (va_A [] sz) := by
  refine Met.ofW (cc := cX15_stepA) (maxL := 3) (ret := (some .int)) (by decide) rfl ?_
  intro p e s m args below meth c s₁ B hml hv
  obtain ⟨rfl, hsz, hP, hK, hD0⟩ := hv
  have hx := B.exec
  have hb := B.bytes
  have hr := B.returns
  have hts := atoms_spec (ws := Cond.code yX15_stepA cX15_stepA 3 (some .int) :: tb) B.pre
  have ht : ∀ w ∈ tb, w.before _ s = true := fun w h => hts w (List.mem_cons_of_mem _ h)
  have hown : s.vm.findClass RX15 = some m.cls := findClass_of_methodNamed B.named
  have hlocks := B.notSynchronized
  subst hsz
  have hD := hD0.self (sz := s.heap.size)
  generalize hAe : va_A [] s.heap.size = A at hD ⊢
  have hA : ∀ q : Nat, s.heap.size ≤ q → A q := fun q h => by rw [← hAe]; exact Or.inr h
  have hS : va_S A s.heap s.heap [] := va_S.rf
  have hl := lv_entry ([.int 17, .int (nI a), .int (nI b)]) (n := 3) (Nat.le_of_ble_eq_true rfl)
  rw [lg_entry_eq]
  generalize (lg_sl ([.int 17, .int (nI a), .int (nI b)]) ++ List.replicate (3 - (lg_sl ([.int 17, .int (nI a), .int (nI b)])).length) Slot.unset).toArray = ls at hl ⊢
  have hl : lv_has ls 3 [(0, .int 17), (1, .int (nI a)), (2, .int (nI b))] := hl
  have hP : va_P (dC, dI) cls [] s.heap := hP
  refine lv_iload_n hx hb dX15_stepA_0 rfl (lv_at hl 0 rfl) ?_
  refine lv_tableIn (off := 140) (tgt := 141) hx hb dX15_stepA_1 (by decide) (by decide) (by decide) (by decide) ?_
  refine lv_iload_n hx hb dX15_stepA_141 rfl (lv_at hl 1 rfl) ?_
  refine lv_iload_n hx hb dX15_stepA_142 rfl (lv_at hl 2 rfl) ?_
  refine lv_imul hx hb dX15_stepA_143 ?_
  refine lv_topi (fun x_1 ex_1 => ?_)
  refine lv_bipush (v := 15) hx hb dX15_stepA_144 (by decide) ?_
  refine lv_iand hx hb dX15_stepA_146 ?_
  refine lv_topi (fun x_2 ex_2 => ?_)
  exact W.iret (v := x_2) hx hb hr (fun t ht9 hW => ⟨⟨x_2, (), rfl, (by rw [ex_2, ex_1]; exact sA_17 a ha b hb2), by rw [ht9]; exact hP.sub [] rfl, va_K.moved hW.alike (hK.sub [] rfl), hD.sub [] (by decide) rfl⟩, hS.F ht9⟩) hS.2.2 dX15_stepA_147
theorem r_stepA (l : Launch) (dC : Nat → ClassId) (dI : Nat → Nat → Nat) (sz : Nat) (j : Nat) (a : Nat) (b : Nat) (hj : j < 18) (ha : a < 16) (hb2 : b < 16) : Met l yX15_stepA (Cond.code yX15_stepA cX15_stepA 3 (some .int) :: tb) ({ frames := 0, cells := 0, slots := 0, locals := 60 }) (pcw [.int (nI j), .int (nI a), .int (nI b)] (dC, dI) [] [] sz) (va_Qi (fun (r : Int32) => (fun (_ : Unit) => r = nI (nA j a b))) (bw (dC, dI) (va_A [] sz) (fun (_ : Unit) => []) (fun (_ : Unit) => [])) (va_A [] sz)) 0 0 (va_A [] sz) := by
  match j, hj with
  | 0, _ => exact r_stepA_0 l dC dI sz a b ha hb2
  | 1, _ => exact r_stepA_1 l dC dI sz a b ha hb2
  | 2, _ => exact r_stepA_2 l dC dI sz a b ha hb2
  | 3, _ => exact r_stepA_3 l dC dI sz a b ha hb2
  | 4, _ => exact r_stepA_4 l dC dI sz a b ha hb2
  | 5, _ => exact r_stepA_5 l dC dI sz a b ha hb2
  | 6, _ => exact r_stepA_6 l dC dI sz a b ha hb2
  | 7, _ => exact r_stepA_7 l dC dI sz a b ha hb2
  | 8, _ => exact r_stepA_8 l dC dI sz a b ha hb2
  | 9, _ => exact r_stepA_9 l dC dI sz a b ha hb2
  | 10, _ => exact r_stepA_10 l dC dI sz a b ha hb2
  | 11, _ => exact r_stepA_11 l dC dI sz a b ha hb2
  | 12, _ => exact r_stepA_12 l dC dI sz a b ha hb2
  | 13, _ => exact r_stepA_13 l dC dI sz a b ha hb2
  | 14, _ => exact r_stepA_14 l dC dI sz a b ha hb2
  | 15, _ => exact r_stepA_15 l dC dI sz a b ha hb2
  | 16, _ => exact r_stepA_16 l dC dI sz a b ha hb2
  | 17, _ => exact r_stepA_17 l dC dI sz a b ha hb2
  | n + 18, h => exact absurd h (by omega)
theorem sB_0 : ∀ a, a < 16 → ∀ b, b < 16 → (nI b) = nI (nB 0 a b) := by decide +kernel
set_option maxHeartbeats 4000000 in
set_option maxRecDepth 100000 in
theorem r_stepB_0 (l : Launch) (dC : Nat → ClassId) (dI : Nat → Nat → Nat) (sz : Nat) (a : Nat) (b : Nat) (ha : a < 16) (hb2 : b < 16) : Met l yX15_stepB (Cond.code yX15_stepB cX15_stepB 3 (some .int) :: tb) ({ frames := 0, cells := 0, slots := 0, locals := 60 }) (pcw [.int 0, .int (nI a), .int (nI b)] (dC, dI) [] [] sz) (va_Qi (fun (r : Int32) => (fun (_ : Unit) => r = nI (nB 0 a b))) (bw (dC, dI) (va_A [] sz) (fun (_ : Unit) => []) (fun (_ : Unit) => [])) (va_A [] sz)) 0 0 (va_A [] sz) := by
  refine Met.ofW (cc := cX15_stepB) (maxL := 3) (ret := (some .int)) (by decide) rfl ?_
  intro p e s m args below meth c s₁ B hml hv
  obtain ⟨rfl, hsz, hP, hK, hD0⟩ := hv
  have hx := B.exec
  have hb := B.bytes
  have hr := B.returns
  have hts := atoms_spec (ws := Cond.code yX15_stepB cX15_stepB 3 (some .int) :: tb) B.pre
  have ht : ∀ w ∈ tb, w.before _ s = true := fun w h => hts w (List.mem_cons_of_mem _ h)
  have hown : s.vm.findClass RX15 = some m.cls := findClass_of_methodNamed B.named
  have hlocks := B.notSynchronized
  subst hsz
  have hD := hD0.self (sz := s.heap.size)
  generalize hAe : va_A [] s.heap.size = A at hD ⊢
  have hA : ∀ q : Nat, s.heap.size ≤ q → A q := fun q h => by rw [← hAe]; exact Or.inr h
  have hS : va_S A s.heap s.heap [] := va_S.rf
  have hl := lv_entry ([.int 0, .int (nI a), .int (nI b)]) (n := 3) (Nat.le_of_ble_eq_true rfl)
  rw [lg_entry_eq]
  generalize (lg_sl ([.int 0, .int (nI a), .int (nI b)]) ++ List.replicate (3 - (lg_sl ([.int 0, .int (nI a), .int (nI b)])).length) Slot.unset).toArray = ls at hl ⊢
  have hl : lv_has ls 3 [(0, .int 0), (1, .int (nI a)), (2, .int (nI b))] := hl
  have hP : va_P (dC, dI) cls [] s.heap := hP
  refine lv_iload_n hx hb dX15_stepB_0 rfl (lv_at hl 0 rfl) ?_
  refine lv_tableOut (tgt := 107) hx hb dX15_stepB_1 (by decide) (by decide) ?_
  refine lv_iload_n hx hb dX15_stepB_107 rfl (lv_at hl 2 rfl) ?_
  exact W.iret (v := (nI b)) hx hb hr (fun t ht9 hW => ⟨⟨(nI b), (), rfl, (by exact sB_0 a ha b hb2), by rw [ht9]; exact hP.sub [] rfl, va_K.moved hW.alike (hK.sub [] rfl), hD.sub [] (by decide) rfl⟩, hS.F ht9⟩) hS.2.2 dX15_stepB_108
theorem sB_1 : ∀ a, a < 16 → ∀ b, b < 16 → (((nI a) + (nI b)) &&& 15) = nI (nB 1 a b) := by decide +kernel
set_option maxHeartbeats 4000000 in
set_option maxRecDepth 100000 in
theorem r_stepB_1 (l : Launch) (dC : Nat → ClassId) (dI : Nat → Nat → Nat) (sz : Nat) (a : Nat) (b : Nat) (ha : a < 16) (hb2 : b < 16) : Met l yX15_stepB (Cond.code yX15_stepB cX15_stepB 3 (some .int) :: tb) ({ frames := 0, cells := 0, slots := 0, locals := 60 }) (pcw [.int 1, .int (nI a), .int (nI b)] (dC, dI) [] [] sz) (va_Qi (fun (r : Int32) => (fun (_ : Unit) => r = nI (nB 1 a b))) (bw (dC, dI) (va_A [] sz) (fun (_ : Unit) => []) (fun (_ : Unit) => [])) (va_A [] sz)) 0 0 (va_A [] sz) := by
  refine Met.ofW (cc := cX15_stepB) (maxL := 3) (ret := (some .int)) (by decide) rfl ?_
  intro p e s m args below meth c s₁ B hml hv
  obtain ⟨rfl, hsz, hP, hK, hD0⟩ := hv
  have hx := B.exec
  have hb := B.bytes
  have hr := B.returns
  have hts := atoms_spec (ws := Cond.code yX15_stepB cX15_stepB 3 (some .int) :: tb) B.pre
  have ht : ∀ w ∈ tb, w.before _ s = true := fun w h => hts w (List.mem_cons_of_mem _ h)
  have hown : s.vm.findClass RX15 = some m.cls := findClass_of_methodNamed B.named
  have hlocks := B.notSynchronized
  subst hsz
  have hD := hD0.self (sz := s.heap.size)
  generalize hAe : va_A [] s.heap.size = A at hD ⊢
  have hA : ∀ q : Nat, s.heap.size ≤ q → A q := fun q h => by rw [← hAe]; exact Or.inr h
  have hS : va_S A s.heap s.heap [] := va_S.rf
  have hl := lv_entry ([.int 1, .int (nI a), .int (nI b)]) (n := 3) (Nat.le_of_ble_eq_true rfl)
  rw [lg_entry_eq]
  generalize (lg_sl ([.int 1, .int (nI a), .int (nI b)]) ++ List.replicate (3 - (lg_sl ([.int 1, .int (nI a), .int (nI b)])).length) Slot.unset).toArray = ls at hl ⊢
  have hl : lv_has ls 3 [(0, .int 1), (1, .int (nI a)), (2, .int (nI b))] := hl
  have hP : va_P (dC, dI) cls [] s.heap := hP
  refine lv_iload_n hx hb dX15_stepB_0 rfl (lv_at hl 0 rfl) ?_
  refine lv_tableIn (off := 75) (tgt := 76) hx hb dX15_stepB_1 (by decide) (by decide) (by decide) (by decide) ?_
  refine lv_iload_n hx hb dX15_stepB_76 rfl (lv_at hl 1 rfl) ?_
  refine lv_iload_n hx hb dX15_stepB_77 rfl (lv_at hl 2 rfl) ?_
  refine lv_iadd hx hb dX15_stepB_78 ?_
  refine lv_topi (fun x_1 ex_1 => ?_)
  refine lv_bipush (v := 15) hx hb dX15_stepB_79 (by decide) ?_
  refine lv_iand hx hb dX15_stepB_81 ?_
  refine lv_topi (fun x_2 ex_2 => ?_)
  exact W.iret (v := x_2) hx hb hr (fun t ht9 hW => ⟨⟨x_2, (), rfl, (by rw [ex_2, ex_1]; exact sB_1 a ha b hb2), by rw [ht9]; exact hP.sub [] rfl, va_K.moved hW.alike (hK.sub [] rfl), hD.sub [] (by decide) rfl⟩, hS.F ht9⟩) hS.2.2 dX15_stepB_82
theorem sB_2 : ∀ a, a < 16 → ∀ b, b < 16 → (nI b) = nI (nB 2 a b) := by decide +kernel
set_option maxHeartbeats 4000000 in
set_option maxRecDepth 100000 in
theorem r_stepB_2 (l : Launch) (dC : Nat → ClassId) (dI : Nat → Nat → Nat) (sz : Nat) (a : Nat) (b : Nat) (ha : a < 16) (hb2 : b < 16) : Met l yX15_stepB (Cond.code yX15_stepB cX15_stepB 3 (some .int) :: tb) ({ frames := 0, cells := 0, slots := 0, locals := 60 }) (pcw [.int 2, .int (nI a), .int (nI b)] (dC, dI) [] [] sz) (va_Qi (fun (r : Int32) => (fun (_ : Unit) => r = nI (nB 2 a b))) (bw (dC, dI) (va_A [] sz) (fun (_ : Unit) => []) (fun (_ : Unit) => [])) (va_A [] sz)) 0 0 (va_A [] sz) := by
  refine Met.ofW (cc := cX15_stepB) (maxL := 3) (ret := (some .int)) (by decide) rfl ?_
  intro p e s m args below meth c s₁ B hml hv
  obtain ⟨rfl, hsz, hP, hK, hD0⟩ := hv
  have hx := B.exec
  have hb := B.bytes
  have hr := B.returns
  have hts := atoms_spec (ws := Cond.code yX15_stepB cX15_stepB 3 (some .int) :: tb) B.pre
  have ht : ∀ w ∈ tb, w.before _ s = true := fun w h => hts w (List.mem_cons_of_mem _ h)
  have hown : s.vm.findClass RX15 = some m.cls := findClass_of_methodNamed B.named
  have hlocks := B.notSynchronized
  subst hsz
  have hD := hD0.self (sz := s.heap.size)
  generalize hAe : va_A [] s.heap.size = A at hD ⊢
  have hA : ∀ q : Nat, s.heap.size ≤ q → A q := fun q h => by rw [← hAe]; exact Or.inr h
  have hS : va_S A s.heap s.heap [] := va_S.rf
  have hl := lv_entry ([.int 2, .int (nI a), .int (nI b)]) (n := 3) (Nat.le_of_ble_eq_true rfl)
  rw [lg_entry_eq]
  generalize (lg_sl ([.int 2, .int (nI a), .int (nI b)]) ++ List.replicate (3 - (lg_sl ([.int 2, .int (nI a), .int (nI b)])).length) Slot.unset).toArray = ls at hl ⊢
  have hl : lv_has ls 3 [(0, .int 2), (1, .int (nI a)), (2, .int (nI b))] := hl
  have hP : va_P (dC, dI) cls [] s.heap := hP
  refine lv_iload_n hx hb dX15_stepB_0 rfl (lv_at hl 0 rfl) ?_
  refine lv_tableIn (off := 106) (tgt := 107) hx hb dX15_stepB_1 (by decide) (by decide) (by decide) (by decide) ?_
  refine lv_iload_n hx hb dX15_stepB_107 rfl (lv_at hl 2 rfl) ?_
  exact W.iret (v := (nI b)) hx hb hr (fun t ht9 hW => ⟨⟨(nI b), (), rfl, (by exact sB_2 a ha b hb2), by rw [ht9]; exact hP.sub [] rfl, va_K.moved hW.alike (hK.sub [] rfl), hD.sub [] (by decide) rfl⟩, hS.F ht9⟩) hS.2.2 dX15_stepB_108
theorem sB_3 : ∀ a, a < 16 → ∀ b, b < 16 → (((nI b) - (nI a)) &&& 15) = nI (nB 3 a b) := by decide +kernel
set_option maxHeartbeats 4000000 in
set_option maxRecDepth 100000 in
theorem r_stepB_3 (l : Launch) (dC : Nat → ClassId) (dI : Nat → Nat → Nat) (sz : Nat) (a : Nat) (b : Nat) (ha : a < 16) (hb2 : b < 16) : Met l yX15_stepB (Cond.code yX15_stepB cX15_stepB 3 (some .int) :: tb) ({ frames := 0, cells := 0, slots := 0, locals := 60 }) (pcw [.int 3, .int (nI a), .int (nI b)] (dC, dI) [] [] sz) (va_Qi (fun (r : Int32) => (fun (_ : Unit) => r = nI (nB 3 a b))) (bw (dC, dI) (va_A [] sz) (fun (_ : Unit) => []) (fun (_ : Unit) => [])) (va_A [] sz)) 0 0 (va_A [] sz) := by
  refine Met.ofW (cc := cX15_stepB) (maxL := 3) (ret := (some .int)) (by decide) rfl ?_
  intro p e s m args below meth c s₁ B hml hv
  obtain ⟨rfl, hsz, hP, hK, hD0⟩ := hv
  have hx := B.exec
  have hb := B.bytes
  have hr := B.returns
  have hts := atoms_spec (ws := Cond.code yX15_stepB cX15_stepB 3 (some .int) :: tb) B.pre
  have ht : ∀ w ∈ tb, w.before _ s = true := fun w h => hts w (List.mem_cons_of_mem _ h)
  have hown : s.vm.findClass RX15 = some m.cls := findClass_of_methodNamed B.named
  have hlocks := B.notSynchronized
  subst hsz
  have hD := hD0.self (sz := s.heap.size)
  generalize hAe : va_A [] s.heap.size = A at hD ⊢
  have hA : ∀ q : Nat, s.heap.size ≤ q → A q := fun q h => by rw [← hAe]; exact Or.inr h
  have hS : va_S A s.heap s.heap [] := va_S.rf
  have hl := lv_entry ([.int 3, .int (nI a), .int (nI b)]) (n := 3) (Nat.le_of_ble_eq_true rfl)
  rw [lg_entry_eq]
  generalize (lg_sl ([.int 3, .int (nI a), .int (nI b)]) ++ List.replicate (3 - (lg_sl ([.int 3, .int (nI a), .int (nI b)])).length) Slot.unset).toArray = ls at hl ⊢
  have hl : lv_has ls 3 [(0, .int 3), (1, .int (nI a)), (2, .int (nI b))] := hl
  have hP : va_P (dC, dI) cls [] s.heap := hP
  refine lv_iload_n hx hb dX15_stepB_0 rfl (lv_at hl 0 rfl) ?_
  refine lv_tableIn (off := 82) (tgt := 83) hx hb dX15_stepB_1 (by decide) (by decide) (by decide) (by decide) ?_
  refine lv_iload_n hx hb dX15_stepB_83 rfl (lv_at hl 2 rfl) ?_
  refine lv_iload_n hx hb dX15_stepB_84 rfl (lv_at hl 1 rfl) ?_
  refine lv_isub hx hb dX15_stepB_85 ?_
  refine lv_topi (fun x_1 ex_1 => ?_)
  refine lv_bipush (v := 15) hx hb dX15_stepB_86 (by decide) ?_
  refine lv_iand hx hb dX15_stepB_88 ?_
  refine lv_topi (fun x_2 ex_2 => ?_)
  exact W.iret (v := x_2) hx hb hr (fun t ht9 hW => ⟨⟨x_2, (), rfl, (by rw [ex_2, ex_1]; exact sB_3 a ha b hb2), by rw [ht9]; exact hP.sub [] rfl, va_K.moved hW.alike (hK.sub [] rfl), hD.sub [] (by decide) rfl⟩, hS.F ht9⟩) hS.2.2 dX15_stepB_89
theorem sB_4 : ∀ a, a < 16 → ∀ b, b < 16 → (nI b) = nI (nB 4 a b) := by decide +kernel
set_option maxHeartbeats 4000000 in
set_option maxRecDepth 100000 in
theorem r_stepB_4 (l : Launch) (dC : Nat → ClassId) (dI : Nat → Nat → Nat) (sz : Nat) (a : Nat) (b : Nat) (ha : a < 16) (hb2 : b < 16) : Met l yX15_stepB (Cond.code yX15_stepB cX15_stepB 3 (some .int) :: tb) ({ frames := 0, cells := 0, slots := 0, locals := 60 }) (pcw [.int 4, .int (nI a), .int (nI b)] (dC, dI) [] [] sz) (va_Qi (fun (r : Int32) => (fun (_ : Unit) => r = nI (nB 4 a b))) (bw (dC, dI) (va_A [] sz) (fun (_ : Unit) => []) (fun (_ : Unit) => [])) (va_A [] sz)) 0 0 (va_A [] sz) := by
  refine Met.ofW (cc := cX15_stepB) (maxL := 3) (ret := (some .int)) (by decide) rfl ?_
  intro p e s m args below meth c s₁ B hml hv
  obtain ⟨rfl, hsz, hP, hK, hD0⟩ := hv
  have hx := B.exec
  have hb := B.bytes
  have hr := B.returns
  have hts := atoms_spec (ws := Cond.code yX15_stepB cX15_stepB 3 (some .int) :: tb) B.pre
  have ht : ∀ w ∈ tb, w.before _ s = true := fun w h => hts w (List.mem_cons_of_mem _ h)
  have hown : s.vm.findClass RX15 = some m.cls := findClass_of_methodNamed B.named
  have hlocks := B.notSynchronized
  subst hsz
  have hD := hD0.self (sz := s.heap.size)
  generalize hAe : va_A [] s.heap.size = A at hD ⊢
  have hA : ∀ q : Nat, s.heap.size ≤ q → A q := fun q h => by rw [← hAe]; exact Or.inr h
  have hS : va_S A s.heap s.heap [] := va_S.rf
  have hl := lv_entry ([.int 4, .int (nI a), .int (nI b)]) (n := 3) (Nat.le_of_ble_eq_true rfl)
  rw [lg_entry_eq]
  generalize (lg_sl ([.int 4, .int (nI a), .int (nI b)]) ++ List.replicate (3 - (lg_sl ([.int 4, .int (nI a), .int (nI b)])).length) Slot.unset).toArray = ls at hl ⊢
  have hl : lv_has ls 3 [(0, .int 4), (1, .int (nI a)), (2, .int (nI b))] := hl
  have hP : va_P (dC, dI) cls [] s.heap := hP
  refine lv_iload_n hx hb dX15_stepB_0 rfl (lv_at hl 0 rfl) ?_
  refine lv_tableIn (off := 106) (tgt := 107) hx hb dX15_stepB_1 (by decide) (by decide) (by decide) (by decide) ?_
  refine lv_iload_n hx hb dX15_stepB_107 rfl (lv_at hl 2 rfl) ?_
  exact W.iret (v := (nI b)) hx hb hr (fun t ht9 hW => ⟨⟨(nI b), (), rfl, (by exact sB_4 a ha b hb2), by rw [ht9]; exact hP.sub [] rfl, va_K.moved hW.alike (hK.sub [] rfl), hD.sub [] (by decide) rfl⟩, hS.F ht9⟩) hS.2.2 dX15_stepB_108
theorem sB_5 : ∀ a, a < 16 → ∀ b, b < 16 → ((nI a) ^^^ (nI b)) = nI (nB 5 a b) := by decide +kernel
set_option maxHeartbeats 4000000 in
set_option maxRecDepth 100000 in
theorem r_stepB_5 (l : Launch) (dC : Nat → ClassId) (dI : Nat → Nat → Nat) (sz : Nat) (a : Nat) (b : Nat) (ha : a < 16) (hb2 : b < 16) : Met l yX15_stepB (Cond.code yX15_stepB cX15_stepB 3 (some .int) :: tb) ({ frames := 0, cells := 0, slots := 0, locals := 60 }) (pcw [.int 5, .int (nI a), .int (nI b)] (dC, dI) [] [] sz) (va_Qi (fun (r : Int32) => (fun (_ : Unit) => r = nI (nB 5 a b))) (bw (dC, dI) (va_A [] sz) (fun (_ : Unit) => []) (fun (_ : Unit) => [])) (va_A [] sz)) 0 0 (va_A [] sz) := by
  refine Met.ofW (cc := cX15_stepB) (maxL := 3) (ret := (some .int)) (by decide) rfl ?_
  intro p e s m args below meth c s₁ B hml hv
  obtain ⟨rfl, hsz, hP, hK, hD0⟩ := hv
  have hx := B.exec
  have hb := B.bytes
  have hr := B.returns
  have hts := atoms_spec (ws := Cond.code yX15_stepB cX15_stepB 3 (some .int) :: tb) B.pre
  have ht : ∀ w ∈ tb, w.before _ s = true := fun w h => hts w (List.mem_cons_of_mem _ h)
  have hown : s.vm.findClass RX15 = some m.cls := findClass_of_methodNamed B.named
  have hlocks := B.notSynchronized
  subst hsz
  have hD := hD0.self (sz := s.heap.size)
  generalize hAe : va_A [] s.heap.size = A at hD ⊢
  have hA : ∀ q : Nat, s.heap.size ≤ q → A q := fun q h => by rw [← hAe]; exact Or.inr h
  have hS : va_S A s.heap s.heap [] := va_S.rf
  have hl := lv_entry ([.int 5, .int (nI a), .int (nI b)]) (n := 3) (Nat.le_of_ble_eq_true rfl)
  rw [lg_entry_eq]
  generalize (lg_sl ([.int 5, .int (nI a), .int (nI b)]) ++ List.replicate (3 - (lg_sl ([.int 5, .int (nI a), .int (nI b)])).length) Slot.unset).toArray = ls at hl ⊢
  have hl : lv_has ls 3 [(0, .int 5), (1, .int (nI a)), (2, .int (nI b))] := hl
  have hP : va_P (dC, dI) cls [] s.heap := hP
  refine lv_iload_n hx hb dX15_stepB_0 rfl (lv_at hl 0 rfl) ?_
  refine lv_tableIn (off := 89) (tgt := 90) hx hb dX15_stepB_1 (by decide) (by decide) (by decide) (by decide) ?_
  refine lv_iload_n hx hb dX15_stepB_90 rfl (lv_at hl 1 rfl) ?_
  refine lv_iload_n hx hb dX15_stepB_91 rfl (lv_at hl 2 rfl) ?_
  refine lv_ixor hx hb dX15_stepB_92 ?_
  refine lv_topi (fun x_1 ex_1 => ?_)
  exact W.iret (v := x_1) hx hb hr (fun t ht9 hW => ⟨⟨x_1, (), rfl, (by rw [ex_1]; exact sB_5 a ha b hb2), by rw [ht9]; exact hP.sub [] rfl, va_K.moved hW.alike (hK.sub [] rfl), hD.sub [] (by decide) rfl⟩, hS.F ht9⟩) hS.2.2 dX15_stepB_93
theorem sB_6 : ∀ a, a < 16 → ∀ b, b < 16 → (nI b) = nI (nB 6 a b) := by decide +kernel
set_option maxHeartbeats 4000000 in
set_option maxRecDepth 100000 in
theorem r_stepB_6 (l : Launch) (dC : Nat → ClassId) (dI : Nat → Nat → Nat) (sz : Nat) (a : Nat) (b : Nat) (ha : a < 16) (hb2 : b < 16) : Met l yX15_stepB (Cond.code yX15_stepB cX15_stepB 3 (some .int) :: tb) ({ frames := 0, cells := 0, slots := 0, locals := 60 }) (pcw [.int 6, .int (nI a), .int (nI b)] (dC, dI) [] [] sz) (va_Qi (fun (r : Int32) => (fun (_ : Unit) => r = nI (nB 6 a b))) (bw (dC, dI) (va_A [] sz) (fun (_ : Unit) => []) (fun (_ : Unit) => [])) (va_A [] sz)) 0 0 (va_A [] sz) := by
  refine Met.ofW (cc := cX15_stepB) (maxL := 3) (ret := (some .int)) (by decide) rfl ?_
  intro p e s m args below meth c s₁ B hml hv
  obtain ⟨rfl, hsz, hP, hK, hD0⟩ := hv
  have hx := B.exec
  have hb := B.bytes
  have hr := B.returns
  have hts := atoms_spec (ws := Cond.code yX15_stepB cX15_stepB 3 (some .int) :: tb) B.pre
  have ht : ∀ w ∈ tb, w.before _ s = true := fun w h => hts w (List.mem_cons_of_mem _ h)
  have hown : s.vm.findClass RX15 = some m.cls := findClass_of_methodNamed B.named
  have hlocks := B.notSynchronized
  subst hsz
  have hD := hD0.self (sz := s.heap.size)
  generalize hAe : va_A [] s.heap.size = A at hD ⊢
  have hA : ∀ q : Nat, s.heap.size ≤ q → A q := fun q h => by rw [← hAe]; exact Or.inr h
  have hS : va_S A s.heap s.heap [] := va_S.rf
  have hl := lv_entry ([.int 6, .int (nI a), .int (nI b)]) (n := 3) (Nat.le_of_ble_eq_true rfl)
  rw [lg_entry_eq]
  generalize (lg_sl ([.int 6, .int (nI a), .int (nI b)]) ++ List.replicate (3 - (lg_sl ([.int 6, .int (nI a), .int (nI b)])).length) Slot.unset).toArray = ls at hl ⊢
  have hl : lv_has ls 3 [(0, .int 6), (1, .int (nI a)), (2, .int (nI b))] := hl
  have hP : va_P (dC, dI) cls [] s.heap := hP
  refine lv_iload_n hx hb dX15_stepB_0 rfl (lv_at hl 0 rfl) ?_
  refine lv_tableIn (off := 106) (tgt := 107) hx hb dX15_stepB_1 (by decide) (by decide) (by decide) (by decide) ?_
  refine lv_iload_n hx hb dX15_stepB_107 rfl (lv_at hl 2 rfl) ?_
  exact W.iret (v := (nI b)) hx hb hr (fun t ht9 hW => ⟨⟨(nI b), (), rfl, (by exact sB_6 a ha b hb2), by rw [ht9]; exact hP.sub [] rfl, va_K.moved hW.alike (hK.sub [] rfl), hD.sub [] (by decide) rfl⟩, hS.F ht9⟩) hS.2.2 dX15_stepB_108
theorem sB_7 : ∀ a, a < 16 → ∀ b, b < 16 → ((nI a) ||| (nI b)) = nI (nB 7 a b) := by decide +kernel
set_option maxHeartbeats 4000000 in
set_option maxRecDepth 100000 in
theorem r_stepB_7 (l : Launch) (dC : Nat → ClassId) (dI : Nat → Nat → Nat) (sz : Nat) (a : Nat) (b : Nat) (ha : a < 16) (hb2 : b < 16) : Met l yX15_stepB (Cond.code yX15_stepB cX15_stepB 3 (some .int) :: tb) ({ frames := 0, cells := 0, slots := 0, locals := 60 }) (pcw [.int 7, .int (nI a), .int (nI b)] (dC, dI) [] [] sz) (va_Qi (fun (r : Int32) => (fun (_ : Unit) => r = nI (nB 7 a b))) (bw (dC, dI) (va_A [] sz) (fun (_ : Unit) => []) (fun (_ : Unit) => [])) (va_A [] sz)) 0 0 (va_A [] sz) := by
  refine Met.ofW (cc := cX15_stepB) (maxL := 3) (ret := (some .int)) (by decide) rfl ?_
  intro p e s m args below meth c s₁ B hml hv
  obtain ⟨rfl, hsz, hP, hK, hD0⟩ := hv
  have hx := B.exec
  have hb := B.bytes
  have hr := B.returns
  have hts := atoms_spec (ws := Cond.code yX15_stepB cX15_stepB 3 (some .int) :: tb) B.pre
  have ht : ∀ w ∈ tb, w.before _ s = true := fun w h => hts w (List.mem_cons_of_mem _ h)
  have hown : s.vm.findClass RX15 = some m.cls := findClass_of_methodNamed B.named
  have hlocks := B.notSynchronized
  subst hsz
  have hD := hD0.self (sz := s.heap.size)
  generalize hAe : va_A [] s.heap.size = A at hD ⊢
  have hA : ∀ q : Nat, s.heap.size ≤ q → A q := fun q h => by rw [← hAe]; exact Or.inr h
  have hS : va_S A s.heap s.heap [] := va_S.rf
  have hl := lv_entry ([.int 7, .int (nI a), .int (nI b)]) (n := 3) (Nat.le_of_ble_eq_true rfl)
  rw [lg_entry_eq]
  generalize (lg_sl ([.int 7, .int (nI a), .int (nI b)]) ++ List.replicate (3 - (lg_sl ([.int 7, .int (nI a), .int (nI b)])).length) Slot.unset).toArray = ls at hl ⊢
  have hl : lv_has ls 3 [(0, .int 7), (1, .int (nI a)), (2, .int (nI b))] := hl
  have hP : va_P (dC, dI) cls [] s.heap := hP
  refine lv_iload_n hx hb dX15_stepB_0 rfl (lv_at hl 0 rfl) ?_
  refine lv_tableIn (off := 93) (tgt := 94) hx hb dX15_stepB_1 (by decide) (by decide) (by decide) (by decide) ?_
  refine lv_iload_n hx hb dX15_stepB_94 rfl (lv_at hl 1 rfl) ?_
  refine lv_iload_n hx hb dX15_stepB_95 rfl (lv_at hl 2 rfl) ?_
  refine lv_ior hx hb dX15_stepB_96 ?_
  refine lv_topi (fun x_1 ex_1 => ?_)
  exact W.iret (v := x_1) hx hb hr (fun t ht9 hW => ⟨⟨x_1, (), rfl, (by rw [ex_1]; exact sB_7 a ha b hb2), by rw [ht9]; exact hP.sub [] rfl, va_K.moved hW.alike (hK.sub [] rfl), hD.sub [] (by decide) rfl⟩, hS.F ht9⟩) hS.2.2 dX15_stepB_97
theorem sB_8 : ∀ a, a < 16 → ∀ b, b < 16 → (nI b) = nI (nB 8 a b) := by decide +kernel
set_option maxHeartbeats 4000000 in
set_option maxRecDepth 100000 in
theorem r_stepB_8 (l : Launch) (dC : Nat → ClassId) (dI : Nat → Nat → Nat) (sz : Nat) (a : Nat) (b : Nat) (ha : a < 16) (hb2 : b < 16) : Met l yX15_stepB (Cond.code yX15_stepB cX15_stepB 3 (some .int) :: tb) ({ frames := 0, cells := 0, slots := 0, locals := 60 }) (pcw [.int 8, .int (nI a), .int (nI b)] (dC, dI) [] [] sz) (va_Qi (fun (r : Int32) => (fun (_ : Unit) => r = nI (nB 8 a b))) (bw (dC, dI) (va_A [] sz) (fun (_ : Unit) => []) (fun (_ : Unit) => [])) (va_A [] sz)) 0 0 (va_A [] sz) := by
  refine Met.ofW (cc := cX15_stepB) (maxL := 3) (ret := (some .int)) (by decide) rfl ?_
  intro p e s m args below meth c s₁ B hml hv
  obtain ⟨rfl, hsz, hP, hK, hD0⟩ := hv
  have hx := B.exec
  have hb := B.bytes
  have hr := B.returns
  have hts := atoms_spec (ws := Cond.code yX15_stepB cX15_stepB 3 (some .int) :: tb) B.pre
  have ht : ∀ w ∈ tb, w.before _ s = true := fun w h => hts w (List.mem_cons_of_mem _ h)
  have hown : s.vm.findClass RX15 = some m.cls := findClass_of_methodNamed B.named
  have hlocks := B.notSynchronized
  subst hsz
  have hD := hD0.self (sz := s.heap.size)
  generalize hAe : va_A [] s.heap.size = A at hD ⊢
  have hA : ∀ q : Nat, s.heap.size ≤ q → A q := fun q h => by rw [← hAe]; exact Or.inr h
  have hS : va_S A s.heap s.heap [] := va_S.rf
  have hl := lv_entry ([.int 8, .int (nI a), .int (nI b)]) (n := 3) (Nat.le_of_ble_eq_true rfl)
  rw [lg_entry_eq]
  generalize (lg_sl ([.int 8, .int (nI a), .int (nI b)]) ++ List.replicate (3 - (lg_sl ([.int 8, .int (nI a), .int (nI b)])).length) Slot.unset).toArray = ls at hl ⊢
  have hl : lv_has ls 3 [(0, .int 8), (1, .int (nI a)), (2, .int (nI b))] := hl
  have hP : va_P (dC, dI) cls [] s.heap := hP
  refine lv_iload_n hx hb dX15_stepB_0 rfl (lv_at hl 0 rfl) ?_
  refine lv_tableIn (off := 106) (tgt := 107) hx hb dX15_stepB_1 (by decide) (by decide) (by decide) (by decide) ?_
  refine lv_iload_n hx hb dX15_stepB_107 rfl (lv_at hl 2 rfl) ?_
  exact W.iret (v := (nI b)) hx hb hr (fun t ht9 hW => ⟨⟨(nI b), (), rfl, (by exact sB_8 a ha b hb2), by rw [ht9]; exact hP.sub [] rfl, va_K.moved hW.alike (hK.sub [] rfl), hD.sub [] (by decide) rfl⟩, hS.F ht9⟩) hS.2.2 dX15_stepB_108
theorem sB_9 : ∀ a, a < 16 → ∀ b, b < 16 → (nI a) = nI (nB 9 a b) := by decide +kernel
set_option maxHeartbeats 4000000 in
set_option maxRecDepth 100000 in
theorem r_stepB_9 (l : Launch) (dC : Nat → ClassId) (dI : Nat → Nat → Nat) (sz : Nat) (a : Nat) (b : Nat) (ha : a < 16) (hb2 : b < 16) : Met l yX15_stepB (Cond.code yX15_stepB cX15_stepB 3 (some .int) :: tb) ({ frames := 0, cells := 0, slots := 0, locals := 60 }) (pcw [.int 9, .int (nI a), .int (nI b)] (dC, dI) [] [] sz) (va_Qi (fun (r : Int32) => (fun (_ : Unit) => r = nI (nB 9 a b))) (bw (dC, dI) (va_A [] sz) (fun (_ : Unit) => []) (fun (_ : Unit) => [])) (va_A [] sz)) 0 0 (va_A [] sz) := by
  refine Met.ofW (cc := cX15_stepB) (maxL := 3) (ret := (some .int)) (by decide) rfl ?_
  intro p e s m args below meth c s₁ B hml hv
  obtain ⟨rfl, hsz, hP, hK, hD0⟩ := hv
  have hx := B.exec
  have hb := B.bytes
  have hr := B.returns
  have hts := atoms_spec (ws := Cond.code yX15_stepB cX15_stepB 3 (some .int) :: tb) B.pre
  have ht : ∀ w ∈ tb, w.before _ s = true := fun w h => hts w (List.mem_cons_of_mem _ h)
  have hown : s.vm.findClass RX15 = some m.cls := findClass_of_methodNamed B.named
  have hlocks := B.notSynchronized
  subst hsz
  have hD := hD0.self (sz := s.heap.size)
  generalize hAe : va_A [] s.heap.size = A at hD ⊢
  have hA : ∀ q : Nat, s.heap.size ≤ q → A q := fun q h => by rw [← hAe]; exact Or.inr h
  have hS : va_S A s.heap s.heap [] := va_S.rf
  have hl := lv_entry ([.int 9, .int (nI a), .int (nI b)]) (n := 3) (Nat.le_of_ble_eq_true rfl)
  rw [lg_entry_eq]
  generalize (lg_sl ([.int 9, .int (nI a), .int (nI b)]) ++ List.replicate (3 - (lg_sl ([.int 9, .int (nI a), .int (nI b)])).length) Slot.unset).toArray = ls at hl ⊢
  have hl : lv_has ls 3 [(0, .int 9), (1, .int (nI a)), (2, .int (nI b))] := hl
  have hP : va_P (dC, dI) cls [] s.heap := hP
  refine lv_iload_n hx hb dX15_stepB_0 rfl (lv_at hl 0 rfl) ?_
  refine lv_tableIn (off := 97) (tgt := 98) hx hb dX15_stepB_1 (by decide) (by decide) (by decide) (by decide) ?_
  refine lv_iload_n hx hb dX15_stepB_98 rfl (lv_at hl 1 rfl) ?_
  exact W.iret (v := (nI a)) hx hb hr (fun t ht9 hW => ⟨⟨(nI a), (), rfl, (by exact sB_9 a ha b hb2), by rw [ht9]; exact hP.sub [] rfl, va_K.moved hW.alike (hK.sub [] rfl), hD.sub [] (by decide) rfl⟩, hS.F ht9⟩) hS.2.2 dX15_stepB_99
theorem sB_10 : ∀ a, a < 16 → ∀ b, b < 16 → (nI b) = nI (nB 10 a b) := by decide +kernel
set_option maxHeartbeats 4000000 in
set_option maxRecDepth 100000 in
theorem r_stepB_10 (l : Launch) (dC : Nat → ClassId) (dI : Nat → Nat → Nat) (sz : Nat) (a : Nat) (b : Nat) (ha : a < 16) (hb2 : b < 16) : Met l yX15_stepB (Cond.code yX15_stepB cX15_stepB 3 (some .int) :: tb) ({ frames := 0, cells := 0, slots := 0, locals := 60 }) (pcw [.int 10, .int (nI a), .int (nI b)] (dC, dI) [] [] sz) (va_Qi (fun (r : Int32) => (fun (_ : Unit) => r = nI (nB 10 a b))) (bw (dC, dI) (va_A [] sz) (fun (_ : Unit) => []) (fun (_ : Unit) => [])) (va_A [] sz)) 0 0 (va_A [] sz) := by
  refine Met.ofW (cc := cX15_stepB) (maxL := 3) (ret := (some .int)) (by decide) rfl ?_
  intro p e s m args below meth c s₁ B hml hv
  obtain ⟨rfl, hsz, hP, hK, hD0⟩ := hv
  have hx := B.exec
  have hb := B.bytes
  have hr := B.returns
  have hts := atoms_spec (ws := Cond.code yX15_stepB cX15_stepB 3 (some .int) :: tb) B.pre
  have ht : ∀ w ∈ tb, w.before _ s = true := fun w h => hts w (List.mem_cons_of_mem _ h)
  have hown : s.vm.findClass RX15 = some m.cls := findClass_of_methodNamed B.named
  have hlocks := B.notSynchronized
  subst hsz
  have hD := hD0.self (sz := s.heap.size)
  generalize hAe : va_A [] s.heap.size = A at hD ⊢
  have hA : ∀ q : Nat, s.heap.size ≤ q → A q := fun q h => by rw [← hAe]; exact Or.inr h
  have hS : va_S A s.heap s.heap [] := va_S.rf
  have hl := lv_entry ([.int 10, .int (nI a), .int (nI b)]) (n := 3) (Nat.le_of_ble_eq_true rfl)
  rw [lg_entry_eq]
  generalize (lg_sl ([.int 10, .int (nI a), .int (nI b)]) ++ List.replicate (3 - (lg_sl ([.int 10, .int (nI a), .int (nI b)])).length) Slot.unset).toArray = ls at hl ⊢
  have hl : lv_has ls 3 [(0, .int 10), (1, .int (nI a)), (2, .int (nI b))] := hl
  have hP : va_P (dC, dI) cls [] s.heap := hP
  refine lv_iload_n hx hb dX15_stepB_0 rfl (lv_at hl 0 rfl) ?_
  refine lv_tableIn (off := 106) (tgt := 107) hx hb dX15_stepB_1 (by decide) (by decide) (by decide) (by decide) ?_
  refine lv_iload_n hx hb dX15_stepB_107 rfl (lv_at hl 2 rfl) ?_
  exact W.iret (v := (nI b)) hx hb hr (fun t ht9 hW => ⟨⟨(nI b), (), rfl, (by exact sB_10 a ha b hb2), by rw [ht9]; exact hP.sub [] rfl, va_K.moved hW.alike (hK.sub [] rfl), hD.sub [] (by decide) rfl⟩, hS.F ht9⟩) hS.2.2 dX15_stepB_108
theorem sB_11 : ∀ a, a < 16 → ∀ b, b < 16 → (nI b) = nI (nB 11 a b) := by decide +kernel
set_option maxHeartbeats 4000000 in
set_option maxRecDepth 100000 in
theorem r_stepB_11 (l : Launch) (dC : Nat → ClassId) (dI : Nat → Nat → Nat) (sz : Nat) (a : Nat) (b : Nat) (ha : a < 16) (hb2 : b < 16) : Met l yX15_stepB (Cond.code yX15_stepB cX15_stepB 3 (some .int) :: tb) ({ frames := 0, cells := 0, slots := 0, locals := 60 }) (pcw [.int 11, .int (nI a), .int (nI b)] (dC, dI) [] [] sz) (va_Qi (fun (r : Int32) => (fun (_ : Unit) => r = nI (nB 11 a b))) (bw (dC, dI) (va_A [] sz) (fun (_ : Unit) => []) (fun (_ : Unit) => [])) (va_A [] sz)) 0 0 (va_A [] sz) := by
  refine Met.ofW (cc := cX15_stepB) (maxL := 3) (ret := (some .int)) (by decide) rfl ?_
  intro p e s m args below meth c s₁ B hml hv
  obtain ⟨rfl, hsz, hP, hK, hD0⟩ := hv
  have hx := B.exec
  have hb := B.bytes
  have hr := B.returns
  have hts := atoms_spec (ws := Cond.code yX15_stepB cX15_stepB 3 (some .int) :: tb) B.pre
  have ht : ∀ w ∈ tb, w.before _ s = true := fun w h => hts w (List.mem_cons_of_mem _ h)
  have hown : s.vm.findClass RX15 = some m.cls := findClass_of_methodNamed B.named
  have hlocks := B.notSynchronized
  subst hsz
  have hD := hD0.self (sz := s.heap.size)
  generalize hAe : va_A [] s.heap.size = A at hD ⊢
  have hA : ∀ q : Nat, s.heap.size ≤ q → A q := fun q h => by rw [← hAe]; exact Or.inr h
  have hS : va_S A s.heap s.heap [] := va_S.rf
  have hl := lv_entry ([.int 11, .int (nI a), .int (nI b)]) (n := 3) (Nat.le_of_ble_eq_true rfl)
  rw [lg_entry_eq]
  generalize (lg_sl ([.int 11, .int (nI a), .int (nI b)]) ++ List.replicate (3 - (lg_sl ([.int 11, .int (nI a), .int (nI b)])).length) Slot.unset).toArray = ls at hl ⊢
  have hl : lv_has ls 3 [(0, .int 11), (1, .int (nI a)), (2, .int (nI b))] := hl
  have hP : va_P (dC, dI) cls [] s.heap := hP
  refine lv_iload_n hx hb dX15_stepB_0 rfl (lv_at hl 0 rfl) ?_
  refine lv_tableIn (off := 106) (tgt := 107) hx hb dX15_stepB_1 (by decide) (by decide) (by decide) (by decide) ?_
  refine lv_iload_n hx hb dX15_stepB_107 rfl (lv_at hl 2 rfl) ?_
  exact W.iret (v := (nI b)) hx hb hr (fun t ht9 hW => ⟨⟨(nI b), (), rfl, (by exact sB_11 a ha b hb2), by rw [ht9]; exact hP.sub [] rfl, va_K.moved hW.alike (hK.sub [] rfl), hD.sub [] (by decide) rfl⟩, hS.F ht9⟩) hS.2.2 dX15_stepB_108
theorem sB_12 : ∀ a, a < 16 → ∀ b, b < 16 → (((nI b) + 1) &&& 15) = nI (nB 12 a b) := by decide +kernel
set_option maxHeartbeats 4000000 in
set_option maxRecDepth 100000 in
theorem r_stepB_12 (l : Launch) (dC : Nat → ClassId) (dI : Nat → Nat → Nat) (sz : Nat) (a : Nat) (b : Nat) (ha : a < 16) (hb2 : b < 16) : Met l yX15_stepB (Cond.code yX15_stepB cX15_stepB 3 (some .int) :: tb) ({ frames := 0, cells := 0, slots := 0, locals := 60 }) (pcw [.int 12, .int (nI a), .int (nI b)] (dC, dI) [] [] sz) (va_Qi (fun (r : Int32) => (fun (_ : Unit) => r = nI (nB 12 a b))) (bw (dC, dI) (va_A [] sz) (fun (_ : Unit) => []) (fun (_ : Unit) => [])) (va_A [] sz)) 0 0 (va_A [] sz) := by
  refine Met.ofW (cc := cX15_stepB) (maxL := 3) (ret := (some .int)) (by decide) rfl ?_
  intro p e s m args below meth c s₁ B hml hv
  obtain ⟨rfl, hsz, hP, hK, hD0⟩ := hv
  have hx := B.exec
  have hb := B.bytes
  have hr := B.returns
  have hts := atoms_spec (ws := Cond.code yX15_stepB cX15_stepB 3 (some .int) :: tb) B.pre
  have ht : ∀ w ∈ tb, w.before _ s = true := fun w h => hts w (List.mem_cons_of_mem _ h)
  have hown : s.vm.findClass RX15 = some m.cls := findClass_of_methodNamed B.named
  have hlocks := B.notSynchronized
  subst hsz
  have hD := hD0.self (sz := s.heap.size)
  generalize hAe : va_A [] s.heap.size = A at hD ⊢
  have hA : ∀ q : Nat, s.heap.size ≤ q → A q := fun q h => by rw [← hAe]; exact Or.inr h
  have hS : va_S A s.heap s.heap [] := va_S.rf
  have hl := lv_entry ([.int 12, .int (nI a), .int (nI b)]) (n := 3) (Nat.le_of_ble_eq_true rfl)
  rw [lg_entry_eq]
  generalize (lg_sl ([.int 12, .int (nI a), .int (nI b)]) ++ List.replicate (3 - (lg_sl ([.int 12, .int (nI a), .int (nI b)])).length) Slot.unset).toArray = ls at hl ⊢
  have hl : lv_has ls 3 [(0, .int 12), (1, .int (nI a)), (2, .int (nI b))] := hl
  have hP : va_P (dC, dI) cls [] s.heap := hP
  refine lv_iload_n hx hb dX15_stepB_0 rfl (lv_at hl 0 rfl) ?_
  refine lv_tableIn (off := 99) (tgt := 100) hx hb dX15_stepB_1 (by decide) (by decide) (by decide) (by decide) ?_
  refine lv_iload_n hx hb dX15_stepB_100 rfl (lv_at hl 2 rfl) ?_
  refine lv_iconst (v := 1) hx hb dX15_stepB_101 (by decide) ?_
  refine lv_iadd hx hb dX15_stepB_102 ?_
  refine lv_topi (fun x_1 ex_1 => ?_)
  refine lv_bipush (v := 15) hx hb dX15_stepB_103 (by decide) ?_
  refine lv_iand hx hb dX15_stepB_105 ?_
  refine lv_topi (fun x_2 ex_2 => ?_)
  exact W.iret (v := x_2) hx hb hr (fun t ht9 hW => ⟨⟨x_2, (), rfl, (by rw [ex_2, ex_1]; exact sB_12 a ha b hb2), by rw [ht9]; exact hP.sub [] rfl, va_K.moved hW.alike (hK.sub [] rfl), hD.sub [] (by decide) rfl⟩, hS.F ht9⟩) hS.2.2 dX15_stepB_106
theorem sB_13 : ∀ a, a < 16 → ∀ b, b < 16 → (nI b) = nI (nB 13 a b) := by decide +kernel
set_option maxHeartbeats 4000000 in
set_option maxRecDepth 100000 in
theorem r_stepB_13 (l : Launch) (dC : Nat → ClassId) (dI : Nat → Nat → Nat) (sz : Nat) (a : Nat) (b : Nat) (ha : a < 16) (hb2 : b < 16) : Met l yX15_stepB (Cond.code yX15_stepB cX15_stepB 3 (some .int) :: tb) ({ frames := 0, cells := 0, slots := 0, locals := 60 }) (pcw [.int 13, .int (nI a), .int (nI b)] (dC, dI) [] [] sz) (va_Qi (fun (r : Int32) => (fun (_ : Unit) => r = nI (nB 13 a b))) (bw (dC, dI) (va_A [] sz) (fun (_ : Unit) => []) (fun (_ : Unit) => [])) (va_A [] sz)) 0 0 (va_A [] sz) := by
  refine Met.ofW (cc := cX15_stepB) (maxL := 3) (ret := (some .int)) (by decide) rfl ?_
  intro p e s m args below meth c s₁ B hml hv
  obtain ⟨rfl, hsz, hP, hK, hD0⟩ := hv
  have hx := B.exec
  have hb := B.bytes
  have hr := B.returns
  have hts := atoms_spec (ws := Cond.code yX15_stepB cX15_stepB 3 (some .int) :: tb) B.pre
  have ht : ∀ w ∈ tb, w.before _ s = true := fun w h => hts w (List.mem_cons_of_mem _ h)
  have hown : s.vm.findClass RX15 = some m.cls := findClass_of_methodNamed B.named
  have hlocks := B.notSynchronized
  subst hsz
  have hD := hD0.self (sz := s.heap.size)
  generalize hAe : va_A [] s.heap.size = A at hD ⊢
  have hA : ∀ q : Nat, s.heap.size ≤ q → A q := fun q h => by rw [← hAe]; exact Or.inr h
  have hS : va_S A s.heap s.heap [] := va_S.rf
  have hl := lv_entry ([.int 13, .int (nI a), .int (nI b)]) (n := 3) (Nat.le_of_ble_eq_true rfl)
  rw [lg_entry_eq]
  generalize (lg_sl ([.int 13, .int (nI a), .int (nI b)]) ++ List.replicate (3 - (lg_sl ([.int 13, .int (nI a), .int (nI b)])).length) Slot.unset).toArray = ls at hl ⊢
  have hl : lv_has ls 3 [(0, .int 13), (1, .int (nI a)), (2, .int (nI b))] := hl
  have hP : va_P (dC, dI) cls [] s.heap := hP
  refine lv_iload_n hx hb dX15_stepB_0 rfl (lv_at hl 0 rfl) ?_
  refine lv_tableIn (off := 106) (tgt := 107) hx hb dX15_stepB_1 (by decide) (by decide) (by decide) (by decide) ?_
  refine lv_iload_n hx hb dX15_stepB_107 rfl (lv_at hl 2 rfl) ?_
  exact W.iret (v := (nI b)) hx hb hr (fun t ht9 hW => ⟨⟨(nI b), (), rfl, (by exact sB_13 a ha b hb2), by rw [ht9]; exact hP.sub [] rfl, va_K.moved hW.alike (hK.sub [] rfl), hD.sub [] (by decide) rfl⟩, hS.F ht9⟩) hS.2.2 dX15_stepB_108
theorem sB_14 : ∀ a, a < 16 → ∀ b, b < 16 → (nI b) = nI (nB 14 a b) := by decide +kernel
set_option maxHeartbeats 4000000 in
set_option maxRecDepth 100000 in
theorem r_stepB_14 (l : Launch) (dC : Nat → ClassId) (dI : Nat → Nat → Nat) (sz : Nat) (a : Nat) (b : Nat) (ha : a < 16) (hb2 : b < 16) : Met l yX15_stepB (Cond.code yX15_stepB cX15_stepB 3 (some .int) :: tb) ({ frames := 0, cells := 0, slots := 0, locals := 60 }) (pcw [.int 14, .int (nI a), .int (nI b)] (dC, dI) [] [] sz) (va_Qi (fun (r : Int32) => (fun (_ : Unit) => r = nI (nB 14 a b))) (bw (dC, dI) (va_A [] sz) (fun (_ : Unit) => []) (fun (_ : Unit) => [])) (va_A [] sz)) 0 0 (va_A [] sz) := by
  refine Met.ofW (cc := cX15_stepB) (maxL := 3) (ret := (some .int)) (by decide) rfl ?_
  intro p e s m args below meth c s₁ B hml hv
  obtain ⟨rfl, hsz, hP, hK, hD0⟩ := hv
  have hx := B.exec
  have hb := B.bytes
  have hr := B.returns
  have hts := atoms_spec (ws := Cond.code yX15_stepB cX15_stepB 3 (some .int) :: tb) B.pre
  have ht : ∀ w ∈ tb, w.before _ s = true := fun w h => hts w (List.mem_cons_of_mem _ h)
  have hown : s.vm.findClass RX15 = some m.cls := findClass_of_methodNamed B.named
  have hlocks := B.notSynchronized
  subst hsz
  have hD := hD0.self (sz := s.heap.size)
  generalize hAe : va_A [] s.heap.size = A at hD ⊢
  have hA : ∀ q : Nat, s.heap.size ≤ q → A q := fun q h => by rw [← hAe]; exact Or.inr h
  have hS : va_S A s.heap s.heap [] := va_S.rf
  have hl := lv_entry ([.int 14, .int (nI a), .int (nI b)]) (n := 3) (Nat.le_of_ble_eq_true rfl)
  rw [lg_entry_eq]
  generalize (lg_sl ([.int 14, .int (nI a), .int (nI b)]) ++ List.replicate (3 - (lg_sl ([.int 14, .int (nI a), .int (nI b)])).length) Slot.unset).toArray = ls at hl ⊢
  have hl : lv_has ls 3 [(0, .int 14), (1, .int (nI a)), (2, .int (nI b))] := hl
  have hP : va_P (dC, dI) cls [] s.heap := hP
  refine lv_iload_n hx hb dX15_stepB_0 rfl (lv_at hl 0 rfl) ?_
  refine lv_tableIn (off := 106) (tgt := 107) hx hb dX15_stepB_1 (by decide) (by decide) (by decide) (by decide) ?_
  refine lv_iload_n hx hb dX15_stepB_107 rfl (lv_at hl 2 rfl) ?_
  exact W.iret (v := (nI b)) hx hb hr (fun t ht9 hW => ⟨⟨(nI b), (), rfl, (by exact sB_14 a ha b hb2), by rw [ht9]; exact hP.sub [] rfl, va_K.moved hW.alike (hK.sub [] rfl), hD.sub [] (by decide) rfl⟩, hS.F ht9⟩) hS.2.2 dX15_stepB_108
theorem sB_15 : ∀ a, a < 16 → ∀ b, b < 16 → (nI a) = nI (nB 15 a b) := by decide +kernel
set_option maxHeartbeats 4000000 in
set_option maxRecDepth 100000 in
theorem r_stepB_15 (l : Launch) (dC : Nat → ClassId) (dI : Nat → Nat → Nat) (sz : Nat) (a : Nat) (b : Nat) (ha : a < 16) (hb2 : b < 16) : Met l yX15_stepB (Cond.code yX15_stepB cX15_stepB 3 (some .int) :: tb) ({ frames := 0, cells := 0, slots := 0, locals := 60 }) (pcw [.int 15, .int (nI a), .int (nI b)] (dC, dI) [] [] sz) (va_Qi (fun (r : Int32) => (fun (_ : Unit) => r = nI (nB 15 a b))) (bw (dC, dI) (va_A [] sz) (fun (_ : Unit) => []) (fun (_ : Unit) => [])) (va_A [] sz)) 0 0 (va_A [] sz) := by
  refine Met.ofW (cc := cX15_stepB) (maxL := 3) (ret := (some .int)) (by decide) rfl ?_
  intro p e s m args below meth c s₁ B hml hv
  obtain ⟨rfl, hsz, hP, hK, hD0⟩ := hv
  have hx := B.exec
  have hb := B.bytes
  have hr := B.returns
  have hts := atoms_spec (ws := Cond.code yX15_stepB cX15_stepB 3 (some .int) :: tb) B.pre
  have ht : ∀ w ∈ tb, w.before _ s = true := fun w h => hts w (List.mem_cons_of_mem _ h)
  have hown : s.vm.findClass RX15 = some m.cls := findClass_of_methodNamed B.named
  have hlocks := B.notSynchronized
  subst hsz
  have hD := hD0.self (sz := s.heap.size)
  generalize hAe : va_A [] s.heap.size = A at hD ⊢
  have hA : ∀ q : Nat, s.heap.size ≤ q → A q := fun q h => by rw [← hAe]; exact Or.inr h
  have hS : va_S A s.heap s.heap [] := va_S.rf
  have hl := lv_entry ([.int 15, .int (nI a), .int (nI b)]) (n := 3) (Nat.le_of_ble_eq_true rfl)
  rw [lg_entry_eq]
  generalize (lg_sl ([.int 15, .int (nI a), .int (nI b)]) ++ List.replicate (3 - (lg_sl ([.int 15, .int (nI a), .int (nI b)])).length) Slot.unset).toArray = ls at hl ⊢
  have hl : lv_has ls 3 [(0, .int 15), (1, .int (nI a)), (2, .int (nI b))] := hl
  have hP : va_P (dC, dI) cls [] s.heap := hP
  refine lv_iload_n hx hb dX15_stepB_0 rfl (lv_at hl 0 rfl) ?_
  refine lv_tableIn (off := 97) (tgt := 98) hx hb dX15_stepB_1 (by decide) (by decide) (by decide) (by decide) ?_
  refine lv_iload_n hx hb dX15_stepB_98 rfl (lv_at hl 1 rfl) ?_
  exact W.iret (v := (nI a)) hx hb hr (fun t ht9 hW => ⟨⟨(nI a), (), rfl, (by exact sB_15 a ha b hb2), by rw [ht9]; exact hP.sub [] rfl, va_K.moved hW.alike (hK.sub [] rfl), hD.sub [] (by decide) rfl⟩, hS.F ht9⟩) hS.2.2 dX15_stepB_99
theorem sB_16 : ∀ a, a < 16 → ∀ b, b < 16 → (nI b) = nI (nB 16 a b) := by decide +kernel
set_option maxHeartbeats 4000000 in
set_option maxRecDepth 100000 in
theorem r_stepB_16 (l : Launch) (dC : Nat → ClassId) (dI : Nat → Nat → Nat) (sz : Nat) (a : Nat) (b : Nat) (ha : a < 16) (hb2 : b < 16) : Met l yX15_stepB (Cond.code yX15_stepB cX15_stepB 3 (some .int) :: tb) ({ frames := 0, cells := 0, slots := 0, locals := 60 }) (pcw [.int 16, .int (nI a), .int (nI b)] (dC, dI) [] [] sz) (va_Qi (fun (r : Int32) => (fun (_ : Unit) => r = nI (nB 16 a b))) (bw (dC, dI) (va_A [] sz) (fun (_ : Unit) => []) (fun (_ : Unit) => [])) (va_A [] sz)) 0 0 (va_A [] sz) := by
  refine Met.ofW (cc := cX15_stepB) (maxL := 3) (ret := (some .int)) (by decide) rfl ?_
  intro p e s m args below meth c s₁ B hml hv
  obtain ⟨rfl, hsz, hP, hK, hD0⟩ := hv
  have hx := B.exec
  have hb := B.bytes
  have hr := B.returns
  have hts := atoms_spec (ws := Cond.code yX15_stepB cX15_stepB 3 (some .int) :: tb) B.pre
  have ht : ∀ w ∈ tb, w.before _ s = true := fun w h => hts w (List.mem_cons_of_mem _ h)
  have hown : s.vm.findClass RX15 = some m.cls := findClass_of_methodNamed B.named
  have hlocks := B.notSynchronized
  subst hsz
  have hD := hD0.self (sz := s.heap.size)
  generalize hAe : va_A [] s.heap.size = A at hD ⊢
  have hA : ∀ q : Nat, s.heap.size ≤ q → A q := fun q h => by rw [← hAe]; exact Or.inr h
  have hS : va_S A s.heap s.heap [] := va_S.rf
  have hl := lv_entry ([.int 16, .int (nI a), .int (nI b)]) (n := 3) (Nat.le_of_ble_eq_true rfl)
  rw [lg_entry_eq]
  generalize (lg_sl ([.int 16, .int (nI a), .int (nI b)]) ++ List.replicate (3 - (lg_sl ([.int 16, .int (nI a), .int (nI b)])).length) Slot.unset).toArray = ls at hl ⊢
  have hl : lv_has ls 3 [(0, .int 16), (1, .int (nI a)), (2, .int (nI b))] := hl
  have hP : va_P (dC, dI) cls [] s.heap := hP
  refine lv_iload_n hx hb dX15_stepB_0 rfl (lv_at hl 0 rfl) ?_
  refine lv_tableOut (tgt := 107) hx hb dX15_stepB_1 (by decide) (by decide) ?_
  refine lv_iload_n hx hb dX15_stepB_107 rfl (lv_at hl 2 rfl) ?_
  exact W.iret (v := (nI b)) hx hb hr (fun t ht9 hW => ⟨⟨(nI b), (), rfl, (by exact sB_16 a ha b hb2), by rw [ht9]; exact hP.sub [] rfl, va_K.moved hW.alike (hK.sub [] rfl), hD.sub [] (by decide) rfl⟩, hS.F ht9⟩) hS.2.2 dX15_stepB_108
theorem sB_17 : ∀ a, a < 16 → ∀ b, b < 16 → (nI b) = nI (nB 17 a b) := by decide +kernel
set_option maxHeartbeats 4000000 in
set_option maxRecDepth 100000 in
theorem r_stepB_17 (l : Launch) (dC : Nat → ClassId) (dI : Nat → Nat → Nat) (sz : Nat) (a : Nat) (b : Nat) (ha : a < 16) (hb2 : b < 16) : Met l yX15_stepB (Cond.code yX15_stepB cX15_stepB 3 (some .int) :: tb) ({ frames := 0, cells := 0, slots := 0, locals := 60 }) (pcw [.int 17, .int (nI a), .int (nI b)] (dC, dI) [] [] sz) (va_Qi (fun (r : Int32) => (fun (_ : Unit) => r = nI (nB 17 a b))) (bw (dC, dI) (va_A [] sz) (fun (_ : Unit) => []) (fun (_ : Unit) => [])) (va_A [] sz)) 0 0 (va_A [] sz) := by
  refine Met.ofW (cc := cX15_stepB) (maxL := 3) (ret := (some .int)) (by decide) rfl ?_
  intro p e s m args below meth c s₁ B hml hv
  obtain ⟨rfl, hsz, hP, hK, hD0⟩ := hv
  have hx := B.exec
  have hb := B.bytes
  have hr := B.returns
  have hts := atoms_spec (ws := Cond.code yX15_stepB cX15_stepB 3 (some .int) :: tb) B.pre
  have ht : ∀ w ∈ tb, w.before _ s = true := fun w h => hts w (List.mem_cons_of_mem _ h)
  have hown : s.vm.findClass RX15 = some m.cls := findClass_of_methodNamed B.named
  have hlocks := B.notSynchronized
  subst hsz
  have hD := hD0.self (sz := s.heap.size)
  generalize hAe : va_A [] s.heap.size = A at hD ⊢
  have hA : ∀ q : Nat, s.heap.size ≤ q → A q := fun q h => by rw [← hAe]; exact Or.inr h
  have hS : va_S A s.heap s.heap [] := va_S.rf
  have hl := lv_entry ([.int 17, .int (nI a), .int (nI b)]) (n := 3) (Nat.le_of_ble_eq_true rfl)
  rw [lg_entry_eq]
  generalize (lg_sl ([.int 17, .int (nI a), .int (nI b)]) ++ List.replicate (3 - (lg_sl ([.int 17, .int (nI a), .int (nI b)])).length) Slot.unset).toArray = ls at hl ⊢
  have hl : lv_has ls 3 [(0, .int 17), (1, .int (nI a)), (2, .int (nI b))] := hl
  have hP : va_P (dC, dI) cls [] s.heap := hP
  refine lv_iload_n hx hb dX15_stepB_0 rfl (lv_at hl 0 rfl) ?_
  refine lv_tableOut (tgt := 107) hx hb dX15_stepB_1 (by decide) (by decide) ?_
  refine lv_iload_n hx hb dX15_stepB_107 rfl (lv_at hl 2 rfl) ?_
  exact W.iret (v := (nI b)) hx hb hr (fun t ht9 hW => ⟨⟨(nI b), (), rfl, (by exact sB_17 a ha b hb2), by rw [ht9]; exact hP.sub [] rfl, va_K.moved hW.alike (hK.sub [] rfl), hD.sub [] (by decide) rfl⟩, hS.F ht9⟩) hS.2.2 dX15_stepB_108
theorem r_stepB (l : Launch) (dC : Nat → ClassId) (dI : Nat → Nat → Nat) (sz : Nat) (j : Nat) (a : Nat) (b : Nat) (hj : j < 18) (ha : a < 16) (hb2 : b < 16) : Met l yX15_stepB (Cond.code yX15_stepB cX15_stepB 3 (some .int) :: tb) ({ frames := 0, cells := 0, slots := 0, locals := 60 }) (pcw [.int (nI j), .int (nI a), .int (nI b)] (dC, dI) [] [] sz) (va_Qi (fun (r : Int32) => (fun (_ : Unit) => r = nI (nB j a b))) (bw (dC, dI) (va_A [] sz) (fun (_ : Unit) => []) (fun (_ : Unit) => [])) (va_A [] sz)) 0 0 (va_A [] sz) := by
  match j, hj with
  | 0, _ => exact r_stepB_0 l dC dI sz a b ha hb2
  | 1, _ => exact r_stepB_1 l dC dI sz a b ha hb2
  | 2, _ => exact r_stepB_2 l dC dI sz a b ha hb2
  | 3, _ => exact r_stepB_3 l dC dI sz a b ha hb2
  | 4, _ => exact r_stepB_4 l dC dI sz a b ha hb2
  | 5, _ => exact r_stepB_5 l dC dI sz a b ha hb2
  | 6, _ => exact r_stepB_6 l dC dI sz a b ha hb2
  | 7, _ => exact r_stepB_7 l dC dI sz a b ha hb2
  | 8, _ => exact r_stepB_8 l dC dI sz a b ha hb2
  | 9, _ => exact r_stepB_9 l dC dI sz a b ha hb2
  | 10, _ => exact r_stepB_10 l dC dI sz a b ha hb2
  | 11, _ => exact r_stepB_11 l dC dI sz a b ha hb2
  | 12, _ => exact r_stepB_12 l dC dI sz a b ha hb2
  | 13, _ => exact r_stepB_13 l dC dI sz a b ha hb2
  | 14, _ => exact r_stepB_14 l dC dI sz a b ha hb2
  | 15, _ => exact r_stepB_15 l dC dI sz a b ha hb2
  | 16, _ => exact r_stepB_16 l dC dI sz a b ha hb2
  | 17, _ => exact r_stepB_17 l dC dI sz a b ha hb2
  | n + 18, h => exact absurd h (by omega)
theorem nib_lt : ∀ j a b, j < 18 → a < 16 → b < 16 → nA j a b < 16 ∧ nB j a b < 16 := by
  intro j a b hj ha hb
  have h : ∀ j, j < 18 → ∀ a, a < 16 → ∀ b, b < 16 → nA j a b < 16 ∧ nB j a b < 16 := by decide +kernel
  exact h j hj a ha b hb
theorem upd_all {f g h : Nat → Int32} {i : Nat} {v : Int32} (hi : i < 2 ^ 31) (e : g = upd f (nI i).toNatClampNeg v) (hf : ∀ j, j < i → f j = h j) (hv : v = h i) : ∀ j, j < i + 1 → g j = h j := by
  intro j hj
  rw [e, nI_clamp hi]
  rcases Nat.lt_or_ge j i with h9 | h9
  · rw [pk_un (by omega)]; exact hf j h9
  · have e9 : j = i := by omega
    subst e9
    rw [pk_us]; exact hv
theorem lt16 {i : Nat} (hi : i ≤ 16) (h : ¬ 16 ≤ nI i) : i < 16 := by
  rcases Nat.lt_or_ge i 16 with h1 | h1
  · exact h1
  · exact absurd (show nI 16 ≤ nI i from nI_le h1 (by omega)) h
theorem eq16 {i : Nat} (hi : i ≤ 16) (h : 16 ≤ nI i) : i = 16 := ge_of hi (by decide) (show nI 16 ≤ nI i from h)
set_option maxHeartbeats 4000000 in
set_option maxRecDepth 100000 in
theorem r_goalOf (l : Launch) (dC : Nat → ClassId) (dI : Nat → Nat → Nat) (sz : Nat) (q : Nat) (fs : List Value) (r0 : Nat) (cy : ClassId) (f0 : Nat → Int32) (a : Int64) (L_fs : fs.length = 163) (hf0 : ∀ j, j < 16 → f0 j = nI (lane (uN a) j)) : Met l yX15_goalOf (Cond.code yX15_goalOf cX15_goalOf 5 (some .long) :: tb) ({ frames := 0, cells := 0, slots := 0, locals := 0 }) (pcw [.ref q, .ref r0] (dC, dI) [(q, .inr (15, fs)), (r0, .inl (cy, 16, .inl f0))] [(cy, .int)] sz) (va_Ql (fun (r : Int64) => (fun (_ : Unit) => r = a)) (bw (dC, dI) (va_A [(q, .inr (15, fs)), (r0, .inl (cy, 16, .inl f0))] sz) (fun (_ : Unit) => []) (fun (_ : Unit) => [])) (va_A [(q, .inr (15, fs)), (r0, .inl (cy, 16, .inl f0))] sz)) 0 0 (va_A [(q, .inr (15, fs)), (r0, .inl (cy, 16, .inl f0))] sz) := by
  refine Met.ofW (cc := cX15_goalOf) (maxL := 5) (ret := (some .long)) (by decide) rfl ?_
  intro p e s m args below meth c s₁ B hml hv
  obtain ⟨rfl, hsz, hP, hK, hD0⟩ := hv
  have hx := B.exec
  have hb := B.bytes
  have hr := B.returns
  have hts := atoms_spec (ws := Cond.code yX15_goalOf cX15_goalOf 5 (some .long) :: tb) B.pre
  have ht : ∀ w ∈ tb, w.before _ s = true := fun w h => hts w (List.mem_cons_of_mem _ h)
  have hown : s.vm.findClass RX15 = some m.cls := findClass_of_methodNamed B.named
  have hlocks := B.notSynchronized
  subst hsz
  have hD := hD0.self (sz := s.heap.size)
  generalize hAe : va_A [(q, .inr (15, fs)), (r0, .inl (cy, 16, .inl f0))] s.heap.size = A at hD ⊢
  have hA : ∀ q : Nat, s.heap.size ≤ q → A q := fun q h => by rw [← hAe]; exact Or.inr h
  have hS : va_S A s.heap s.heap [] := va_S.rf
  have hl := lv_entry ([.ref q, .ref r0]) (n := 5) (Nat.le_of_ble_eq_true rfl)
  rw [lg_entry_eq]
  generalize (lg_sl ([.ref q, .ref r0]) ++ List.replicate (5 - (lg_sl ([.ref q, .ref r0])).length) Slot.unset).toArray = ls at hl ⊢
  have hl : lv_has ls 5 [(0, .ref q), (1, .ref r0)] := hl
  have hP : va_P (dC, dI) cls [(q, .inr (15, fs)), (r0, .inl (cy, 16, .inl f0))] s.heap := hP
  refine lv_lconst (v := 0) hx hb dX15_goalOf_0 (by decide) ?_
  refine lv_lstore_n (lv' := [(2, .long 0), (0, .ref q), (1, .ref r0)]) hx hb dX15_goalOf_1 rfl hl (by decide) rfl (fun ls hl => ?_)
  refine lv_iconst (v := 0) hx hb dX15_goalOf_2 (by decide) ?_
  refine lv_istore (lv' := [(4, .int 0), (2, .long 0), (0, .ref q), (1, .ref r0)]) hx hb dX15_goalOf_3 hl (by decide) rfl (fun ls hl => ?_)
  refine lp_rule (fun H locs ls => W p l e _ s m _ below meth c H locs _ _ _ (F0 m 5 ls [])) (fun (z : Nat × Int64) H locs ls => match z with | (i, g) => va_P (dC, dI) cls [(q, .inr (15, fs)), (r0, .inl (cy, 16, .inl f0))] H ∧ va_D A [(q, .inr (15, fs)), (r0, .inl (cy, 16, .inl f0))] ∧ va_S A s.heap H locs ∧ lv_has ls 5 [(4, .int (nI i)), (2, .long g), (1, .ref r0), (0, .ref q)] ∧ True ∧ i ≤ 16 ∧ ∀ j, j < 16 → lane (uN g) j = if j < i then lane (uN a) j else 0) (fun (z : Nat × Int64) => match z with | (i, g) => 16 - i) ?_ (0, 0) s.heap [] ls ⟨hP, hD, hS, lv_sub hl [0, 1, 3, 2] rfl, trivial, (by decide), (lor_0 _)⟩
  intro z H locs ls hI ih5
  obtain ⟨i, g⟩ := z
  obtain ⟨hP, hD, hS, hl, -, hi, hg⟩ := hI
  have hP : va_P (dC, dI) cls [(q, .inr (15, fs)), (r0, .inl (cy, 16, .inl f0))] H := hP
  have hD : va_D A [(q, .inr (15, fs)), (r0, .inl (cy, 16, .inl f0))] := hD
  have hl : lv_has ls 5 [(4, .int (nI i)), (2, .long g), (1, .ref r0), (0, .ref q)] := hl
  refine lv_iload hx hb dX15_goalOf_5 (lv_at hl 0 rfl) ?_
  refine lv_bipush (v := 16) hx hb dX15_goalOf_7 (by decide) ?_
  refine lv_icmp_ge (tgt := 31) hx hb dX15_goalOf_9 (by decide) (fun b_1 => ?_) (fun b_1 => ?_)
  · refine lv_lload_n hx hb dX15_goalOf_31 rfl (lv_at hl 1 rfl) ?_
    exact W.lret (v := g) hx hb hr (fun t ht9 hW => ⟨⟨g, (), rfl, (lor_end (by have e := eq16 hi b_1; rw [e] at hg; exact hg)), by rw [ht9]; exact hP.sub [] rfl, va_K.moved hW.alike (hK.sub [] rfl), hD.sub [] (by decide) rfl⟩, hS.F ht9⟩) hS.2.2 dX15_goalOf_32
  · have hi16 : i < 16 := lt16 hi b_1
    refine lv_lload_n hx hb dX15_goalOf_12 rfl (lv_at hl 1 rfl) ?_
    refine lv_aload_n hx hb dX15_goalOf_13 rfl (lv_at hl 2 rfl) ?_
    refine lv_iload hx hb dX15_goalOf_14 (lv_at hl 0 rfl) ?_
    refine va_iald hx hb hK hP 1 0 rfl rfl (vp_in_nI (by omega) (by decide)) dX15_goalOf_16 ?_
    refine tk_i (y := (nI (lane (uN a) i))) (by rw [nI_clamp (by omega)]; exact hf0 i hi16) ?_
    refine lv_i2l hx hb dX15_goalOf_17 rfl ?_
    refine lv_topl (fun x_2 ex_2 => ?_)
    refine lv_iconst (v := 4) hx hb dX15_goalOf_18 (by decide) ?_
    refine lv_iload hx hb dX15_goalOf_19 (lv_at hl 0 rfl) ?_
    refine lv_imul hx hb dX15_goalOf_21 ?_
    refine tk_i (y := (nI (4 * i))) (pk_mul 4 i) ?_
    refine lv_lshl hx hb dX15_goalOf_22 rfl ?_
    refine lv_topl (fun x_3 ex_3 => ?_)
    refine lv_lor hx hb dX15_goalOf_23 ?_
    refine lv_topl (fun x_4 ex_4 => ?_)
    refine lv_lstore_n (lv' := [(2, .long x_4), (4, .int (nI i)), (1, .ref r0), (0, .ref q)]) hx hb dX15_goalOf_24 rfl hl (by decide) rfl (fun ls hl => ?_)
    refine lv_iinc (v := (nI (i + 1))) (lv' := [(4, .int (nI (i + 1))), (2, .long x_4), (1, .ref r0), (0, .ref q)]) hx hb dX15_goalOf_25 hl (k := 1) rfl (nI_1 i) (by decide) rfl (fun ls hl => ?_)
    refine lv_goto (tgt := 5) hx hb dX15_goalOf_28 (by decide) ?_
    exact ih5 (i + 1, x_4) H locs ls (show 16 - (i + 1) < 16 - i by omega) ⟨hP.sub [0, 1] rfl, hD.sub [0, 1] (by decide) rfl, hS, lv_sub hl [0, 1, 2, 3] rfl, trivial, (by omega), (by rw [ex_4, ex_3, ex_2]; exact lor_step (f := fun j => lane (uN a) j) hi16 (lane_lt _ _) hg)⟩
set_option maxHeartbeats 4000000 in
set_option maxRecDepth 100000 in
theorem r_inputs (l : Launch) (dC : Nat → ClassId) (dI : Nat → Nat → Nat) (sz : Nat) (q : Nat) (fs : List Value) (r0 : Nat) (r1 : Nat) (cy : ClassId) (f0 : Nat → Int32) (f1 : Nat → Int32) (L_fs : fs.length = 163) : Met l yX15_inputs_ (Cond.code yX15_inputs_ cX15_inputs_ 4 none :: tb) ({ frames := 0, cells := 0, slots := 0, locals := 0 }) (pcw [.ref q, .ref r0, .ref r1] (dC, dI) [(q, .inr (15, fs)), (r0, .inl (cy, 16, .inl f0)), (r1, .inl (cy, 16, .inl f1))] [(cy, .int), (cy, .int)] sz) (va_Qv (fun (u : (Nat → Int32) × (Nat → Int32)) => match u with | (x, y) => (∀ j, j < 16 → x j = nI (lane (uN INP) j)) ∧ (∀ j, j < 16 → y j = nI (lane (uN 0) j))) (bw (dC, dI) (va_A [(q, .inr (15, fs)), (r0, .inl (cy, 16, .inl f0)), (r1, .inl (cy, 16, .inl f1))] sz) (fun (u : (Nat → Int32) × (Nat → Int32)) => match u with | (x, y) => [(q, .inr (15, fs)), (r0, .inl (cy, 16, .inl x)), (r1, .inl (cy, 16, .inl y))]) (fun (u : (Nat → Int32) × (Nat → Int32)) => match u with | (x, y) => [])) (va_A [(q, .inr (15, fs)), (r0, .inl (cy, 16, .inl f0)), (r1, .inl (cy, 16, .inl f1))] sz)) 0 0 (va_A [(q, .inr (15, fs)), (r0, .inl (cy, 16, .inl f0)), (r1, .inl (cy, 16, .inl f1))] sz) := by
  refine Met.ofW (cc := cX15_inputs_) (maxL := 4) (ret := none) (by decide) rfl ?_
  intro p e s m args below meth c s₁ B hml hv
  obtain ⟨rfl, hsz, hP, hK, hD0⟩ := hv
  have hx := B.exec
  have hb := B.bytes
  have hr := B.returns
  have hts := atoms_spec (ws := Cond.code yX15_inputs_ cX15_inputs_ 4 none :: tb) B.pre
  have ht : ∀ w ∈ tb, w.before _ s = true := fun w h => hts w (List.mem_cons_of_mem _ h)
  have hown : s.vm.findClass RX15 = some m.cls := findClass_of_methodNamed B.named
  have hlocks := B.notSynchronized
  subst hsz
  have hD := hD0.self (sz := s.heap.size)
  generalize hAe : va_A [(q, .inr (15, fs)), (r0, .inl (cy, 16, .inl f0)), (r1, .inl (cy, 16, .inl f1))] s.heap.size = A at hD ⊢
  have hA : ∀ q : Nat, s.heap.size ≤ q → A q := fun q h => by rw [← hAe]; exact Or.inr h
  have hS : va_S A s.heap s.heap [] := va_S.rf
  have hl := lv_entry ([.ref q, .ref r0, .ref r1]) (n := 4) (Nat.le_of_ble_eq_true rfl)
  rw [lg_entry_eq]
  generalize (lg_sl ([.ref q, .ref r0, .ref r1]) ++ List.replicate (4 - (lg_sl ([.ref q, .ref r0, .ref r1])).length) Slot.unset).toArray = ls at hl ⊢
  have hl : lv_has ls 4 [(0, .ref q), (1, .ref r0), (2, .ref r1)] := hl
  have hP : va_P (dC, dI) cls [(q, .inr (15, fs)), (r0, .inl (cy, 16, .inl f0)), (r1, .inl (cy, 16, .inl f1))] s.heap := hP
  refine lv_iconst (v := 0) hx hb dX15_inputs__0 (by decide) ?_
  refine lv_istore_n (lv' := [(3, .int 0), (0, .ref q), (1, .ref r0), (2, .ref r1)]) hx hb dX15_inputs__1 rfl hl (by decide) rfl (fun ls hl => ?_)
  refine lp_rule (fun H locs ls => W p l e _ s m _ below meth c H locs _ _ _ (F0 m 2 ls [])) (fun (z : Nat × (Nat → Int32) × (Nat → Int32)) H locs ls => match z with | (i, x, y) => va_P (dC, dI) cls [(q, .inr (15, fs)), (r0, .inl (cy, 16, .inl x)), (r1, .inl (cy, 16, .inl y))] H ∧ va_D A [(q, .inr (15, fs)), (r0, .inl (cy, 16, .inl x)), (r1, .inl (cy, 16, .inl y))] ∧ va_S A s.heap H locs ∧ lv_has ls 4 [(3, .int (nI i)), (2, .ref r1), (1, .ref r0), (0, .ref q)] ∧ True ∧ i ≤ 16 ∧ (∀ j, j < i → x j = nI j) ∧ ∀ j, j < i → y j = nI 0) (fun (z : Nat × (Nat → Int32) × (Nat → Int32)) => match z with | (i, x, y) => 16 - i) ?_ (0, f0, f1) s.heap [] ls ⟨hP, hD, hS, lv_sub hl [0, 3, 2, 1] rfl, trivial, (by decide), (fun j hj => absurd hj (Nat.not_lt_zero _)), (fun j hj => absurd hj (Nat.not_lt_zero _))⟩
  intro z H locs ls hI ih2
  obtain ⟨i, x, y⟩ := z
  obtain ⟨hP, hD, hS, hl, -, hi, hx9, hy9⟩ := hI
  have hP : va_P (dC, dI) cls [(q, .inr (15, fs)), (r0, .inl (cy, 16, .inl x)), (r1, .inl (cy, 16, .inl y))] H := hP
  have hD : va_D A [(q, .inr (15, fs)), (r0, .inl (cy, 16, .inl x)), (r1, .inl (cy, 16, .inl y))] := hD
  have hl : lv_has ls 4 [(3, .int (nI i)), (2, .ref r1), (1, .ref r0), (0, .ref q)] := hl
  refine lv_iload_n hx hb dX15_inputs__2 rfl (lv_at hl 0 rfl) ?_
  refine lv_bipush (v := 16) hx hb dX15_inputs__3 (by decide) ?_
  refine lv_icmp_ge (tgt := 22) hx hb dX15_inputs__5 (by decide) (fun b_1 => ?_) (fun b_1 => ?_)
  · exact W.vret hx hb hr (fun t ht9 hW => ⟨⟨(x, y), rfl, ⟨fun j hj => by rw [lane_INP j hj]; exact hx9 j (by have := eq16 hi b_1; omega), fun j hj => by rw [hy9 j (by have := eq16 hi b_1; omega)]; show nI 0 = nI (lane (uN 0) j); have e0 : uN 0 = 0 := (by decide); rw [e0]; simp [lane]⟩, by rw [ht9]; exact hP.sub [0, 1, 2] rfl, va_K.moved hW.alike (hK.sub [] rfl), hD.sub [0, 1, 2] (by decide) rfl⟩, hS.F ht9⟩) hS.2.2 dX15_inputs__22
  · have hi16 : i < 16 := lt16 hi b_1
    refine lv_aload_n hx hb dX15_inputs__8 rfl (lv_at hl 2 rfl) ?_
    refine lv_iload_n hx hb dX15_inputs__9 rfl (lv_at hl 0 rfl) ?_
    refine lv_iload_n hx hb dX15_inputs__10 rfl (lv_at hl 0 rfl) ?_
    refine va_iast (i := (nI i)) (x := (nI i)) hx hb hK hP hD hS 1 0 rfl rfl (vp_in_nI (by omega) (by decide)) dX15_inputs__11 (fun H locs hP hD hS => ?_)
    obtain ⟨f_2, ef_2⟩ : ∃ g : Nat → Int32, g = upd x (nI i).toNatClampNeg (nI i) := ⟨_, rfl⟩
    rw [← ef_2] at hP hD
    have hP : va_P (dC, dI) cls [(q, .inr (15, fs)), (r0, .inl (cy, 16, .inl f_2)), (r1, .inl (cy, 16, .inl y))] H := hP
    have hD : va_D A [(q, .inr (15, fs)), (r0, .inl (cy, 16, .inl f_2)), (r1, .inl (cy, 16, .inl y))] := hD
    refine lv_aload_n hx hb dX15_inputs__12 rfl (lv_at hl 1 rfl) ?_
    refine lv_iload_n hx hb dX15_inputs__13 rfl (lv_at hl 0 rfl) ?_
    refine lv_iconst (v := 0) hx hb dX15_inputs__14 (by decide) ?_
    refine va_iast (i := (nI i)) (x := 0) hx hb hK hP hD hS 2 0 rfl rfl (vp_in_nI (by omega) (by decide)) dX15_inputs__15 (fun H locs hP hD hS => ?_)
    obtain ⟨f_3, ef_3⟩ : ∃ g : Nat → Int32, g = upd y (nI i).toNatClampNeg 0 := ⟨_, rfl⟩
    rw [← ef_3] at hP hD
    have hP : va_P (dC, dI) cls [(q, .inr (15, fs)), (r0, .inl (cy, 16, .inl f_2)), (r1, .inl (cy, 16, .inl f_3))] H := hP
    have hD : va_D A [(q, .inr (15, fs)), (r0, .inl (cy, 16, .inl f_2)), (r1, .inl (cy, 16, .inl f_3))] := hD
    refine lv_iinc (v := (nI (i + 1))) (lv' := [(3, .int (nI (i + 1))), (2, .ref r1), (1, .ref r0), (0, .ref q)]) hx hb dX15_inputs__16 hl (k := 0) rfl (nI_1 i) (by decide) rfl (fun ls hl => ?_)
    refine lv_goto (tgt := 2) hx hb dX15_inputs__19 (by decide) ?_
    exact ih2 (i + 1, f_2, f_3) H locs ls (show 16 - (i + 1) < 16 - i by omega) ⟨hP.sub [0, 1, 2] rfl, hD.sub [0, 1, 2] (by decide) rfl, hS, lv_sub hl [0, 1, 2, 3] rfl, trivial, (by omega), (upd_all (h := fun j => nI j) (by omega) ef_2 hx9 rfl), (upd_all (h := fun j => nI 0) (by omega) ef_3 hy9 rfl)⟩
