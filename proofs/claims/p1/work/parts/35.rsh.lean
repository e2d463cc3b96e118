theorem dX15_sumOf_0 : decode cX15_sumOf 0 = .ok (.lload_n 0, 1) := by decide +kernel
theorem k_16_12 : Jvm.Cond.constantLong "FinderHouseModel" (1165 : Nat) (-7046029254386353131 : Int64) ∈ tb := tb16 12 (by decide +kernel) (by decide +kernel)
theorem dX15_sumOf_1 : decode cX15_sumOf 1 = .ok (.ldc2_w 1165, 3) := by decide +kernel
theorem dX15_sumOf_4 : decode cX15_sumOf 4 = .ok (.lmul, 1) := by decide +kernel
theorem dX15_sumOf_5 : decode cX15_sumOf 5 = .ok (.lload_n 2, 1) := by decide +kernel
theorem k_16_13 : Jvm.Cond.constantLong "FinderHouseModel" (1167 : Nat) (2135587861 : Int64) ∈ tb := tb16 13 (by decide +kernel) (by decide +kernel)
theorem dX15_sumOf_6 : decode cX15_sumOf 6 = .ok (.ldc2_w 1167, 3) := by decide +kernel
theorem dX15_sumOf_9 : decode cX15_sumOf 9 = .ok (.ladd, 1) := by decide +kernel
theorem k_16_14 : Jvm.Cond.constantLong "FinderHouseModel" (1169 : Nat) (-4417276706812531889 : Int64) ∈ tb := tb16 14 (by decide +kernel) (by decide +kernel)
theorem dX15_sumOf_10 : decode cX15_sumOf 10 = .ok (.ldc2_w 1169, 3) := by decide +kernel
theorem dX15_sumOf_13 : decode cX15_sumOf 13 = .ok (.lmul, 1) := by decide +kernel
theorem dX15_sumOf_14 : decode cX15_sumOf 14 = .ok (.lxor, 1) := by decide +kernel
theorem dX15_sumOf_15 : decode cX15_sumOf 15 = .ok (.bipush 64, 2) := by decide +kernel
theorem dX15_sumOf_17 : decode cX15_sumOf 17 = .ok (.iload 4, 2) := by decide +kernel
theorem dX15_sumOf_19 : decode cX15_sumOf 19 = .ok (.isub, 1) := by decide +kernel
theorem dX15_sumOf_20 : decode cX15_sumOf 20 = .ok (.lushr, 1) := by decide +kernel
theorem dX15_sumOf_21 : decode cX15_sumOf 21 = .ok (.l2i, 1) := by decide +kernel
theorem dX15_sumOf_22 : decode cX15_sumOf 22 = .ok (.ireturn, 1) := by decide +kernel
theorem dX15_nibble_0 : decode cX15_nibble 0 = .ok (.lload_n 0, 1) := by decide +kernel
theorem dX15_nibble_1 : decode cX15_nibble 1 = .ok (.iconst 4, 1) := by decide +kernel
theorem dX15_nibble_2 : decode cX15_nibble 2 = .ok (.iload_n 2, 1) := by decide +kernel
theorem dX15_nibble_3 : decode cX15_nibble 3 = .ok (.imul, 1) := by decide +kernel
theorem dX15_nibble_4 : decode cX15_nibble 4 = .ok (.lshr, 1) := by decide +kernel
theorem dX15_nibble_5 : decode cX15_nibble 5 = .ok (.l2i, 1) := by decide +kernel
theorem dX15_nibble_6 : decode cX15_nibble 6 = .ok (.bipush 15, 2) := by decide +kernel
theorem dX15_nibble_8 : decode cX15_nibble 8 = .ok (.iand, 1) := by decide +kernel
theorem dX15_nibble_9 : decode cX15_nibble 9 = .ok (.ireturn, 1) := by decide +kernel
theorem dX15_addState_0 : decode cX15_addState 0 = .ok (.lload_n 1, 1) := by decide +kernel
theorem dX15_addState_1 : decode cX15_addState 1 = .ok (.lload_n 3, 1) := by decide +kernel
theorem dX15_addState_2 : decode cX15_addState 2 = .ok (.bipush 18, 2) := by decide +kernel
theorem k_16_11 : Jvm.Cond.code ({ cls := "FinderHouseModel", name := "sumOf", desc := "(JJI)I" } : Jvm.MethodName) prog_14_method_187_code (5 : Nat) (Option.some Jvm.ClassFile.FieldType.int) ∈ tb := tb16 11 (by decide +kernel) (by decide +kernel)
theorem k_16_9 : Jvm.Cond.methodLink "FinderHouseModel" (1171 : Nat) ({ cls := "FinderHouseModel", name := "sumOf", desc := "(JJI)I" } : Jvm.MethodName) ∈ tb := tb16 9 (by decide +kernel) (by decide +kernel)
theorem k_16_10 : Jvm.Cond.static ({ cls := "FinderHouseModel", name := "sumOf", desc := "(JJI)I" } : Jvm.MethodName) ∈ tb := tb16 10 (by decide +kernel) (by decide +kernel)
theorem dX15_addState_4 : decode cX15_addState 4 = .ok (.invokestatic 1171, 3) := by decide +kernel
theorem dX15_addState_7 : decode cX15_addState 7 = .ok (.istore 7, 2) := by decide +kernel
theorem dX15_addState_9 : decode cX15_addState 9 = .ok (.aload_n 0, 1) := by decide +kernel
theorem k_11_96 : Jvm.Cond.fieldLink "FinderHouseModel" (1175 : Nat) "FinderHouseModel" "metAt" "[I" ∈ tb := tb11 96 (by decide +kernel) (by decide +kernel)
theorem dX15_addState_10 : decode cX15_addState 10 = .ok (.getfield 1175, 3) := by decide +kernel
theorem dX15_addState_13 : decode cX15_addState 13 = .ok (.iload 7, 2) := by decide +kernel
theorem dX15_addState_15 : decode cX15_addState 15 = .ok (.iaload, 1) := by decide +kernel
theorem dX15_addState_16 : decode cX15_addState 16 = .ok (.ifCond .le 52, 3) := by decide +kernel
theorem dX15_addState_68 : decode cX15_addState 68 = .ok (.aload_n 0, 1) := by decide +kernel
theorem k_11_89 : Jvm.Cond.fieldLink "FinderHouseModel" (1178 : Nat) "FinderHouseModel" "stateA" "[J" ∈ tb := tb11 89 (by decide +kernel) (by decide +kernel)
theorem dX15_addState_69 : decode cX15_addState 69 = .ok (.getfield 1178, 3) := by decide +kernel
theorem dX15_addState_72 : decode cX15_addState 72 = .ok (.aload_n 0, 1) := by decide +kernel
theorem k_11_93 : Jvm.Cond.fieldLink "FinderHouseModel" (1185 : Nat) "FinderHouseModel" "stateMany" "I" ∈ tb := tb11 93 (by decide +kernel) (by decide +kernel)
theorem dX15_addState_73 : decode cX15_addState 73 = .ok (.getfield 1185, 3) := by decide +kernel
theorem dX15_addState_76 : decode cX15_addState 76 = .ok (.lload_n 1, 1) := by decide +kernel
theorem dX15_addState_77 : decode cX15_addState 77 = .ok (.lastore, 1) := by decide +kernel
theorem dX15_addState_78 : decode cX15_addState 78 = .ok (.aload_n 0, 1) := by decide +kernel
theorem k_11_90 : Jvm.Cond.fieldLink "FinderHouseModel" (1181 : Nat) "FinderHouseModel" "stateB" "[J" ∈ tb := tb11 90 (by decide +kernel) (by decide +kernel)
theorem dX15_addState_79 : decode cX15_addState 79 = .ok (.getfield 1181, 3) := by decide +kernel
theorem dX15_addState_82 : decode cX15_addState 82 = .ok (.aload_n 0, 1) := by decide +kernel
theorem dX15_addState_83 : decode cX15_addState 83 = .ok (.getfield 1185, 3) := by decide +kernel
theorem dX15_addState_86 : decode cX15_addState 86 = .ok (.lload_n 3, 1) := by decide +kernel
theorem dX15_addState_87 : decode cX15_addState 87 = .ok (.lastore, 1) := by decide +kernel
theorem dX15_addState_88 : decode cX15_addState 88 = .ok (.aload_n 0, 1) := by decide +kernel
theorem k_11_91 : Jvm.Cond.fieldLink "FinderHouseModel" (1188 : Nat) "FinderHouseModel" "before" "[I" ∈ tb := tb11 91 (by decide +kernel) (by decide +kernel)
theorem dX15_addState_89 : decode cX15_addState 89 = .ok (.getfield 1188, 3) := by decide +kernel
theorem dX15_addState_92 : decode cX15_addState 92 = .ok (.aload_n 0, 1) := by decide +kernel
theorem dX15_addState_93 : decode cX15_addState 93 = .ok (.getfield 1185, 3) := by decide +kernel
theorem dX15_addState_96 : decode cX15_addState 96 = .ok (.iload 5, 2) := by decide +kernel
theorem dX15_addState_98 : decode cX15_addState 98 = .ok (.iastore, 1) := by decide +kernel
theorem dX15_addState_99 : decode cX15_addState 99 = .ok (.aload_n 0, 1) := by decide +kernel
theorem k_11_92 : Jvm.Cond.fieldLink "FinderHouseModel" (1191 : Nat) "FinderHouseModel" "by" "[B" ∈ tb := tb11 92 (by decide +kernel) (by decide +kernel)
theorem dX15_addState_100 : decode cX15_addState 100 = .ok (.getfield 1191, 3) := by decide +kernel
theorem dX15_addState_103 : decode cX15_addState 103 = .ok (.aload_n 0, 1) := by decide +kernel
theorem dX15_addState_104 : decode cX15_addState 104 = .ok (.getfield 1185, 3) := by decide +kernel
theorem dX15_addState_107 : decode cX15_addState 107 = .ok (.iload 6, 2) := by decide +kernel
theorem dX15_addState_109 : decode cX15_addState 109 = .ok (.i2b, 1) := by decide +kernel
theorem dX15_addState_110 : decode cX15_addState 110 = .ok (.bastore, 1) := by decide +kernel
theorem dX15_addState_111 : decode cX15_addState 111 = .ok (.aload_n 0, 1) := by decide +kernel
theorem dX15_addState_112 : decode cX15_addState 112 = .ok (.dup, 1) := by decide +kernel
theorem dX15_addState_113 : decode cX15_addState 113 = .ok (.getfield 1185, 3) := by decide +kernel
theorem dX15_addState_116 : decode cX15_addState 116 = .ok (.iconst 1, 1) := by decide +kernel
theorem dX15_addState_117 : decode cX15_addState 117 = .ok (.iadd, 1) := by decide +kernel
theorem dX15_addState_118 : decode cX15_addState 118 = .ok (.putfield 1185, 3) := by decide +kernel
theorem dX15_addState_121 : decode cX15_addState 121 = .ok (.aload_n 0, 1) := by decide +kernel
theorem dX15_addState_122 : decode cX15_addState 122 = .ok (.getfield 1175, 3) := by decide +kernel
theorem dX15_addState_125 : decode cX15_addState 125 = .ok (.iload 7, 2) := by decide +kernel
theorem dX15_addState_127 : decode cX15_addState 127 = .ok (.aload_n 0, 1) := by decide +kernel
theorem dX15_addState_128 : decode cX15_addState 128 = .ok (.getfield 1185, 3) := by decide +kernel
theorem dX15_addState_131 : decode cX15_addState 131 = .ok (.iastore, 1) := by decide +kernel
theorem dX15_addState_132 : decode cX15_addState 132 = .ok (.return_, 1) := by decide +kernel
theorem dX15_addState_19 : decode cX15_addState 19 = .ok (.aload_n 0, 1) := by decide +kernel
theorem dX15_addState_20 : decode cX15_addState 20 = .ok (.getfield 1175, 3) := by decide +kernel
theorem dX15_addState_23 : decode cX15_addState 23 = .ok (.iload 7, 2) := by decide +kernel
theorem dX15_addState_25 : decode cX15_addState 25 = .ok (.iaload, 1) := by decide +kernel
theorem dX15_addState_26 : decode cX15_addState 26 = .ok (.iconst 1, 1) := by decide +kernel
theorem dX15_addState_27 : decode cX15_addState 27 = .ok (.isub, 1) := by decide +kernel
theorem dX15_addState_28 : decode cX15_addState 28 = .ok (.istore 8, 2) := by decide +kernel
theorem dX15_addState_30 : decode cX15_addState 30 = .ok (.aload_n 0, 1) := by decide +kernel
theorem dX15_addState_31 : decode cX15_addState 31 = .ok (.getfield 1178, 3) := by decide +kernel
theorem dX15_addState_34 : decode cX15_addState 34 = .ok (.iload 8, 2) := by decide +kernel
theorem dX15_addState_36 : decode cX15_addState 36 = .ok (.laload, 1) := by decide +kernel
theorem dX15_addState_37 : decode cX15_addState 37 = .ok (.lload_n 1, 1) := by decide +kernel
theorem dX15_addState_38 : decode cX15_addState 38 = .ok (.lcmp, 1) := by decide +kernel
theorem dX15_addState_39 : decode cX15_addState 39 = .ok (.ifCond .ne 16, 3) := by decide +kernel
theorem dX15_addState_55 : decode cX15_addState 55 = .ok (.iload 7, 2) := by decide +kernel
theorem dX15_addState_57 : decode cX15_addState 57 = .ok (.iconst 1, 1) := by decide +kernel
theorem dX15_addState_58 : decode cX15_addState 58 = .ok (.iadd, 1) := by decide +kernel
theorem k_16_15 : Jvm.Cond.constant "FinderHouseModel" (1184 : Nat) (262143 : Int32) ∈ tb := tb16 15 (by decide +kernel) (by decide +kernel)
theorem dX15_addState_59 : decode cX15_addState 59 = .ok (.ldc_w 1184, 3) := by decide +kernel
theorem dX15_addState_62 : decode cX15_addState 62 = .ok (.iand, 1) := by decide +kernel
theorem dX15_addState_63 : decode cX15_addState 63 = .ok (.istore 7, 2) := by decide +kernel
theorem dX15_addState_65 : decode cX15_addState 65 = .ok (.goto (-56), 3) := by decide +kernel
theorem dX15_addState_42 : decode cX15_addState 42 = .ok (.aload_n 0, 1) := by decide +kernel
theorem dX15_addState_43 : decode cX15_addState 43 = .ok (.getfield 1181, 3) := by decide +kernel
theorem dX15_addState_46 : decode cX15_addState 46 = .ok (.iload 8, 2) := by decide +kernel
theorem dX15_addState_48 : decode cX15_addState 48 = .ok (.laload, 1) := by decide +kernel
theorem dX15_addState_49 : decode cX15_addState 49 = .ok (.lload_n 3, 1) := by decide +kernel
theorem dX15_addState_50 : decode cX15_addState 50 = .ok (.lcmp, 1) := by decide +kernel
theorem dX15_addState_51 : decode cX15_addState 51 = .ok (.ifCond .ne 4, 3) := by decide +kernel
theorem dX15_addState_54 : decode cX15_addState 54 = .ok (.return_, 1) := by decide +kernel
set_option maxHeartbeats 4000000 in
set_option maxRecDepth 100000 in
theorem r_sumOf_18 (l : Launch) (dC : Nat → ClassId) (dI : Nat → Nat → Nat) (sz : Nat) (a : Int64) (b : Int64)  : Met l yX15_sumOf (Cond.code yX15_sumOf cX15_sumOf 5 (some .int) :: tb) ({ frames := 0, cells := 0, slots := 0, locals := 0 }) (pcw [.long a, .long b, .int 18] (dC, dI) [] [] sz) (va_Qi (fun (r : Int32) => (fun (_ : Unit) => r = nI (hsh 18 a b))) (bw (dC, dI) (va_A [] sz) (fun (_ : Unit) => []) (fun (_ : Unit) => [])) (va_A [] sz)) 0 0 (va_A [] sz) := by
  refine Met.ofW (cc := cX15_sumOf) (maxL := 5) (ret := (some .int)) (by decide) rfl ?_
  intro p e s m args below meth c s₁ B hml hv
  obtain ⟨rfl, hsz, hP, hK, hD0⟩ := hv
  have hx := B.exec
  have hb := B.bytes
  have hr := B.returns
  have hts := atoms_spec (ws := Cond.code yX15_sumOf cX15_sumOf 5 (some .int) :: tb) B.pre
  have ht : ∀ w ∈ tb, w.before _ s = true := fun w h => hts w (List.mem_cons_of_mem _ h)
  have hown : s.vm.findClass RX15 = some m.cls := findClass_of_methodNamed B.named
  have hlocks := B.notSynchronized
  subst hsz
  have hD := hD0.self (sz := s.heap.size)
  generalize hAe : va_A [] s.heap.size = A at hD ⊢
  have hA : ∀ q : Nat, s.heap.size ≤ q → A q := fun q h => by rw [← hAe]; exact Or.inr h
  have hS : va_S A s.heap s.heap [] := va_S.rf
  have hl := lv_entry ([.long a, .long b, .int 18]) (n := 5) (Nat.le_of_ble_eq_true rfl)
  rw [lg_entry_eq]
  generalize (lg_sl ([.long a, .long b, .int 18]) ++ List.replicate (5 - (lg_sl ([.long a, .long b, .int 18])).length) Slot.unset).toArray = ls at hl ⊢
  have hl : lv_has ls 5 [(0, .long a), (2, .long b), (4, .int 18)] := hl
  have hP : va_P (dC, dI) cls [] s.heap := hP
  refine lv_lload_n hx hb dX15_sumOf_0 rfl (lv_at hl 0 rfl) ?_
  refine lv_ldc2 (v := (-7046029254386353131)) hx hb hown (ht _ k_16_12) dX15_sumOf_1 ?_
  refine lv_lmul hx hb dX15_sumOf_4 ?_
  refine lv_topl (fun x_1 ex_1 => ?_)
  refine lv_lload_n hx hb dX15_sumOf_5 rfl (lv_at hl 1 rfl) ?_
  refine lv_ldc2 (v := 2135587861) hx hb hown (ht _ k_16_13) dX15_sumOf_6 ?_
  refine lv_ladd hx hb dX15_sumOf_9 ?_
  refine lv_topl (fun x_2 ex_2 => ?_)
  refine lv_ldc2 (v := (-4417276706812531889)) hx hb hown (ht _ k_16_14) dX15_sumOf_10 ?_
  refine lv_lmul hx hb dX15_sumOf_13 ?_
  refine lv_topl (fun x_3 ex_3 => ?_)
  refine lv_lxor hx hb dX15_sumOf_14 ?_
  refine lv_topl (fun x_4 ex_4 => ?_)
  refine lv_bipush (v := 64) hx hb dX15_sumOf_15 (by decide) ?_
  refine lv_iload hx hb dX15_sumOf_17 (lv_at hl 2 rfl) ?_
  refine lv_isub hx hb dX15_sumOf_19 ?_
  refine tk_i (y := 46) (by decide) ?_
  refine lv_lushr hx hb dX15_sumOf_20 rfl ?_
  refine lv_topl (fun x_5 ex_5 => ?_)
  refine lv_l2i hx hb dX15_sumOf_21 rfl ?_
  refine lv_topi (fun x_6 ex_6 => ?_)
  exact W.iret (v := x_6) hx hb hr (fun t ht9 hW => ⟨⟨x_6, (), rfl, (by rw [ex_6, ex_5, ex_4, ex_3, ex_2, ex_1]; exact hsh_r _ 46 (by decide)), by rw [ht9]; exact hP.sub [] rfl, va_K.moved hW.alike (hK.sub [] rfl), hD.sub [] (by decide) rfl⟩, hS.F ht9⟩) hS.2.2 dX15_sumOf_22
set_option maxHeartbeats 4000000 in
set_option maxRecDepth 100000 in
theorem r_sumOf_19 (l : Launch) (dC : Nat → ClassId) (dI : Nat → Nat → Nat) (sz : Nat) (a : Int64) (b : Int64)  : Met l yX15_sumOf (Cond.code yX15_sumOf cX15_sumOf 5 (some .int) :: tb) ({ frames := 0, cells := 0, slots := 0, locals := 0 }) (pcw [.long a, .long b, .int 19] (dC, dI) [] [] sz) (va_Qi (fun (r : Int32) => (fun (_ : Unit) => r = nI (hsh 19 a b))) (bw (dC, dI) (va_A [] sz) (fun (_ : Unit) => []) (fun (_ : Unit) => [])) (va_A [] sz)) 0 0 (va_A [] sz) := by
  refine Met.ofW (cc := cX15_sumOf) (maxL := 5) (ret := (some .int)) (by decide) rfl ?_
  intro p e s m args below meth c s₁ B hml hv
  obtain ⟨rfl, hsz, hP, hK, hD0⟩ := hv
  have hx := B.exec
  have hb := B.bytes
  have hr := B.returns
  have hts := atoms_spec (ws := Cond.code yX15_sumOf cX15_sumOf 5 (some .int) :: tb) B.pre
  have ht : ∀ w ∈ tb, w.before _ s = true := fun w h => hts w (List.mem_cons_of_mem _ h)
  have hown : s.vm.findClass RX15 = some m.cls := findClass_of_methodNamed B.named
  have hlocks := B.notSynchronized
  subst hsz
  have hD := hD0.self (sz := s.heap.size)
  generalize hAe : va_A [] s.heap.size = A at hD ⊢
  have hA : ∀ q : Nat, s.heap.size ≤ q → A q := fun q h => by rw [← hAe]; exact Or.inr h
  have hS : va_S A s.heap s.heap [] := va_S.rf
  have hl := lv_entry ([.long a, .long b, .int 19]) (n := 5) (Nat.le_of_ble_eq_true rfl)
  rw [lg_entry_eq]
  generalize (lg_sl ([.long a, .long b, .int 19]) ++ List.replicate (5 - (lg_sl ([.long a, .long b, .int 19])).length) Slot.unset).toArray = ls at hl ⊢
  have hl : lv_has ls 5 [(0, .long a), (2, .long b), (4, .int 19)] := hl
  have hP : va_P (dC, dI) cls [] s.heap := hP
  refine lv_lload_n hx hb dX15_sumOf_0 rfl (lv_at hl 0 rfl) ?_
  refine lv_ldc2 (v := (-7046029254386353131)) hx hb hown (ht _ k_16_12) dX15_sumOf_1 ?_
  refine lv_lmul hx hb dX15_sumOf_4 ?_
  refine lv_topl (fun x_1 ex_1 => ?_)
  refine lv_lload_n hx hb dX15_sumOf_5 rfl (lv_at hl 1 rfl) ?_
  refine lv_ldc2 (v := 2135587861) hx hb hown (ht _ k_16_13) dX15_sumOf_6 ?_
  refine lv_ladd hx hb dX15_sumOf_9 ?_
  refine lv_topl (fun x_2 ex_2 => ?_)
  refine lv_ldc2 (v := (-4417276706812531889)) hx hb hown (ht _ k_16_14) dX15_sumOf_10 ?_
  refine lv_lmul hx hb dX15_sumOf_13 ?_
  refine lv_topl (fun x_3 ex_3 => ?_)
  refine lv_lxor hx hb dX15_sumOf_14 ?_
  refine lv_topl (fun x_4 ex_4 => ?_)
  refine lv_bipush (v := 64) hx hb dX15_sumOf_15 (by decide) ?_
  refine lv_iload hx hb dX15_sumOf_17 (lv_at hl 2 rfl) ?_
  refine lv_isub hx hb dX15_sumOf_19 ?_
  refine tk_i (y := 45) (by decide) ?_
  refine lv_lushr hx hb dX15_sumOf_20 rfl ?_
  refine lv_topl (fun x_5 ex_5 => ?_)
  refine lv_l2i hx hb dX15_sumOf_21 rfl ?_
  refine lv_topi (fun x_6 ex_6 => ?_)
  exact W.iret (v := x_6) hx hb hr (fun t ht9 hW => ⟨⟨x_6, (), rfl, (by rw [ex_6, ex_5, ex_4, ex_3, ex_2, ex_1]; exact hsh_r _ 45 (by decide)), by rw [ht9]; exact hP.sub [] rfl, va_K.moved hW.alike (hK.sub [] rfl), hD.sub [] (by decide) rfl⟩, hS.F ht9⟩) hS.2.2 dX15_sumOf_22
set_option maxHeartbeats 4000000 in
set_option maxRecDepth 100000 in
theorem r_nibble (l : Launch) (dC : Nat → ClassId) (dI : Nat → Nat → Nat) (sz : Nat) (w : Int64) (i : Nat) (hi : i < 16) : Met l yX15_nibble (Cond.code yX15_nibble cX15_nibble 3 (some .int) :: tb) ({ frames := 0, cells := 0, slots := 0, locals := 0 }) (pcw [.long w, .int (nI i)] (dC, dI) [] [] sz) (va_Qi (fun (r : Int32) => (fun (_ : Unit) => r = nI (lane (uN w) i))) (bw (dC, dI) (va_A [] sz) (fun (_ : Unit) => []) (fun (_ : Unit) => [])) (va_A [] sz)) 0 0 (va_A [] sz) := by
  refine Met.ofW (cc := cX15_nibble) (maxL := 3) (ret := (some .int)) (by decide) rfl ?_
  intro p e s m args below meth c s₁ B hml hv
  obtain ⟨rfl, hsz, hP, hK, hD0⟩ := hv
  have hx := B.exec
  have hb := B.bytes
  have hr := B.returns
  have hts := atoms_spec (ws := Cond.code yX15_nibble cX15_nibble 3 (some .int) :: tb) B.pre
  have ht : ∀ w ∈ tb, w.before _ s = true := fun w h => hts w (List.mem_cons_of_mem _ h)
  have hown : s.vm.findClass RX15 = some m.cls := findClass_of_methodNamed B.named
  have hlocks := B.notSynchronized
  subst hsz
  have hD := hD0.self (sz := s.heap.size)
  generalize hAe : va_A [] s.heap.size = A at hD ⊢
  have hA : ∀ q : Nat, s.heap.size ≤ q → A q := fun q h => by rw [← hAe]; exact Or.inr h
  have hS : va_S A s.heap s.heap [] := va_S.rf
  have hl := lv_entry ([.long w, .int (nI i)]) (n := 3) (Nat.le_of_ble_eq_true rfl)
  rw [lg_entry_eq]
  generalize (lg_sl ([.long w, .int (nI i)]) ++ List.replicate (3 - (lg_sl ([.long w, .int (nI i)])).length) Slot.unset).toArray = ls at hl ⊢
  have hl : lv_has ls 3 [(0, .long w), (2, .int (nI i))] := hl
  have hP : va_P (dC, dI) cls [] s.heap := hP
  refine lv_lload_n hx hb dX15_nibble_0 rfl (lv_at hl 0 rfl) ?_
  refine lv_iconst (v := 4) hx hb dX15_nibble_1 (by decide) ?_
  refine lv_iload_n hx hb dX15_nibble_2 rfl (lv_at hl 1 rfl) ?_
  refine lv_imul hx hb dX15_nibble_3 ?_
  refine tk_i (y := (nI (4 * i))) (pk_mul 4 i) ?_
  refine lv_lshr hx hb dX15_nibble_4 rfl ?_
  refine lv_topl (fun x_1 ex_1 => ?_)
  refine lv_l2i hx hb dX15_nibble_5 rfl ?_
  refine lv_topi (fun x_2 ex_2 => ?_)
  refine lv_bipush (v := 15) hx hb dX15_nibble_6 (by decide) ?_
  refine lv_iand hx hb dX15_nibble_8 ?_
  refine lv_topi (fun x_3 ex_3 => ?_)
  exact W.iret (v := x_3) hx hb hr (fun t ht9 hW => ⟨⟨x_3, (), rfl, (by rw [ex_3, ex_2, ex_1]; exact nib_r w hi), by rw [ht9]; exact hP.sub [] rfl, va_K.moved hW.alike (hK.sub [] rfl), hD.sub [] (by decide) rfl⟩, hS.F ht9⟩) hS.2.2 dX15_nibble_9
set_option maxHeartbeats 4000000 in
set_option maxRecDepth 100000 in
theorem r_addState (l : Launch) (dC : Nat → ClassId) (dI : Nat → Nat → Nat) (sz : Nat) (q : Nat) (fs : List Value) (sa : Nat) (sb : Nat) (sf : Nat) (sy : Nat) (sm : Nat) (lv : Nat) (se : Nat) (ka : ClassId) (kb : ClassId) (kf : ClassId) (ky : ClassId) (km : ClassId) (fA : Nat → Int64) (fB : Nat → Int64) (bf : Nat → Int32) (fy : Nat → Int32) (fm : Nat → Int32) (mn : Nat) (n9 : Nat) (a : Int64) (b : Int64) (fr : Int32) (ac : Int32) (L_fs : fs.length = 163) (K138_fs : fs[138]? = some (.ref se)) (K141_fs : fs[141]? = some (.ref sa)) (K142_fs : fs[142]? = some (.ref sb)) (K143_fs : fs[143]? = some (.ref sf)) (K144_fs : fs[144]? = some (.ref sy)) (K145_fs : fs[145]? = some (.int (nI mn))) (K146_fs : fs[146]? = some (.int (nI n9))) (K147_fs : fs[147]? = some (.ref lv)) (K148_fs : fs[148]? = some (.ref sm)) (K151_fs : fs[151]? = some (.null)) (K152_fs : fs[152]? = some (.int 0)) (hm : mn < 111152) (htab : tab 262144 fm mn) : Met l yX15_addState (Cond.code yX15_addState cX15_addState 9 none :: tb) ({ frames := 1, cells := 0, slots := 0, locals := 24 }) (pcw [.ref q, .long a, .long b, .int fr, .int ac] (dC, dI) [(q, .inr (15, fs)), (sa, .inl (ka, 111152, .inr (.inl fA))), (sb, .inl (kb, 111152, .inr (.inl fB))), (sf, .inl (kf, 111152, .inl bf)), (sy, .inl (ky, 111152, .inl fy)), (sm, .inl (km, 262144, .inl fm))] [(ka, .long), (kb, .long), (kf, .int), (ky, .byte), (km, .int)] sz) (va_Qv (fun (u : (List Value) × Nat × (Nat → Int64) × (Nat → Int64) × (Nat → Int32) × (Nat → Int32) × (Nat → Int32)) => match u with | (fs1, m1, gA, gB, bg, gy, gm) => (Add mn fA fB bf m1 gA gB bg a b fr ∧ tab 262144 gm m1) ∧ (fs1.length = 163) ∧ (fs1[138]? = some (.ref se)) ∧ (fs1[141]? = some (.ref sa)) ∧ (fs1[142]? = some (.ref sb)) ∧ (fs1[143]? = some (.ref sf)) ∧ (fs1[144]? = some (.ref sy)) ∧ (fs1[145]? = some (.int (nI m1))) ∧ (fs1[146]? = some (.int (nI n9))) ∧ (fs1[147]? = some (.ref lv)) ∧ (fs1[148]? = some (.ref sm)) ∧ (fs1[151]? = some (.null)) ∧ (fs1[152]? = some (.int 0))) (bw (dC, dI) (va_A [(q, .inr (15, fs)), (sa, .inl (ka, 111152, .inr (.inl fA))), (sb, .inl (kb, 111152, .inr (.inl fB))), (sf, .inl (kf, 111152, .inl bf)), (sy, .inl (ky, 111152, .inl fy)), (sm, .inl (km, 262144, .inl fm))] sz) (fun (u : (List Value) × Nat × (Nat → Int64) × (Nat → Int64) × (Nat → Int32) × (Nat → Int32) × (Nat → Int32)) => match u with | (fs1, m1, gA, gB, bg, gy, gm) => [(q, .inr (15, fs1)), (sa, .inl (ka, 111152, .inr (.inl gA))), (sb, .inl (kb, 111152, .inr (.inl gB))), (sf, .inl (kf, 111152, .inl bg)), (sy, .inl (ky, 111152, .inl gy)), (sm, .inl (km, 262144, .inl gm))]) (fun (u : (List Value) × Nat × (Nat → Int64) × (Nat → Int64) × (Nat → Int32) × (Nat → Int32) × (Nat → Int32)) => match u with | (fs1, m1, gA, gB, bg, gy, gm) => [])) (va_A [(q, .inr (15, fs)), (sa, .inl (ka, 111152, .inr (.inl fA))), (sb, .inl (kb, 111152, .inr (.inl fB))), (sf, .inl (kf, 111152, .inl bf)), (sy, .inl (ky, 111152, .inl fy)), (sm, .inl (km, 262144, .inl fm))] sz)) 0 0 (va_A [(q, .inr (15, fs)), (sa, .inl (ka, 111152, .inr (.inl fA))), (sb, .inl (kb, 111152, .inr (.inl fB))), (sf, .inl (kf, 111152, .inl bf)), (sy, .inl (ky, 111152, .inl fy)), (sm, .inl (km, 262144, .inl fm))] sz) := by
  refine Met.ofW (cc := cX15_addState) (maxL := 9) (ret := none) (by decide) rfl ?_
  intro p e s m args below meth c s₁ B hml hv
  obtain ⟨rfl, hsz, hP, hK, hD0⟩ := hv
  have hx := B.exec
  have hb := B.bytes
  have hr := B.returns
  have hts := atoms_spec (ws := Cond.code yX15_addState cX15_addState 9 none :: tb) B.pre
  have ht : ∀ w ∈ tb, w.before _ s = true := fun w h => hts w (List.mem_cons_of_mem _ h)
  have hown : s.vm.findClass RX15 = some m.cls := findClass_of_methodNamed B.named
  have hlocks := B.notSynchronized
  subst hsz
  have hD := hD0.self (sz := s.heap.size)
  generalize hAe : va_A [(q, .inr (15, fs)), (sa, .inl (ka, 111152, .inr (.inl fA))), (sb, .inl (kb, 111152, .inr (.inl fB))), (sf, .inl (kf, 111152, .inl bf)), (sy, .inl (ky, 111152, .inl fy)), (sm, .inl (km, 262144, .inl fm))] s.heap.size = A at hD ⊢
  have hA : ∀ q : Nat, s.heap.size ≤ q → A q := fun q h => by rw [← hAe]; exact Or.inr h
  have hS : va_S A s.heap s.heap [] := va_S.rf
  have hl := lv_entry ([.ref q, .long a, .long b, .int fr, .int ac]) (n := 9) (Nat.le_of_ble_eq_true rfl)
  rw [lg_entry_eq]
  generalize (lg_sl ([.ref q, .long a, .long b, .int fr, .int ac]) ++ List.replicate (9 - (lg_sl ([.ref q, .long a, .long b, .int fr, .int ac])).length) Slot.unset).toArray = ls at hl ⊢
  have hl : lv_has ls 9 [(0, .ref q), (1, .long a), (3, .long b), (5, .int fr), (6, .int ac)] := hl
  have hP : va_P (dC, dI) cls [(q, .inr (15, fs)), (sa, .inl (ka, 111152, .inr (.inl fA))), (sb, .inl (kb, 111152, .inr (.inl fB))), (sf, .inl (kf, 111152, .inl bf)), (sy, .inl (ky, 111152, .inl fy)), (sm, .inl (km, 262144, .inl fm))] s.heap := hP
  refine lv_lload_n hx hb dX15_addState_0 rfl (lv_at hl 1 rfl) ?_
  refine lv_lload_n hx hb dX15_addState_1 rfl (lv_at hl 2 rfl) ?_
  refine lv_bipush (v := 18) hx hb dX15_addState_2 (by decide) ?_
  refine ca_i (wr := [(q, .inr (15, fs)), (sa, .inl (ka, 111152, .inr (.inl fA))), (sb, .inl (kb, 111152, .inr (.inl fB))), (sf, .inl (kf, 111152, .inl bf)), (sy, .inl (ky, 111152, .inl fy)), (sm, .inl (km, 262144, .inl fm))]) (va_runS (As := [.long a, .long b, .int 18]) (rest := []) ⟨hx, hb, hml, hown, ht⟩ (r_sumOf_18 l dC dI s.heap.size a b  ) (cwS 3 ht (gdS k_16_11 k_16_9 k_16_10 k_1_17) rfl rfl rfl (by decide +kernel) ⟨Nat.le_of_ble_eq_true rfl, Nat.le_of_ble_eq_true rfl⟩) ⟨pcw_blind, pcw_at hP hD hK [] [] (by decide) rfl rfl rfl⟩ rfl rfl hl.1 rfl (lv_room (Nat.le_of_ble_eq_true rfl)) dX15_addState_4 ⟨Nat.le_of_ble_eq_true rfl, Nat.le_of_ble_eq_true rfl⟩) hP hD hK hS hA [] [0, 1, 2, 3, 4, 5] rfl rfl (by decide) (by decide) (fun r_1 u H locs w_2 hK hP hD hS => ?_)
  have hK : va_K (dC, dI) cls [(ka, .long), (kb, .long), (kf, .int), (ky, .byte), (km, .int)] s := hK
  have hP : va_P (dC, dI) cls [(q, .inr (15, fs)), (sa, .inl (ka, 111152, .inr (.inl fA))), (sb, .inl (kb, 111152, .inr (.inl fB))), (sf, .inl (kf, 111152, .inl bf)), (sy, .inl (ky, 111152, .inl fy)), (sm, .inl (km, 262144, .inl fm))] H := hP
  have hD : va_D A [(q, .inr (15, fs)), (sa, .inl (ka, 111152, .inr (.inl fA))), (sb, .inl (kb, 111152, .inr (.inl fB))), (sf, .inl (kf, 111152, .inl bf)), (sy, .inl (ky, 111152, .inl fy)), (sm, .inl (km, 262144, .inl fm))] := hD
  obtain rfl : r_1 = nI ((hsh 18 a b + 0) % 262144) := w_2.trans (by rw [Nat.add_zero, Nat.mod_eq_of_lt (show hsh 18 a b < 262144 from hsh_lt (k := 18) (by decide) a b)])
  refine lv_istore (lv' := [(7, .int (nI ((hsh 18 a b + 0) % 262144))), (0, .ref q), (1, .long a), (3, .long b), (5, .int fr), (6, .int ac)]) hx hb dX15_addState_7 hl (by decide) rfl (fun ls hl => ?_)
  obtain ⟨d, hd⟩ := few_open htab.2 (show mn < 262144 by omega) (hsh_lt (k := 18) (by decide) a b)
  refine lp_rule (fun H locs ls => W p l e _ s m _ below meth c H locs _ _ _ (F0 m 9 ls [])) (fun (z : Nat) H locs ls => match z with | i => va_P (dC, dI) cls [(q, .inr (15, fs)), (sa, .inl (ka, 111152, .inr (.inl fA))), (sb, .inl (kb, 111152, .inr (.inl fB))), (sf, .inl (kf, 111152, .inl bf)), (sy, .inl (ky, 111152, .inl fy)), (sm, .inl (km, 262144, .inl fm))] H ∧ va_D A [(q, .inr (15, fs)), (sa, .inl (ka, 111152, .inr (.inl fA))), (sb, .inl (kb, 111152, .inr (.inl fB))), (sf, .inl (kf, 111152, .inl bf)), (sy, .inl (ky, 111152, .inl fy)), (sm, .inl (km, 262144, .inl fm))] ∧ va_S A s.heap H locs ∧ lv_has ls 9 [(7, .int (nI ((hsh 18 a b + i) % 262144))), (6, .int ac), (5, .int fr), (3, .long b), (1, .long a), (0, .ref q)] ∧ True ∧ i ≤ d) (fun (z : Nat) => match z with | i => d - i) ?_ (0) H locs ls ⟨hP, hD, hS, lv_sub hl [0, 5, 4, 3, 2, 1] rfl, trivial, (Nat.zero_le _)⟩
  intro z H locs ls hI ih9
  obtain ⟨i, rfl⟩ : ∃ y, y = z := ⟨_, rfl⟩
  obtain ⟨hP, hD, hS, hl, -, hid⟩ := hI
  have hP : va_P (dC, dI) cls [(q, .inr (15, fs)), (sa, .inl (ka, 111152, .inr (.inl fA))), (sb, .inl (kb, 111152, .inr (.inl fB))), (sf, .inl (kf, 111152, .inl bf)), (sy, .inl (ky, 111152, .inl fy)), (sm, .inl (km, 262144, .inl fm))] H := hP
  have hD : va_D A [(q, .inr (15, fs)), (sa, .inl (ka, 111152, .inr (.inl fA))), (sb, .inl (kb, 111152, .inr (.inl fB))), (sf, .inl (kf, 111152, .inl bf)), (sy, .inl (ky, 111152, .inl fy)), (sm, .inl (km, 262144, .inl fm))] := hD
  have hl : lv_has ls 9 [(7, .int (nI ((hsh 18 a b + i) % 262144))), (6, .int ac), (5, .int fr), (3, .long b), (1, .long a), (0, .ref q)] := hl
  obtain ⟨v, hv, ev⟩ := htab.1 ((hsh 18 a b + i) % 262144) (Nat.mod_lt _ (by decide))
  refine lv_aload_n hx hb dX15_addState_9 rfl (lv_at hl 5 rfl) ?_
  refine va_get (D := (dC, dI)) (ci := 15) (v := .ref sm) (C := RX15) (T := TX15) (N := 163) hx hb ht uX15 hown hK hP 0 rfl rfl 148 (by decide) (ht _ k_11_96) (fun _ h9 => h9) K148_fs dX15_addState_10 ?_
  refine lv_iload hx hb dX15_addState_13 (lv_at hl 0 rfl) ?_
  refine va_iald hx hb hK hP 5 4 rfl rfl (vp_in_nI (by omega) (by decide)) dX15_addState_15 ?_
  refine tk_i (y := (nI v)) (by rw [nI_clamp (by omega)]; exact ev) ?_
  refine lv_if_le (tgt := 68) hx hb dX15_addState_16 (by decide) (fun b_3 => ?_) (fun b_3 => ?_)
  · refine lv_aload_n hx hb dX15_addState_68 rfl (lv_at hl 5 rfl) ?_
    refine va_get (D := (dC, dI)) (ci := 15) (v := .ref sa) (C := RX15) (T := TX15) (N := 163) hx hb ht uX15 hown hK hP 0 rfl rfl 141 (by decide) (ht _ k_11_89) (fun _ h9 => h9) K141_fs dX15_addState_69 ?_
    refine lv_aload_n hx hb dX15_addState_72 rfl (lv_at hl 5 rfl) ?_
    refine va_get (D := (dC, dI)) (ci := 15) (v := .int (nI mn)) (C := RX15) (T := TX15) (N := 163) hx hb ht uX15 hown hK hP 0 rfl rfl 145 (by decide) (ht _ k_11_93) (fun _ h9 => h9) K145_fs dX15_addState_73 ?_
    refine lv_lload_n hx hb dX15_addState_76 rfl (lv_at hl 4 rfl) ?_
    refine va_last (i := (nI mn)) (x := a) hx hb hK hP hD hS 1 0 rfl rfl (vp_in_nI (by omega) (by decide)) dX15_addState_77 (fun H locs hP hD hS => ?_)
    obtain ⟨f_4, ef_4⟩ : ∃ g : Nat → Int64, g = vp_updL fA (nI mn).toNatClampNeg a := ⟨_, rfl⟩
    rw [← ef_4] at hP hD
    have hP : va_P (dC, dI) cls [(q, .inr (15, fs)), (sa, .inl (ka, 111152, .inr (.inl f_4))), (sb, .inl (kb, 111152, .inr (.inl fB))), (sf, .inl (kf, 111152, .inl bf)), (sy, .inl (ky, 111152, .inl fy)), (sm, .inl (km, 262144, .inl fm))] H := hP
    have hD : va_D A [(q, .inr (15, fs)), (sa, .inl (ka, 111152, .inr (.inl f_4))), (sb, .inl (kb, 111152, .inr (.inl fB))), (sf, .inl (kf, 111152, .inl bf)), (sy, .inl (ky, 111152, .inl fy)), (sm, .inl (km, 262144, .inl fm))] := hD
    refine lv_aload_n hx hb dX15_addState_78 rfl (lv_at hl 5 rfl) ?_
    refine va_get (D := (dC, dI)) (ci := 15) (v := .ref sb) (C := RX15) (T := TX15) (N := 163) hx hb ht uX15 hown hK hP 0 rfl rfl 142 (by decide) (ht _ k_11_90) (fun _ h9 => h9) K142_fs dX15_addState_79 ?_
    refine lv_aload_n hx hb dX15_addState_82 rfl (lv_at hl 5 rfl) ?_
    refine va_get (D := (dC, dI)) (ci := 15) (v := .int (nI mn)) (C := RX15) (T := TX15) (N := 163) hx hb ht uX15 hown hK hP 0 rfl rfl 145 (by decide) (ht _ k_11_93) (fun _ h9 => h9) K145_fs dX15_addState_83 ?_
    refine lv_lload_n hx hb dX15_addState_86 rfl (lv_at hl 3 rfl) ?_
    refine va_last (i := (nI mn)) (x := b) hx hb hK hP hD hS 2 1 rfl rfl (vp_in_nI (by omega) (by decide)) dX15_addState_87 (fun H locs hP hD hS => ?_)
    obtain ⟨f_5, ef_5⟩ : ∃ g : Nat → Int64, g = vp_updL fB (nI mn).toNatClampNeg b := ⟨_, rfl⟩
    rw [← ef_5] at hP hD
    have hP : va_P (dC, dI) cls [(q, .inr (15, fs)), (sa, .inl (ka, 111152, .inr (.inl f_4))), (sb, .inl (kb, 111152, .inr (.inl f_5))), (sf, .inl (kf, 111152, .inl bf)), (sy, .inl (ky, 111152, .inl fy)), (sm, .inl (km, 262144, .inl fm))] H := hP
    have hD : va_D A [(q, .inr (15, fs)), (sa, .inl (ka, 111152, .inr (.inl f_4))), (sb, .inl (kb, 111152, .inr (.inl f_5))), (sf, .inl (kf, 111152, .inl bf)), (sy, .inl (ky, 111152, .inl fy)), (sm, .inl (km, 262144, .inl fm))] := hD
    refine lv_aload_n hx hb dX15_addState_88 rfl (lv_at hl 5 rfl) ?_
    refine va_get (D := (dC, dI)) (ci := 15) (v := .ref sf) (C := RX15) (T := TX15) (N := 163) hx hb ht uX15 hown hK hP 0 rfl rfl 143 (by decide) (ht _ k_11_91) (fun _ h9 => h9) K143_fs dX15_addState_89 ?_
    refine lv_aload_n hx hb dX15_addState_92 rfl (lv_at hl 5 rfl) ?_
    refine va_get (D := (dC, dI)) (ci := 15) (v := .int (nI mn)) (C := RX15) (T := TX15) (N := 163) hx hb ht uX15 hown hK hP 0 rfl rfl 145 (by decide) (ht _ k_11_93) (fun _ h9 => h9) K145_fs dX15_addState_93 ?_
    refine lv_iload hx hb dX15_addState_96 (lv_at hl 2 rfl) ?_
    refine va_iast (i := (nI mn)) (x := fr) hx hb hK hP hD hS 3 2 rfl rfl (vp_in_nI (by omega) (by decide)) dX15_addState_98 (fun H locs hP hD hS => ?_)
    obtain ⟨f_6, ef_6⟩ : ∃ g : Nat → Int32, g = upd bf (nI mn).toNatClampNeg fr := ⟨_, rfl⟩
    rw [← ef_6] at hP hD
    have hP : va_P (dC, dI) cls [(q, .inr (15, fs)), (sa, .inl (ka, 111152, .inr (.inl f_4))), (sb, .inl (kb, 111152, .inr (.inl f_5))), (sf, .inl (kf, 111152, .inl f_6)), (sy, .inl (ky, 111152, .inl fy)), (sm, .inl (km, 262144, .inl fm))] H := hP
    have hD : va_D A [(q, .inr (15, fs)), (sa, .inl (ka, 111152, .inr (.inl f_4))), (sb, .inl (kb, 111152, .inr (.inl f_5))), (sf, .inl (kf, 111152, .inl f_6)), (sy, .inl (ky, 111152, .inl fy)), (sm, .inl (km, 262144, .inl fm))] := hD
    refine lv_aload_n hx hb dX15_addState_99 rfl (lv_at hl 5 rfl) ?_
    refine va_get (D := (dC, dI)) (ci := 15) (v := .ref sy) (C := RX15) (T := TX15) (N := 163) hx hb ht uX15 hown hK hP 0 rfl rfl 144 (by decide) (ht _ k_11_92) (fun _ h9 => h9) K144_fs dX15_addState_100 ?_
    refine lv_aload_n hx hb dX15_addState_103 rfl (lv_at hl 5 rfl) ?_
    refine va_get (D := (dC, dI)) (ci := 15) (v := .int (nI mn)) (C := RX15) (T := TX15) (N := 163) hx hb ht uX15 hown hK hP 0 rfl rfl 145 (by decide) (ht _ k_11_93) (fun _ h9 => h9) K145_fs dX15_addState_104 ?_
    refine lv_iload hx hb dX15_addState_107 (lv_at hl 1 rfl) ?_
    refine lv_i2b hx hb dX15_addState_109 rfl ?_
    refine lv_topi (fun x_7 ex_7 => ?_)
    refine va_bast (i := (nI mn)) (x := x_7) hx hb hK hP hD hS 4 3 rfl rfl (vp_in_nI (by omega) (by decide)) dX15_addState_110 (fun H locs hP hD hS => ?_)
    obtain ⟨f_8, ef_8⟩ : ∃ g : Nat → Int32, g = upd fy (nI mn).toNatClampNeg (vp_nar .byte x_7) := ⟨_, rfl⟩
    rw [← ef_8] at hP hD
    have hP : va_P (dC, dI) cls [(q, .inr (15, fs)), (sa, .inl (ka, 111152, .inr (.inl f_4))), (sb, .inl (kb, 111152, .inr (.inl f_5))), (sf, .inl (kf, 111152, .inl f_6)), (sy, .inl (ky, 111152, .inl f_8)), (sm, .inl (km, 262144, .inl fm))] H := hP
    have hD : va_D A [(q, .inr (15, fs)), (sa, .inl (ka, 111152, .inr (.inl f_4))), (sb, .inl (kb, 111152, .inr (.inl f_5))), (sf, .inl (kf, 111152, .inl f_6)), (sy, .inl (ky, 111152, .inl f_8)), (sm, .inl (km, 262144, .inl fm))] := hD
    refine lv_aload_n hx hb dX15_addState_111 rfl (lv_at hl 5 rfl) ?_
    refine lv_dup hx hb dX15_addState_112 rfl ?_
    refine va_get (D := (dC, dI)) (ci := 15) (v := .int (nI mn)) (C := RX15) (T := TX15) (N := 163) hx hb ht uX15 hown hK hP 0 rfl rfl 145 (by decide) (ht _ k_11_93) (fun _ h9 => h9) K145_fs dX15_addState_113 ?_
    refine lv_iconst (v := 1) hx hb dX15_addState_116 (by decide) ?_
    refine lv_iadd hx hb dX15_addState_117 ?_
    refine tk_i (y := (nI (mn + 1))) (nI_1 mn) ?_
    refine va_put (D := (dC, dI)) (ci := 15) (v := .int (nI (mn + 1))) (ty := .int) (C := RX15) (T := TX15) (N := 163) hx hb ht uX15 tyX15 tkX15 nmX15 hown hK hP hD hS 0 rfl rfl 145 (by decide) (ht _ k_11_93) (fun _ h9 => h9) rfl (by decide +kernel) rfl rfl (by rw [L_fs]; decide) dX15_addState_118 (fun H locs hP hD hS => ?_)
    obtain ⟨F_9, eF_9⟩ : ∃ g : List Value, g = fs.set 145 (.int (nI (mn + 1))) := ⟨_, rfl⟩
    rw [← eF_9] at hP hD
    have K138_F_9 : F_9[138]? = some (.ref se) := by rw [eF_9, List.getElem?_set_ne (by decide)]; exact K138_fs
    have K141_F_9 : F_9[141]? = some (.ref sa) := by rw [eF_9, List.getElem?_set_ne (by decide)]; exact K141_fs
    have K142_F_9 : F_9[142]? = some (.ref sb) := by rw [eF_9, List.getElem?_set_ne (by decide)]; exact K142_fs
    have K143_F_9 : F_9[143]? = some (.ref sf) := by rw [eF_9, List.getElem?_set_ne (by decide)]; exact K143_fs
    have K144_F_9 : F_9[144]? = some (.ref sy) := by rw [eF_9, List.getElem?_set_ne (by decide)]; exact K144_fs
    have K146_F_9 : F_9[146]? = some (.int (nI n9)) := by rw [eF_9, List.getElem?_set_ne (by decide)]; exact K146_fs
    have K147_F_9 : F_9[147]? = some (.ref lv) := by rw [eF_9, List.getElem?_set_ne (by decide)]; exact K147_fs
    have K148_F_9 : F_9[148]? = some (.ref sm) := by rw [eF_9, List.getElem?_set_ne (by decide)]; exact K148_fs
    have K151_F_9 : F_9[151]? = some (.null) := by rw [eF_9, List.getElem?_set_ne (by decide)]; exact K151_fs
    have K152_F_9 : F_9[152]? = some (.int 0) := by rw [eF_9, List.getElem?_set_ne (by decide)]; exact K152_fs
    have K145_F_9 : F_9[145]? = some (.int (nI (mn + 1))) := by rw [eF_9]; exact List.getElem?_set_self (by rw [L_fs]; decide)
    have L_F_9 : F_9.length = 163 := by rw [eF_9, List.length_set]; exact L_fs
    have hP : va_P (dC, dI) cls [(q, .inr (15, F_9)), (sa, .inl (ka, 111152, .inr (.inl f_4))), (sb, .inl (kb, 111152, .inr (.inl f_5))), (sf, .inl (kf, 111152, .inl f_6)), (sy, .inl (ky, 111152, .inl f_8)), (sm, .inl (km, 262144, .inl fm))] H := hP
    have hD : va_D A [(q, .inr (15, F_9)), (sa, .inl (ka, 111152, .inr (.inl f_4))), (sb, .inl (kb, 111152, .inr (.inl f_5))), (sf, .inl (kf, 111152, .inl f_6)), (sy, .inl (ky, 111152, .inl f_8)), (sm, .inl (km, 262144, .inl fm))] := hD
    refine lv_aload_n hx hb dX15_addState_121 rfl (lv_at hl 5 rfl) ?_
    refine va_get (D := (dC, dI)) (ci := 15) (v := .ref sm) (C := RX15) (T := TX15) (N := 163) hx hb ht uX15 hown hK hP 0 rfl rfl 148 (by decide) (ht _ k_11_96) (fun _ h9 => h9) K148_F_9 dX15_addState_122 ?_
    refine lv_iload hx hb dX15_addState_125 (lv_at hl 0 rfl) ?_
    refine lv_aload_n hx hb dX15_addState_127 rfl (lv_at hl 5 rfl) ?_
    refine va_get (D := (dC, dI)) (ci := 15) (v := .int (nI (mn + 1))) (C := RX15) (T := TX15) (N := 163) hx hb ht uX15 hown hK hP 0 rfl rfl 145 (by decide) (ht _ k_11_93) (fun _ h9 => h9) K145_F_9 dX15_addState_128 ?_
    refine va_iast (i := (nI ((hsh 18 a b + i) % 262144))) (x := (nI (mn + 1))) hx hb hK hP hD hS 5 4 rfl rfl (vp_in_nI (by omega) (by decide)) dX15_addState_131 (fun H locs hP hD hS => ?_)
    obtain ⟨f_10, ef_10⟩ : ∃ g : Nat → Int32, g = upd fm (nI ((hsh 18 a b + i) % 262144)).toNatClampNeg (nI (mn + 1)) := ⟨_, rfl⟩
    rw [← ef_10] at hP hD
    have hP : va_P (dC, dI) cls [(q, .inr (15, F_9)), (sa, .inl (ka, 111152, .inr (.inl f_4))), (sb, .inl (kb, 111152, .inr (.inl f_5))), (sf, .inl (kf, 111152, .inl f_6)), (sy, .inl (ky, 111152, .inl f_8)), (sm, .inl (km, 262144, .inl f_10))] H := hP
    have hD : va_D A [(q, .inr (15, F_9)), (sa, .inl (ka, 111152, .inr (.inl f_4))), (sb, .inl (kb, 111152, .inr (.inl f_5))), (sf, .inl (kf, 111152, .inl f_6)), (sy, .inl (ky, 111152, .inl f_8)), (sm, .inl (km, 262144, .inl f_10))] := hD
    exact W.vret hx hb hr (fun t ht9 hW => ⟨⟨(F_9, mn + 1, f_4, f_5, f_6, f_8, f_10), rfl, ⟨⟨Add_new (by omega) ef_4 ef_5 ef_6, by rw [ef_10]; exact tab_put htab⟩, L_F_9, K138_F_9, K141_F_9, K142_F_9, K143_F_9, K144_F_9, K145_F_9, K146_F_9, K147_F_9, K148_F_9, K151_F_9, K152_F_9⟩, by rw [ht9]; exact hP.sub [0, 1, 2, 3, 4, 5] rfl, va_K.moved hW.alike (hK.sub [] rfl), hD.sub [0, 1, 2, 3, 4, 5] (by decide) rfl⟩, hS.F ht9⟩) hS.2.2 dX15_addState_132
  · have hv0 : 0 < v := pos_ne ev (by omega) b_3
    have hid2 : i < d := by
      rcases Nat.lt_or_ge i d with h | h
      · exact h
      · have e9 : i = d := by omega
        rw [e9, hd] at ev
        exact absurd ev.symm (nI_nz (by omega) hv0)
    refine lv_aload_n hx hb dX15_addState_19 rfl (lv_at hl 5 rfl) ?_
    refine va_get (D := (dC, dI)) (ci := 15) (v := .ref sm) (C := RX15) (T := TX15) (N := 163) hx hb ht uX15 hown hK hP 0 rfl rfl 148 (by decide) (ht _ k_11_96) (fun _ h9 => h9) K148_fs dX15_addState_20 ?_
    refine lv_iload hx hb dX15_addState_23 (lv_at hl 0 rfl) ?_
    refine va_iald hx hb hK hP 5 4 rfl rfl (vp_in_nI (by omega) (by decide)) dX15_addState_25 ?_
    refine tk_i (y := (nI v)) (by rw [nI_clamp (by omega)]; exact ev) ?_
    refine lv_iconst (v := 1) hx hb dX15_addState_26 (by decide) ?_
    refine lv_isub hx hb dX15_addState_27 ?_
    refine tk_i (y := (nI (v - 1))) (nI_m1 hv0) ?_
    refine lv_istore (lv' := [(8, .int (nI (v - 1))), (7, .int (nI ((hsh 18 a b + i) % 262144))), (6, .int ac), (5, .int fr), (3, .long b), (1, .long a), (0, .ref q)]) hx hb dX15_addState_28 hl (by decide) rfl (fun ls hl => ?_)
    refine lv_aload_n hx hb dX15_addState_30 rfl (lv_at hl 6 rfl) ?_
    refine va_get (D := (dC, dI)) (ci := 15) (v := .ref sa) (C := RX15) (T := TX15) (N := 163) hx hb ht uX15 hown hK hP 0 rfl rfl 141 (by decide) (ht _ k_11_89) (fun _ h9 => h9) K141_fs dX15_addState_31 ?_
    refine lv_iload hx hb dX15_addState_34 (lv_at hl 0 rfl) ?_
    refine va_lald hx hb hK hP 1 0 rfl rfl (vp_in_nI (by omega) (by decide)) dX15_addState_36 ?_
    refine tk_l (y := (fA (v - 1))) (by rw [nI_clamp (by omega)]) ?_
    refine lv_lload_n hx hb dX15_addState_37 rfl (lv_at hl 5 rfl) ?_
    refine W.lcmp hx hb dX15_addState_38 ?_
    refine lv_if_ne (tgt := 55) hx hb dX15_addState_39 (by decide) (fun b_11 => ?_) (fun b_11 => ?_)
    · refine lv_iload hx hb dX15_addState_55 (lv_at hl 1 rfl) ?_
      refine lv_iconst (v := 1) hx hb dX15_addState_57 (by decide) ?_
      refine lv_iadd hx hb dX15_addState_58 ?_
      refine lv_topi (fun x_12 ex_12 => ?_)
      refine lv_ldcw (v := 262143) hx hb hown (ht _ k_16_15) dX15_addState_59 ?_
      refine lv_iand hx hb dX15_addState_62 ?_
      refine tk_i (y := (nI ((hsh 18 a b + (i + 1)) % 262144))) (by rw [ex_12]; exact wrap18 _ _) ?_
      refine lv_istore (lv' := [(7, .int (nI ((hsh 18 a b + (i + 1)) % 262144))), (8, .int (nI (v - 1))), (6, .int ac), (5, .int fr), (3, .long b), (1, .long a), (0, .ref q)]) hx hb dX15_addState_63 hl (by decide) rfl (fun ls hl => ?_)
      refine lv_goto (tgt := 9) hx hb dX15_addState_65 (by decide) ?_
      exact ih9 (i + 1) H locs ls (show d - (i + 1) < d - i by omega) ⟨hP.sub [0, 1, 2, 3, 4, 5] rfl, hD.sub [0, 1, 2, 3, 4, 5] (by decide) rfl, hS, lv_sub hl [0, 2, 3, 4, 5, 6] rfl, trivial, (show i + 1 ≤ d by omega)⟩
    · refine lv_aload_n hx hb dX15_addState_42 rfl (lv_at hl 6 rfl) ?_
      refine va_get (D := (dC, dI)) (ci := 15) (v := .ref sb) (C := RX15) (T := TX15) (N := 163) hx hb ht uX15 hown hK hP 0 rfl rfl 142 (by decide) (ht _ k_11_90) (fun _ h9 => h9) K142_fs dX15_addState_43 ?_
      refine lv_iload hx hb dX15_addState_46 (lv_at hl 0 rfl) ?_
      refine va_lald hx hb hK hP 2 1 rfl rfl (vp_in_nI (by omega) (by decide)) dX15_addState_48 ?_
      refine tk_l (y := (fB (v - 1))) (by rw [nI_clamp (by omega)]) ?_
      refine lv_lload_n hx hb dX15_addState_49 rfl (lv_at hl 4 rfl) ?_
      refine W.lcmp hx hb dX15_addState_50 ?_
      refine lv_if_ne (tgt := 55) hx hb dX15_addState_51 (by decide) (fun b_13 => ?_) (fun b_13 => ?_)
      · refine lv_iload hx hb dX15_addState_55 (lv_at hl 1 rfl) ?_
        refine lv_iconst (v := 1) hx hb dX15_addState_57 (by decide) ?_
        refine lv_iadd hx hb dX15_addState_58 ?_
        refine lv_topi (fun x_14 ex_14 => ?_)
        refine lv_ldcw (v := 262143) hx hb hown (ht _ k_16_15) dX15_addState_59 ?_
        refine lv_iand hx hb dX15_addState_62 ?_
        refine tk_i (y := (nI ((hsh 18 a b + (i + 1)) % 262144))) (by rw [ex_14]; exact wrap18 _ _) ?_
        refine lv_istore (lv' := [(7, .int (nI ((hsh 18 a b + (i + 1)) % 262144))), (8, .int (nI (v - 1))), (6, .int ac), (5, .int fr), (3, .long b), (1, .long a), (0, .ref q)]) hx hb dX15_addState_63 hl (by decide) rfl (fun ls hl => ?_)
        refine lv_goto (tgt := 9) hx hb dX15_addState_65 (by decide) ?_
        exact ih9 (i + 1) H locs ls (show d - (i + 1) < d - i by omega) ⟨hP.sub [0, 1, 2, 3, 4, 5] rfl, hD.sub [0, 1, 2, 3, 4, 5] (by decide) rfl, hS, lv_sub hl [0, 2, 3, 4, 5, 6] rfl, trivial, (show i + 1 ≤ d by omega)⟩
      · exact W.vret hx hb hr (fun t ht9 hW => ⟨⟨(fs, mn, fA, fB, bf, fy, fm), rfl, ⟨⟨Add_old (k := v - 1) (by omega) ((lg_cmp_eq _ _).mp b_11) ((lg_cmp_eq _ _).mp b_13), htab⟩, L_fs, K138_fs, K141_fs, K142_fs, K143_fs, K144_fs, K145_fs, K146_fs, K147_fs, K148_fs, K151_fs, K152_fs⟩, by rw [ht9]; exact hP.sub [0, 1, 2, 3, 4, 5] rfl, va_K.moved hW.alike (hK.sub [] rfl), hD.sub [0, 1, 2, 3, 4, 5] (by decide) rfl⟩, hS.F ht9⟩) hS.2.2 dX15_addState_54
