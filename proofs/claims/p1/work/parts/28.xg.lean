theorem dX5_sum_0 : decode cX5_sum 0 = .ok (.lload_n 0, 1) := by decide +kernel
theorem k_8_237 : Jvm.Cond.constantLong "FinderHouse$Machines" (88 : Nat) (8608480567731124087 : Int64) ∈ tb := tb8 237 (by decide +kernel) (by decide +kernel)
theorem dX5_sum_1 : decode cX5_sum 1 = .ok (.ldc2_w 88, 3) := by decide +kernel
theorem dX5_sum_4 : decode cX5_sum 4 = .ok (.land, 1) := by decide +kernel
theorem dX5_sum_5 : decode cX5_sum 5 = .ok (.lload_n 2, 1) := by decide +kernel
theorem dX5_sum_6 : decode cX5_sum 6 = .ok (.ldc2_w 88, 3) := by decide +kernel
theorem dX5_sum_9 : decode cX5_sum 9 = .ok (.land, 1) := by decide +kernel
theorem dX5_sum_10 : decode cX5_sum 10 = .ok (.ladd, 1) := by decide +kernel
theorem dX5_sum_11 : decode cX5_sum 11 = .ok (.lload_n 0, 1) := by decide +kernel
theorem dX5_sum_12 : decode cX5_sum 12 = .ok (.lload_n 2, 1) := by decide +kernel
theorem dX5_sum_13 : decode cX5_sum 13 = .ok (.lxor, 1) := by decide +kernel
theorem k_8_238 : Jvm.Cond.constantLong "FinderHouse$Machines" (90 : Nat) (-8608480567731124088 : Int64) ∈ tb := tb8 238 (by decide +kernel) (by decide +kernel)
theorem dX5_sum_14 : decode cX5_sum 14 = .ok (.ldc2_w 90, 3) := by decide +kernel
theorem dX5_sum_17 : decode cX5_sum 17 = .ok (.land, 1) := by decide +kernel
theorem dX5_sum_18 : decode cX5_sum 18 = .ok (.lxor, 1) := by decide +kernel
theorem dX5_sum_19 : decode cX5_sum 19 = .ok (.lreturn, 1) := by decide +kernel
theorem dX5_less_0 : decode cX5_less 0 = .ok (.lload_n 0, 1) := by decide +kernel
theorem dX5_less_1 : decode cX5_less 1 = .ok (.lload_n 2, 1) := by decide +kernel
theorem k_9_2 : Jvm.Cond.constantLong "FinderHouse$Machines" (92 : Nat) (-1 : Int64) ∈ tb := tb9 2 (by decide +kernel) (by decide +kernel)
theorem dX5_less_2 : decode cX5_less 2 = .ok (.ldc2_w 92, 3) := by decide +kernel
theorem dX5_less_5 : decode cX5_less 5 = .ok (.lxor, 1) := by decide +kernel
theorem k_9_3 : Jvm.Cond.constantLong "FinderHouse$Machines" (94 : Nat) (1229782938247303441 : Int64) ∈ tb := tb9 3 (by decide +kernel) (by decide +kernel)
theorem dX5_less_6 : decode cX5_less 6 = .ok (.ldc2_w 94, 3) := by decide +kernel
theorem k_8_236 : Jvm.Cond.code ({ cls := "FinderHouse$Machines", name := "sum", desc := "(JJ)J" } : Jvm.MethodName) prog_7_method_12_code (4 : Nat) (Option.some Jvm.ClassFile.FieldType.long) ∈ tb := tb8 236 (by decide +kernel) (by decide +kernel)
theorem k_8_234 : Jvm.Cond.methodLink "FinderHouse$Machines" (96 : Nat) ({ cls := "FinderHouse$Machines", name := "sum", desc := "(JJ)J" } : Jvm.MethodName) ∈ tb := tb8 234 (by decide +kernel) (by decide +kernel)
theorem k_8_235 : Jvm.Cond.static ({ cls := "FinderHouse$Machines", name := "sum", desc := "(JJ)J" } : Jvm.MethodName) ∈ tb := tb8 235 (by decide +kernel) (by decide +kernel)
theorem dX5_less_9 : decode cX5_less 9 = .ok (.invokestatic 96, 3) := by decide +kernel
theorem dX5_less_12 : decode cX5_less 12 = .ok (.invokestatic 96, 3) := by decide +kernel
theorem dX5_less_15 : decode cX5_less 15 = .ok (.lreturn, 1) := by decide +kernel
theorem dX5_product_0 : decode cX5_product 0 = .ok (.lconst 0, 1) := by decide +kernel
theorem dX5_product_1 : decode cX5_product 1 = .ok (.lstore 4, 2) := by decide +kernel
theorem dX5_product_3 : decode cX5_product 3 = .ok (.lload_n 0, 1) := by decide +kernel
theorem dX5_product_4 : decode cX5_product 4 = .ok (.lstore 6, 2) := by decide +kernel
theorem dX5_product_6 : decode cX5_product 6 = .ok (.iconst 0, 1) := by decide +kernel
theorem dX5_product_7 : decode cX5_product 7 = .ok (.istore 8, 2) := by decide +kernel
theorem dX5_product_9 : decode cX5_product 9 = .ok (.iload 8, 2) := by decide +kernel
theorem dX5_product_11 : decode cX5_product 11 = .ok (.iconst 4, 1) := by decide +kernel
theorem dX5_product_12 : decode cX5_product 12 = .ok (.if_icmp .ge 41, 3) := by decide +kernel
theorem dX5_product_15 : decode cX5_product 15 = .ok (.lload 4, 2) := by decide +kernel
theorem dX5_product_17 : decode cX5_product 17 = .ok (.lload 6, 2) := by decide +kernel
theorem dX5_product_19 : decode cX5_product 19 = .ok (.lload_n 2, 1) := by decide +kernel
theorem dX5_product_20 : decode cX5_product 20 = .ok (.iload 8, 2) := by decide +kernel
theorem dX5_product_22 : decode cX5_product 22 = .ok (.lushr, 1) := by decide +kernel
theorem dX5_product_23 : decode cX5_product 23 = .ok (.ldc2_w 94, 3) := by decide +kernel
theorem dX5_product_26 : decode cX5_product 26 = .ok (.land, 1) := by decide +kernel
theorem k_9_7 : Jvm.Cond.constantLong "FinderHouse$Machines" (100 : Nat) (15 : Int64) ∈ tb := tb9 7 (by decide +kernel) (by decide +kernel)
theorem dX5_product_27 : decode cX5_product 27 = .ok (.ldc2_w 100, 3) := by decide +kernel
theorem dX5_product_30 : decode cX5_product 30 = .ok (.lmul, 1) := by decide +kernel
theorem dX5_product_31 : decode cX5_product 31 = .ok (.land, 1) := by decide +kernel
theorem dX5_product_32 : decode cX5_product 32 = .ok (.invokestatic 96, 3) := by decide +kernel
theorem dX5_product_35 : decode cX5_product 35 = .ok (.lstore 4, 2) := by decide +kernel
theorem dX5_product_37 : decode cX5_product 37 = .ok (.lload 6, 2) := by decide +kernel
theorem dX5_product_39 : decode cX5_product 39 = .ok (.ldc2_w 88, 3) := by decide +kernel
theorem dX5_product_42 : decode cX5_product 42 = .ok (.land, 1) := by decide +kernel
theorem dX5_product_43 : decode cX5_product 43 = .ok (.iconst 1, 1) := by decide +kernel
theorem dX5_product_44 : decode cX5_product 44 = .ok (.lshl, 1) := by decide +kernel
theorem dX5_product_45 : decode cX5_product 45 = .ok (.lstore 6, 2) := by decide +kernel
theorem dX5_product_47 : decode cX5_product 47 = .ok (.iinc 8 1, 3) := by decide +kernel
theorem dX5_product_50 : decode cX5_product 50 = .ok (.goto (-41), 3) := by decide +kernel
theorem dX5_product_53 : decode cX5_product 53 = .ok (.lload 4, 2) := by decide +kernel
theorem dX5_product_55 : decode cX5_product 55 = .ok (.lreturn, 1) := by decide +kernel
theorem dX5_nextA_0 : decode cX5_nextA 0 = .ok (.iload_n 0, 1) := by decide +kernel
theorem dX5_nextA_1 : decode cX5_nextA 1 = .ok (.tableswitch 153 0 17 #[87, 153, 93, 153, 99, 153, 103, 153, 107, 153, 113, 115, 153, 123, 131, 139, 141, 147], 87) := by decide +kernel
theorem dX5_nextA_88 : decode cX5_nextA 88 = .ok (.lload_n 1, 1) := by decide +kernel
theorem dX5_nextA_89 : decode cX5_nextA 89 = .ok (.lload_n 3, 1) := by decide +kernel
theorem dX5_nextA_90 : decode cX5_nextA 90 = .ok (.invokestatic 96, 3) := by decide +kernel
theorem dX5_nextA_93 : decode cX5_nextA 93 = .ok (.lreturn, 1) := by decide +kernel
theorem dX5_nextA_154 : decode cX5_nextA 154 = .ok (.lload_n 1, 1) := by decide +kernel
theorem dX5_nextA_155 : decode cX5_nextA 155 = .ok (.lreturn, 1) := by decide +kernel
theorem dX5_nextA_94 : decode cX5_nextA 94 = .ok (.lload_n 1, 1) := by decide +kernel
theorem dX5_nextA_95 : decode cX5_nextA 95 = .ok (.lload_n 3, 1) := by decide +kernel
theorem k_9_1 : Jvm.Cond.code ({ cls := "FinderHouse$Machines", name := "less", desc := "(JJ)J" } : Jvm.MethodName) prog_7_method_13_code (4 : Nat) (Option.some Jvm.ClassFile.FieldType.long) ∈ tb := tb9 1 (by decide +kernel) (by decide +kernel)
theorem k_8_239 : Jvm.Cond.methodLink "FinderHouse$Machines" (102 : Nat) ({ cls := "FinderHouse$Machines", name := "less", desc := "(JJ)J" } : Jvm.MethodName) ∈ tb := tb8 239 (by decide +kernel) (by decide +kernel)
theorem k_9_0 : Jvm.Cond.static ({ cls := "FinderHouse$Machines", name := "less", desc := "(JJ)J" } : Jvm.MethodName) ∈ tb := tb9 0 (by decide +kernel) (by decide +kernel)
theorem dX5_nextA_96 : decode cX5_nextA 96 = .ok (.invokestatic 102, 3) := by decide +kernel
theorem dX5_nextA_99 : decode cX5_nextA 99 = .ok (.lreturn, 1) := by decide +kernel
theorem dX5_nextA_100 : decode cX5_nextA 100 = .ok (.lload_n 1, 1) := by decide +kernel
theorem dX5_nextA_101 : decode cX5_nextA 101 = .ok (.lload_n 3, 1) := by decide +kernel
theorem dX5_nextA_102 : decode cX5_nextA 102 = .ok (.lxor, 1) := by decide +kernel
theorem dX5_nextA_103 : decode cX5_nextA 103 = .ok (.lreturn, 1) := by decide +kernel
theorem dX5_nextA_104 : decode cX5_nextA 104 = .ok (.lload_n 1, 1) := by decide +kernel
theorem dX5_nextA_105 : decode cX5_nextA 105 = .ok (.lload_n 3, 1) := by decide +kernel
theorem dX5_nextA_106 : decode cX5_nextA 106 = .ok (.land, 1) := by decide +kernel
theorem dX5_nextA_107 : decode cX5_nextA 107 = .ok (.lreturn, 1) := by decide +kernel
theorem dX5_nextA_108 : decode cX5_nextA 108 = .ok (.lload_n 1, 1) := by decide +kernel
theorem dX5_nextA_109 : decode cX5_nextA 109 = .ok (.ldc2_w 92, 3) := by decide +kernel
theorem dX5_nextA_112 : decode cX5_nextA 112 = .ok (.lxor, 1) := by decide +kernel
theorem dX5_nextA_113 : decode cX5_nextA 113 = .ok (.lreturn, 1) := by decide +kernel
theorem dX5_nextA_114 : decode cX5_nextA 114 = .ok (.lload_n 3, 1) := by decide +kernel
theorem dX5_nextA_115 : decode cX5_nextA 115 = .ok (.lreturn, 1) := by decide +kernel
theorem dX5_nextA_116 : decode cX5_nextA 116 = .ok (.lload_n 1, 1) := by decide +kernel
theorem dX5_nextA_117 : decode cX5_nextA 117 = .ok (.ldc2_w 94, 3) := by decide +kernel
theorem dX5_nextA_120 : decode cX5_nextA 120 = .ok (.invokestatic 96, 3) := by decide +kernel
theorem dX5_nextA_123 : decode cX5_nextA 123 = .ok (.lreturn, 1) := by decide +kernel
theorem dX5_nextA_124 : decode cX5_nextA 124 = .ok (.lload_n 1, 1) := by decide +kernel
theorem dX5_nextA_125 : decode cX5_nextA 125 = .ok (.ldc2_w 88, 3) := by decide +kernel
theorem dX5_nextA_128 : decode cX5_nextA 128 = .ok (.land, 1) := by decide +kernel
theorem dX5_nextA_129 : decode cX5_nextA 129 = .ok (.iconst 1, 1) := by decide +kernel
theorem dX5_nextA_130 : decode cX5_nextA 130 = .ok (.lshl, 1) := by decide +kernel
theorem dX5_nextA_131 : decode cX5_nextA 131 = .ok (.lreturn, 1) := by decide +kernel
theorem dX5_nextA_132 : decode cX5_nextA 132 = .ok (.lload_n 1, 1) := by decide +kernel
theorem dX5_nextA_133 : decode cX5_nextA 133 = .ok (.iconst 1, 1) := by decide +kernel
theorem dX5_nextA_134 : decode cX5_nextA 134 = .ok (.lushr, 1) := by decide +kernel
theorem dX5_nextA_135 : decode cX5_nextA 135 = .ok (.ldc2_w 88, 3) := by decide +kernel
theorem dX5_nextA_138 : decode cX5_nextA 138 = .ok (.land, 1) := by decide +kernel
theorem dX5_nextA_139 : decode cX5_nextA 139 = .ok (.lreturn, 1) := by decide +kernel
theorem dX5_nextA_140 : decode cX5_nextA 140 = .ok (.lload_n 3, 1) := by decide +kernel
theorem dX5_nextA_141 : decode cX5_nextA 141 = .ok (.lreturn, 1) := by decide +kernel
theorem dX5_nextA_142 : decode cX5_nextA 142 = .ok (.lconst 0, 1) := by decide +kernel
theorem dX5_nextA_143 : decode cX5_nextA 143 = .ok (.lload_n 1, 1) := by decide +kernel
theorem dX5_nextA_144 : decode cX5_nextA 144 = .ok (.invokestatic 102, 3) := by decide +kernel
theorem dX5_nextA_147 : decode cX5_nextA 147 = .ok (.lreturn, 1) := by decide +kernel
theorem dX5_nextA_148 : decode cX5_nextA 148 = .ok (.lload_n 1, 1) := by decide +kernel
theorem dX5_nextA_149 : decode cX5_nextA 149 = .ok (.lload_n 3, 1) := by decide +kernel
theorem k_9_6 : Jvm.Cond.code ({ cls := "FinderHouse$Machines", name := "product", desc := "(JJ)J" } : Jvm.MethodName) prog_7_method_14_code (9 : Nat) (Option.some Jvm.ClassFile.FieldType.long) ∈ tb := tb9 6 (by decide +kernel) (by decide +kernel)
theorem k_9_4 : Jvm.Cond.methodLink "FinderHouse$Machines" (105 : Nat) ({ cls := "FinderHouse$Machines", name := "product", desc := "(JJ)J" } : Jvm.MethodName) ∈ tb := tb9 4 (by decide +kernel) (by decide +kernel)
theorem k_9_5 : Jvm.Cond.static ({ cls := "FinderHouse$Machines", name := "product", desc := "(JJ)J" } : Jvm.MethodName) ∈ tb := tb9 5 (by decide +kernel) (by decide +kernel)
theorem dX5_nextA_150 : decode cX5_nextA 150 = .ok (.invokestatic 105, 3) := by decide +kernel
theorem dX5_nextA_153 : decode cX5_nextA 153 = .ok (.lreturn, 1) := by decide +kernel
theorem dX5_nextB_0 : decode cX5_nextB 0 = .ok (.iload_n 0, 1) := by decide +kernel
theorem dX5_nextB_1 : decode cX5_nextB 1 = .ok (.tableswitch 107 1 15 #[75, 107, 81, 107, 87, 107, 91, 107, 95, 107, 107, 97, 107, 107, 105], 75) := by decide +kernel
theorem dX5_nextB_108 : decode cX5_nextB 108 = .ok (.lload_n 3, 1) := by decide +kernel
theorem dX5_nextB_109 : decode cX5_nextB 109 = .ok (.lreturn, 1) := by decide +kernel
theorem dX5_nextB_76 : decode cX5_nextB 76 = .ok (.lload_n 1, 1) := by decide +kernel
theorem dX5_nextB_77 : decode cX5_nextB 77 = .ok (.lload_n 3, 1) := by decide +kernel
theorem dX5_nextB_78 : decode cX5_nextB 78 = .ok (.invokestatic 96, 3) := by decide +kernel
theorem dX5_nextB_81 : decode cX5_nextB 81 = .ok (.lreturn, 1) := by decide +kernel
theorem dX5_nextB_82 : decode cX5_nextB 82 = .ok (.lload_n 3, 1) := by decide +kernel
theorem dX5_nextB_83 : decode cX5_nextB 83 = .ok (.lload_n 1, 1) := by decide +kernel
theorem dX5_nextB_84 : decode cX5_nextB 84 = .ok (.invokestatic 102, 3) := by decide +kernel
theorem dX5_nextB_87 : decode cX5_nextB 87 = .ok (.lreturn, 1) := by decide +kernel
theorem dX5_nextB_88 : decode cX5_nextB 88 = .ok (.lload_n 1, 1) := by decide +kernel
theorem dX5_nextB_89 : decode cX5_nextB 89 = .ok (.lload_n 3, 1) := by decide +kernel
theorem dX5_nextB_90 : decode cX5_nextB 90 = .ok (.lxor, 1) := by decide +kernel
theorem dX5_nextB_91 : decode cX5_nextB 91 = .ok (.lreturn, 1) := by decide +kernel
theorem dX5_nextB_92 : decode cX5_nextB 92 = .ok (.lload_n 1, 1) := by decide +kernel
theorem dX5_nextB_93 : decode cX5_nextB 93 = .ok (.lload_n 3, 1) := by decide +kernel
theorem dX5_nextB_94 : decode cX5_nextB 94 = .ok (.lor, 1) := by decide +kernel
theorem dX5_nextB_95 : decode cX5_nextB 95 = .ok (.lreturn, 1) := by decide +kernel
theorem dX5_nextB_96 : decode cX5_nextB 96 = .ok (.lload_n 1, 1) := by decide +kernel
theorem dX5_nextB_97 : decode cX5_nextB 97 = .ok (.lreturn, 1) := by decide +kernel
theorem dX5_nextB_98 : decode cX5_nextB 98 = .ok (.lload_n 3, 1) := by decide +kernel
theorem dX5_nextB_99 : decode cX5_nextB 99 = .ok (.ldc2_w 94, 3) := by decide +kernel
theorem dX5_nextB_102 : decode cX5_nextB 102 = .ok (.invokestatic 96, 3) := by decide +kernel
theorem dX5_nextB_105 : decode cX5_nextB 105 = .ok (.lreturn, 1) := by decide +kernel
theorem dX5_nextB_106 : decode cX5_nextB 106 = .ok (.lload_n 1, 1) := by decide +kernel
theorem dX5_nextB_107 : decode cX5_nextB 107 = .ok (.lreturn, 1) := by decide +kernel
set_option maxHeartbeats 4000000 in
set_option maxRecDepth 100000 in
theorem x_sum (l : Launch) (dC : Nat → ClassId) (dI : Nat → Nat → Nat) (sz : Nat) (a : Int64) (b : Int64)  : Met l yX5_sum (Cond.code yX5_sum cX5_sum 4 (some .long) :: tb) ({ frames := 0, cells := 0, slots := 0, locals := 0 }) (pcw [.long a, .long b] (dC, dI) [] [] sz) (va_Ql (fun (r : Int64) => (fun (_ : Unit) => r = lsum a b)) (bw (dC, dI) (va_A [] sz) (fun (_ : Unit) => []) (fun (_ : Unit) => [])) (va_A [] sz)) 0 0 (va_A [] sz) := by
  refine Met.ofW (cc := cX5_sum) (maxL := 4) (ret := (some .long)) (by decide) rfl ?_
  intro p e s m args below meth c s₁ B hml hv
  obtain ⟨rfl, hsz, hP, hK, hD0⟩ := hv
  have hx := B.exec
  have hb := B.bytes
  have hr := B.returns
  have hts := atoms_spec (ws := Cond.code yX5_sum cX5_sum 4 (some .long) :: tb) B.pre
  have ht : ∀ w ∈ tb, w.before _ s = true := fun w h => hts w (List.mem_cons_of_mem _ h)
  have hown : s.vm.findClass RX5 = some m.cls := findClass_of_methodNamed B.named
  have hlocks := B.notSynchronized
  subst hsz
  have hD := hD0.self (sz := s.heap.size)
  generalize hAe : va_A [] s.heap.size = A at hD ⊢
  have hA : ∀ q : Nat, s.heap.size ≤ q → A q := fun q h => by rw [← hAe]; exact Or.inr h
  have hS : va_S A s.heap s.heap [] := va_S.rf
  have hl := lv_entry ([.long a, .long b]) (n := 4) (Nat.le_of_ble_eq_true rfl)
  rw [lg_entry_eq]
  generalize (lg_sl ([.long a, .long b]) ++ List.replicate (4 - (lg_sl ([.long a, .long b])).length) Slot.unset).toArray = ls at hl ⊢
  have hl : lv_has ls 4 [(0, .long a), (2, .long b)] := hl
  have hP : va_P (dC, dI) cls [] s.heap := hP
  refine lv_lload_n hx hb dX5_sum_0 rfl (lv_at hl 0 rfl) ?_
  refine lv_ldc2 (v := 8608480567731124087) hx hb hown (ht _ k_8_237) dX5_sum_1 ?_
  refine lv_land hx hb dX5_sum_4 ?_
  refine lv_topl (fun x_1 ex_1 => ?_)
  refine lv_lload_n hx hb dX5_sum_5 rfl (lv_at hl 1 rfl) ?_
  refine lv_ldc2 (v := 8608480567731124087) hx hb hown (ht _ k_8_237) dX5_sum_6 ?_
  refine lv_land hx hb dX5_sum_9 ?_
  refine lv_topl (fun x_2 ex_2 => ?_)
  refine lv_ladd hx hb dX5_sum_10 ?_
  refine lv_topl (fun x_3 ex_3 => ?_)
  refine lv_lload_n hx hb dX5_sum_11 rfl (lv_at hl 0 rfl) ?_
  refine lv_lload_n hx hb dX5_sum_12 rfl (lv_at hl 1 rfl) ?_
  refine lv_lxor hx hb dX5_sum_13 ?_
  refine lv_topl (fun x_4 ex_4 => ?_)
  refine lv_ldc2 (v := (-8608480567731124088)) hx hb hown (ht _ k_8_238) dX5_sum_14 ?_
  refine lv_land hx hb dX5_sum_17 ?_
  refine lv_topl (fun x_5 ex_5 => ?_)
  refine lv_lxor hx hb dX5_sum_18 ?_
  refine lv_topl (fun x_6 ex_6 => ?_)
  exact W.lret (v := x_6) hx hb hr (fun t ht9 hW => ⟨⟨x_6, (), rfl, (by rw [ex_6, ex_5, ex_4, ex_3, ex_2, ex_1]; rfl), by rw [ht9]; exact hP.sub [] rfl, va_K.moved hW.alike (hK.sub [] rfl), hD.sub [] (by decide) rfl⟩, hS.F ht9⟩) hS.2.2 dX5_sum_19
set_option maxHeartbeats 4000000 in
set_option maxRecDepth 100000 in
theorem x_less (l : Launch) (dC : Nat → ClassId) (dI : Nat → Nat → Nat) (sz : Nat) (a : Int64) (b : Int64)  : Met l yX5_less (Cond.code yX5_less cX5_less 4 (some .long) :: tb) ({ frames := 1, cells := 0, slots := 0, locals := 23 }) (pcw [.long a, .long b] (dC, dI) [] [] sz) (va_Ql (fun (r : Int64) => (fun (_ : Unit) => r = lless a b)) (bw (dC, dI) (va_A [] sz) (fun (_ : Unit) => []) (fun (_ : Unit) => [])) (va_A [] sz)) 0 0 (va_A [] sz) := by
  refine Met.ofW (cc := cX5_less) (maxL := 4) (ret := (some .long)) (by decide) rfl ?_
  intro p e s m args below meth c s₁ B hml hv
  obtain ⟨rfl, hsz, hP, hK, hD0⟩ := hv
  have hx := B.exec
  have hb := B.bytes
  have hr := B.returns
  have hts := atoms_spec (ws := Cond.code yX5_less cX5_less 4 (some .long) :: tb) B.pre
  have ht : ∀ w ∈ tb, w.before _ s = true := fun w h => hts w (List.mem_cons_of_mem _ h)
  have hown : s.vm.findClass RX5 = some m.cls := findClass_of_methodNamed B.named
  have hlocks := B.notSynchronized
  subst hsz
  have hD := hD0.self (sz := s.heap.size)
  generalize hAe : va_A [] s.heap.size = A at hD ⊢
  have hA : ∀ q : Nat, s.heap.size ≤ q → A q := fun q h => by rw [← hAe]; exact Or.inr h
  have hS : va_S A s.heap s.heap [] := va_S.rf
  have hl := lv_entry ([.long a, .long b]) (n := 4) (Nat.le_of_ble_eq_true rfl)
  rw [lg_entry_eq]
  generalize (lg_sl ([.long a, .long b]) ++ List.replicate (4 - (lg_sl ([.long a, .long b])).length) Slot.unset).toArray = ls at hl ⊢
  have hl : lv_has ls 4 [(0, .long a), (2, .long b)] := hl
  have hP : va_P (dC, dI) cls [] s.heap := hP
  refine lv_lload_n hx hb dX5_less_0 rfl (lv_at hl 0 rfl) ?_
  refine lv_lload_n hx hb dX5_less_1 rfl (lv_at hl 1 rfl) ?_
  refine lv_ldc2 (v := (-1)) hx hb hown (ht _ k_9_2) dX5_less_2 ?_
  refine lv_lxor hx hb dX5_less_5 ?_
  refine lv_topl (fun x_1 ex_1 => ?_)
  refine lv_ldc2 (v := 1229782938247303441) hx hb hown (ht _ k_9_3) dX5_less_6 ?_
  refine ca_l (wr := []) (va_runS (As := [.long x_1, .long 1229782938247303441]) (rest := [.long a]) ⟨hx, hb, hml, hown, ht⟩ (x_sum l dC dI s.heap.size x_1 1229782938247303441  ) (cwS 2 ht (gdS k_8_236 k_8_234 k_8_235 k_1_15) rfl rfl rfl (by decide +kernel) ⟨Nat.le_of_ble_eq_true rfl, Nat.le_of_ble_eq_true rfl⟩) ⟨pcw_blind, pcw_at hP hD hK [] [] (by decide) rfl rfl rfl⟩ rfl rfl hl.1 rfl (lv_room (Nat.le_of_ble_eq_true rfl)) dX5_less_9 ⟨Nat.le_of_ble_eq_true rfl, Nat.le_of_ble_eq_true rfl⟩) hP hD hK hS hA [] [] rfl rfl (by decide) (by decide) (fun r_2 u H locs w_3 hK hP hD hS => ?_)
  have hK : va_K (dC, dI) cls [] s := hK
  have hP : va_P (dC, dI) cls [] H := hP
  have hD : va_D A [] := hD
  refine ca_l (wr := []) (va_runS (As := [.long a, .long r_2]) (rest := []) ⟨hx, hb, hml, hown, ht⟩ (x_sum l dC dI H.size a r_2  ) (cwS 2 ht (gdS k_8_236 k_8_234 k_8_235 k_1_15) rfl rfl rfl (by decide +kernel) ⟨Nat.le_of_ble_eq_true rfl, Nat.le_of_ble_eq_true rfl⟩) ⟨pcw_blind, pcw_at hP hD hK [] [] (by decide) rfl rfl rfl⟩ rfl rfl hl.1 rfl (lv_room (Nat.le_of_ble_eq_true rfl)) dX5_less_12 ⟨Nat.le_of_ble_eq_true rfl, Nat.le_of_ble_eq_true rfl⟩) hP hD hK hS hA [] [] rfl rfl (by decide) (by decide) (fun r_4 u H locs w_5 hK hP hD hS => ?_)
  have hK : va_K (dC, dI) cls [] s := hK
  have hP : va_P (dC, dI) cls [] H := hP
  have hD : va_D A [] := hD
  exact W.lret (v := r_4) hx hb hr (fun t ht9 hW => ⟨⟨r_4, (), rfl, (by rw [w_5, w_3, ex_1]; rfl), by rw [ht9]; exact hP.sub [] rfl, va_K.moved hW.alike (hK.sub [] rfl), hD.sub [] (by decide) rfl⟩, hS.F ht9⟩) hS.2.2 dX5_less_15
set_option maxHeartbeats 4000000 in
set_option maxRecDepth 100000 in
theorem x_product (l : Launch) (dC : Nat → ClassId) (dI : Nat → Nat → Nat) (sz : Nat) (a : Int64) (b : Int64)  : Met l yX5_product (Cond.code yX5_product cX5_product 9 (some .long) :: tb) ({ frames := 1, cells := 0, slots := 0, locals := 23 }) (pcw [.long a, .long b] (dC, dI) [] [] sz) (va_Ql (fun (r : Int64) => (fun (_ : Unit) => r = lprod a b)) (bw (dC, dI) (va_A [] sz) (fun (_ : Unit) => []) (fun (_ : Unit) => [])) (va_A [] sz)) 0 0 (va_A [] sz) := by
  refine Met.ofW (cc := cX5_product) (maxL := 9) (ret := (some .long)) (by decide) rfl ?_
  intro p e s m args below meth c s₁ B hml hv
  obtain ⟨rfl, hsz, hP, hK, hD0⟩ := hv
  have hx := B.exec
  have hb := B.bytes
  have hr := B.returns
  have hts := atoms_spec (ws := Cond.code yX5_product cX5_product 9 (some .long) :: tb) B.pre
  have ht : ∀ w ∈ tb, w.before _ s = true := fun w h => hts w (List.mem_cons_of_mem _ h)
  have hown : s.vm.findClass RX5 = some m.cls := findClass_of_methodNamed B.named
  have hlocks := B.notSynchronized
  subst hsz
  have hD := hD0.self (sz := s.heap.size)
  generalize hAe : va_A [] s.heap.size = A at hD ⊢
  have hA : ∀ q : Nat, s.heap.size ≤ q → A q := fun q h => by rw [← hAe]; exact Or.inr h
  have hS : va_S A s.heap s.heap [] := va_S.rf
  have hl := lv_entry ([.long a, .long b]) (n := 9) (Nat.le_of_ble_eq_true rfl)
  rw [lg_entry_eq]
  generalize (lg_sl ([.long a, .long b]) ++ List.replicate (9 - (lg_sl ([.long a, .long b])).length) Slot.unset).toArray = ls at hl ⊢
  have hl : lv_has ls 9 [(0, .long a), (2, .long b)] := hl
  have hP : va_P (dC, dI) cls [] s.heap := hP
  refine lv_lconst (v := 0) hx hb dX5_product_0 (by decide) ?_
  refine lv_lstore (lv' := [(4, .long 0), (0, .long a), (2, .long b)]) hx hb dX5_product_1 hl (by decide) rfl (fun ls hl => ?_)
  refine lv_lload_n hx hb dX5_product_3 rfl (lv_at hl 1 rfl) ?_
  refine lv_lstore (lv' := [(6, .long a), (4, .long 0), (0, .long a), (2, .long b)]) hx hb dX5_product_4 hl (by decide) rfl (fun ls hl => ?_)
  refine lv_iconst (v := 0) hx hb dX5_product_6 (by decide) ?_
  refine lv_istore (lv' := [(8, .int 0), (6, .long a), (4, .long 0), (0, .long a), (2, .long b)]) hx hb dX5_product_7 hl (by decide) rfl (fun ls hl => ?_)
  refine lv_iload hx hb dX5_product_9 (lv_at hl 0 rfl) ?_
  refine lv_iconst (v := 4) hx hb dX5_product_11 (by decide) ?_
  refine lv_icmp_ge (tgt := 53) hx hb dX5_product_12 (by decide) (fun c0 => absurd c0 (by decide)) (fun _ => ?_)
  refine lv_lload hx hb dX5_product_15 (lv_at hl 2 rfl) ?_
  refine lv_lload hx hb dX5_product_17 (lv_at hl 1 rfl) ?_
  refine lv_lload_n hx hb dX5_product_19 rfl (lv_at hl 4 rfl) ?_
  refine lv_iload hx hb dX5_product_20 (lv_at hl 0 rfl) ?_
  refine lv_lushr hx hb dX5_product_22 rfl ?_
  refine lv_topl (fun x_1 ex_1 => ?_)
  refine lv_ldc2 (v := 1229782938247303441) hx hb hown (ht _ k_9_3) dX5_product_23 ?_
  refine lv_land hx hb dX5_product_26 ?_
  refine lv_topl (fun x_2 ex_2 => ?_)
  refine lv_ldc2 (v := 15) hx hb hown (ht _ k_9_7) dX5_product_27 ?_
  refine lv_lmul hx hb dX5_product_30 ?_
  refine lv_topl (fun x_3 ex_3 => ?_)
  refine lv_land hx hb dX5_product_31 ?_
  refine lv_topl (fun x_4 ex_4 => ?_)
  refine ca_l (wr := []) (va_runS (As := [.long 0, .long x_4]) (rest := []) ⟨hx, hb, hml, hown, ht⟩ (x_sum l dC dI s.heap.size 0 x_4  ) (cwS 2 ht (gdS k_8_236 k_8_234 k_8_235 k_1_15) rfl rfl rfl (by decide +kernel) ⟨Nat.le_of_ble_eq_true rfl, Nat.le_of_ble_eq_true rfl⟩) ⟨pcw_blind, pcw_at hP hD hK [] [] (by decide) rfl rfl rfl⟩ rfl rfl hl.1 rfl (lv_room (Nat.le_of_ble_eq_true rfl)) dX5_product_32 ⟨Nat.le_of_ble_eq_true rfl, Nat.le_of_ble_eq_true rfl⟩) hP hD hK hS hA [] [] rfl rfl (by decide) (by decide) (fun r_5 u H locs w_6 hK hP hD hS => ?_)
  have hK : va_K (dC, dI) cls [] s := hK
  have hP : va_P (dC, dI) cls [] H := hP
  have hD : va_D A [] := hD
  refine lv_lstore (lv' := [(4, .long r_5), (8, .int 0), (6, .long a), (0, .long a), (2, .long b)]) hx hb dX5_product_35 hl (by decide) rfl (fun ls hl => ?_)
  refine lv_lload hx hb dX5_product_37 (lv_at hl 2 rfl) ?_
  refine lv_ldc2 (v := 8608480567731124087) hx hb hown (ht _ k_8_237) dX5_product_39 ?_
  refine lv_land hx hb dX5_product_42 ?_
  refine lv_topl (fun x_7 ex_7 => ?_)
  refine lv_iconst (v := 1) hx hb dX5_product_43 (by decide) ?_
  refine lv_lshl hx hb dX5_product_44 rfl ?_
  refine lv_topl (fun x_8 ex_8 => ?_)
  refine lv_lstore (lv' := [(6, .long x_8), (4, .long r_5), (8, .int 0), (0, .long a), (2, .long b)]) hx hb dX5_product_45 hl (by decide) rfl (fun ls hl => ?_)
  refine lv_iinc (v := 1) (lv' := [(8, .int 1), (6, .long x_8), (4, .long r_5), (0, .long a), (2, .long b)]) hx hb dX5_product_47 hl (k := 2) rfl (by decide) (by decide) rfl (fun ls hl => ?_)
  refine lv_goto (tgt := 9) hx hb dX5_product_50 (by decide) ?_
  refine lv_iload hx hb dX5_product_9 (lv_at hl 0 rfl) ?_
  refine lv_iconst (v := 4) hx hb dX5_product_11 (by decide) ?_
  refine lv_icmp_ge (tgt := 53) hx hb dX5_product_12 (by decide) (fun c0 => absurd c0 (by decide)) (fun _ => ?_)
  refine lv_lload hx hb dX5_product_15 (lv_at hl 2 rfl) ?_
  refine lv_lload hx hb dX5_product_17 (lv_at hl 1 rfl) ?_
  refine lv_lload_n hx hb dX5_product_19 rfl (lv_at hl 4 rfl) ?_
  refine lv_iload hx hb dX5_product_20 (lv_at hl 0 rfl) ?_
  refine lv_lushr hx hb dX5_product_22 rfl ?_
  refine lv_topl (fun x_9 ex_9 => ?_)
  refine lv_ldc2 (v := 1229782938247303441) hx hb hown (ht _ k_9_3) dX5_product_23 ?_
  refine lv_land hx hb dX5_product_26 ?_
  refine lv_topl (fun x_10 ex_10 => ?_)
  refine lv_ldc2 (v := 15) hx hb hown (ht _ k_9_7) dX5_product_27 ?_
  refine lv_lmul hx hb dX5_product_30 ?_
  refine lv_topl (fun x_11 ex_11 => ?_)
  refine lv_land hx hb dX5_product_31 ?_
  refine lv_topl (fun x_12 ex_12 => ?_)
  refine ca_l (wr := []) (va_runS (As := [.long r_5, .long x_12]) (rest := []) ⟨hx, hb, hml, hown, ht⟩ (x_sum l dC dI H.size r_5 x_12  ) (cwS 2 ht (gdS k_8_236 k_8_234 k_8_235 k_1_15) rfl rfl rfl (by decide +kernel) ⟨Nat.le_of_ble_eq_true rfl, Nat.le_of_ble_eq_true rfl⟩) ⟨pcw_blind, pcw_at hP hD hK [] [] (by decide) rfl rfl rfl⟩ rfl rfl hl.1 rfl (lv_room (Nat.le_of_ble_eq_true rfl)) dX5_product_32 ⟨Nat.le_of_ble_eq_true rfl, Nat.le_of_ble_eq_true rfl⟩) hP hD hK hS hA [] [] rfl rfl (by decide) (by decide) (fun r_13 u H locs w_14 hK hP hD hS => ?_)
  have hK : va_K (dC, dI) cls [] s := hK
  have hP : va_P (dC, dI) cls [] H := hP
  have hD : va_D A [] := hD
  refine lv_lstore (lv' := [(4, .long r_13), (8, .int 1), (6, .long x_8), (0, .long a), (2, .long b)]) hx hb dX5_product_35 hl (by decide) rfl (fun ls hl => ?_)
  refine lv_lload hx hb dX5_product_37 (lv_at hl 2 rfl) ?_
  refine lv_ldc2 (v := 8608480567731124087) hx hb hown (ht _ k_8_237) dX5_product_39 ?_
  refine lv_land hx hb dX5_product_42 ?_
  refine lv_topl (fun x_15 ex_15 => ?_)
  refine lv_iconst (v := 1) hx hb dX5_product_43 (by decide) ?_
  refine lv_lshl hx hb dX5_product_44 rfl ?_
  refine lv_topl (fun x_16 ex_16 => ?_)
  refine lv_lstore (lv' := [(6, .long x_16), (4, .long r_13), (8, .int 1), (0, .long a), (2, .long b)]) hx hb dX5_product_45 hl (by decide) rfl (fun ls hl => ?_)
  refine lv_iinc (v := 2) (lv' := [(8, .int 2), (6, .long x_16), (4, .long r_13), (0, .long a), (2, .long b)]) hx hb dX5_product_47 hl (k := 2) rfl (by decide) (by decide) rfl (fun ls hl => ?_)
  refine lv_goto (tgt := 9) hx hb dX5_product_50 (by decide) ?_
  refine lv_iload hx hb dX5_product_9 (lv_at hl 0 rfl) ?_
  refine lv_iconst (v := 4) hx hb dX5_product_11 (by decide) ?_
  refine lv_icmp_ge (tgt := 53) hx hb dX5_product_12 (by decide) (fun c0 => absurd c0 (by decide)) (fun _ => ?_)
  refine lv_lload hx hb dX5_product_15 (lv_at hl 2 rfl) ?_
  refine lv_lload hx hb dX5_product_17 (lv_at hl 1 rfl) ?_
  refine lv_lload_n hx hb dX5_product_19 rfl (lv_at hl 4 rfl) ?_
  refine lv_iload hx hb dX5_product_20 (lv_at hl 0 rfl) ?_
  refine lv_lushr hx hb dX5_product_22 rfl ?_
  refine lv_topl (fun x_17 ex_17 => ?_)
  refine lv_ldc2 (v := 1229782938247303441) hx hb hown (ht _ k_9_3) dX5_product_23 ?_
  refine lv_land hx hb dX5_product_26 ?_
  refine lv_topl (fun x_18 ex_18 => ?_)
  refine lv_ldc2 (v := 15) hx hb hown (ht _ k_9_7) dX5_product_27 ?_
  refine lv_lmul hx hb dX5_product_30 ?_
  refine lv_topl (fun x_19 ex_19 => ?_)
  refine lv_land hx hb dX5_product_31 ?_
  refine lv_topl (fun x_20 ex_20 => ?_)
  refine ca_l (wr := []) (va_runS (As := [.long r_13, .long x_20]) (rest := []) ⟨hx, hb, hml, hown, ht⟩ (x_sum l dC dI H.size r_13 x_20  ) (cwS 2 ht (gdS k_8_236 k_8_234 k_8_235 k_1_15) rfl rfl rfl (by decide +kernel) ⟨Nat.le_of_ble_eq_true rfl, Nat.le_of_ble_eq_true rfl⟩) ⟨pcw_blind, pcw_at hP hD hK [] [] (by decide) rfl rfl rfl⟩ rfl rfl hl.1 rfl (lv_room (Nat.le_of_ble_eq_true rfl)) dX5_product_32 ⟨Nat.le_of_ble_eq_true rfl, Nat.le_of_ble_eq_true rfl⟩) hP hD hK hS hA [] [] rfl rfl (by decide) (by decide) (fun r_21 u H locs w_22 hK hP hD hS => ?_)
  have hK : va_K (dC, dI) cls [] s := hK
  have hP : va_P (dC, dI) cls [] H := hP
  have hD : va_D A [] := hD
  refine lv_lstore (lv' := [(4, .long r_21), (8, .int 2), (6, .long x_16), (0, .long a), (2, .long b)]) hx hb dX5_product_35 hl (by decide) rfl (fun ls hl => ?_)
  refine lv_lload hx hb dX5_product_37 (lv_at hl 2 rfl) ?_
  refine lv_ldc2 (v := 8608480567731124087) hx hb hown (ht _ k_8_237) dX5_product_39 ?_
  refine lv_land hx hb dX5_product_42 ?_
  refine lv_topl (fun x_23 ex_23 => ?_)
  refine lv_iconst (v := 1) hx hb dX5_product_43 (by decide) ?_
  refine lv_lshl hx hb dX5_product_44 rfl ?_
  refine lv_topl (fun x_24 ex_24 => ?_)
  refine lv_lstore (lv' := [(6, .long x_24), (4, .long r_21), (8, .int 2), (0, .long a), (2, .long b)]) hx hb dX5_product_45 hl (by decide) rfl (fun ls hl => ?_)
  refine lv_iinc (v := 3) (lv' := [(8, .int 3), (6, .long x_24), (4, .long r_21), (0, .long a), (2, .long b)]) hx hb dX5_product_47 hl (k := 2) rfl (by decide) (by decide) rfl (fun ls hl => ?_)
  refine lv_goto (tgt := 9) hx hb dX5_product_50 (by decide) ?_
  refine lv_iload hx hb dX5_product_9 (lv_at hl 0 rfl) ?_
  refine lv_iconst (v := 4) hx hb dX5_product_11 (by decide) ?_
  refine lv_icmp_ge (tgt := 53) hx hb dX5_product_12 (by decide) (fun c0 => absurd c0 (by decide)) (fun _ => ?_)
  refine lv_lload hx hb dX5_product_15 (lv_at hl 2 rfl) ?_
  refine lv_lload hx hb dX5_product_17 (lv_at hl 1 rfl) ?_
  refine lv_lload_n hx hb dX5_product_19 rfl (lv_at hl 4 rfl) ?_
  refine lv_iload hx hb dX5_product_20 (lv_at hl 0 rfl) ?_
  refine lv_lushr hx hb dX5_product_22 rfl ?_
  refine lv_topl (fun x_25 ex_25 => ?_)
  refine lv_ldc2 (v := 1229782938247303441) hx hb hown (ht _ k_9_3) dX5_product_23 ?_
  refine lv_land hx hb dX5_product_26 ?_
  refine lv_topl (fun x_26 ex_26 => ?_)
  refine lv_ldc2 (v := 15) hx hb hown (ht _ k_9_7) dX5_product_27 ?_
  refine lv_lmul hx hb dX5_product_30 ?_
  refine lv_topl (fun x_27 ex_27 => ?_)
  refine lv_land hx hb dX5_product_31 ?_
  refine lv_topl (fun x_28 ex_28 => ?_)
  refine ca_l (wr := []) (va_runS (As := [.long r_21, .long x_28]) (rest := []) ⟨hx, hb, hml, hown, ht⟩ (x_sum l dC dI H.size r_21 x_28  ) (cwS 2 ht (gdS k_8_236 k_8_234 k_8_235 k_1_15) rfl rfl rfl (by decide +kernel) ⟨Nat.le_of_ble_eq_true rfl, Nat.le_of_ble_eq_true rfl⟩) ⟨pcw_blind, pcw_at hP hD hK [] [] (by decide) rfl rfl rfl⟩ rfl rfl hl.1 rfl (lv_room (Nat.le_of_ble_eq_true rfl)) dX5_product_32 ⟨Nat.le_of_ble_eq_true rfl, Nat.le_of_ble_eq_true rfl⟩) hP hD hK hS hA [] [] rfl rfl (by decide) (by decide) (fun r_29 u H locs w_30 hK hP hD hS => ?_)
  have hK : va_K (dC, dI) cls [] s := hK
  have hP : va_P (dC, dI) cls [] H := hP
  have hD : va_D A [] := hD
  refine lv_lstore (lv' := [(4, .long r_29), (8, .int 3), (6, .long x_24), (0, .long a), (2, .long b)]) hx hb dX5_product_35 hl (by decide) rfl (fun ls hl => ?_)
  refine lv_lload hx hb dX5_product_37 (lv_at hl 2 rfl) ?_
  refine lv_ldc2 (v := 8608480567731124087) hx hb hown (ht _ k_8_237) dX5_product_39 ?_
  refine lv_land hx hb dX5_product_42 ?_
  refine lv_topl (fun x_31 ex_31 => ?_)
  refine lv_iconst (v := 1) hx hb dX5_product_43 (by decide) ?_
  refine lv_lshl hx hb dX5_product_44 rfl ?_
  refine lv_topl (fun x_32 ex_32 => ?_)
  refine lv_lstore (lv' := [(6, .long x_32), (4, .long r_29), (8, .int 3), (0, .long a), (2, .long b)]) hx hb dX5_product_45 hl (by decide) rfl (fun ls hl => ?_)
  refine lv_iinc (v := 4) (lv' := [(8, .int 4), (6, .long x_32), (4, .long r_29), (0, .long a), (2, .long b)]) hx hb dX5_product_47 hl (k := 2) rfl (by decide) (by decide) rfl (fun ls hl => ?_)
  refine lv_goto (tgt := 9) hx hb dX5_product_50 (by decide) ?_
  refine lv_iload hx hb dX5_product_9 (lv_at hl 0 rfl) ?_
  refine lv_iconst (v := 4) hx hb dX5_product_11 (by decide) ?_
  refine lv_icmp_ge (tgt := 53) hx hb dX5_product_12 (by decide) (fun _ => ?_) (fun c0 => absurd c0 (by decide))
  refine lv_lload hx hb dX5_product_53 (lv_at hl 2 rfl) ?_
  exact W.lret (v := r_29) hx hb hr (fun t ht9 hW => ⟨⟨r_29, (), rfl, (by simp only [ex_32, ex_31, w_30, ex_28, ex_27, ex_26, ex_25, ex_24, ex_23, w_22, ex_20, ex_19, ex_18, ex_17, ex_16, ex_15, w_14, ex_12, ex_11, ex_10, ex_9, ex_8, ex_7, w_6, ex_4, ex_3, ex_2, ex_1]; rfl), by rw [ht9]; exact hP.sub [] rfl, va_K.moved hW.alike (hK.sub [] rfl), hD.sub [] (by decide) rfl⟩, hS.F ht9⟩) hS.2.2 dX5_product_55
set_option maxHeartbeats 4000000 in
set_option maxRecDepth 100000 in
theorem x_nextA_0 (l : Launch) (dC : Nat → ClassId) (dI : Nat → Nat → Nat) (sz : Nat) (a : Int64) (b : Int64)  : Met l yX5_nextA (Cond.code yX5_nextA cX5_nextA 5 (some .long) :: tb) ({ frames := 4, cells := 0, slots := 0, locals := 120 }) (pcw [.int 0, .long a, .long b] (dC, dI) [] [] sz) (va_Ql (fun (r : Int64) => (fun (_ : Unit) => r = nxA 0 a b)) (bw (dC, dI) (va_A [] sz) (fun (_ : Unit) => []) (fun (_ : Unit) => [])) (va_A [] sz)) 0 0 (va_A [] sz) := by
  refine Met.ofW (cc := cX5_nextA) (maxL := 5) (ret := (some .long)) (by decide) rfl ?_
  intro p e s m args below meth c s₁ B hml hv
  obtain ⟨rfl, hsz, hP, hK, hD0⟩ := hv
  have hx := B.exec
  have hb := B.bytes
  have hr := B.returns
  have hts := atoms_spec (ws := Cond.code yX5_nextA cX5_nextA 5 (some .long) :: tb) B.pre
  have ht : ∀ w ∈ tb, w.before _ s = true := fun w h => hts w (List.mem_cons_of_mem _ h)
  have hown : s.vm.findClass RX5 = some m.cls := findClass_of_methodNamed B.named
  have hlocks := B.notSynchronized
  subst hsz
  have hD := hD0.self (sz := s.heap.size)
  generalize hAe : va_A [] s.heap.size = A at hD ⊢
  have hA : ∀ q : Nat, s.heap.size ≤ q → A q := fun q h => by rw [← hAe]; exact Or.inr h
  have hS : va_S A s.heap s.heap [] := va_S.rf
  have hl := lv_entry ([.int 0, .long a, .long b]) (n := 5) (Nat.le_of_ble_eq_true rfl)
  rw [lg_entry_eq]
  generalize (lg_sl ([.int 0, .long a, .long b]) ++ List.replicate (5 - (lg_sl ([.int 0, .long a, .long b])).length) Slot.unset).toArray = ls at hl ⊢
  have hl : lv_has ls 5 [(0, .int 0), (1, .long a), (3, .long b)] := hl
  have hP : va_P (dC, dI) cls [] s.heap := hP
  refine lv_iload_n hx hb dX5_nextA_0 rfl (lv_at hl 0 rfl) ?_
  refine lv_tableIn (off := 87) (tgt := 88) hx hb dX5_nextA_1 (by decide) (by decide) (by decide) (by decide) ?_
  refine lv_lload_n hx hb dX5_nextA_88 rfl (lv_at hl 1 rfl) ?_
  refine lv_lload_n hx hb dX5_nextA_89 rfl (lv_at hl 2 rfl) ?_
  refine ca_l (wr := []) (va_runS (As := [.long a, .long b]) (rest := []) ⟨hx, hb, hml, hown, ht⟩ (x_sum l dC dI s.heap.size a b  ) (cwS 2 ht (gdS k_8_236 k_8_234 k_8_235 k_1_15) rfl rfl rfl (by decide +kernel) ⟨Nat.le_of_ble_eq_true rfl, Nat.le_of_ble_eq_true rfl⟩) ⟨pcw_blind, pcw_at hP hD hK [] [] (by decide) rfl rfl rfl⟩ rfl rfl hl.1 rfl (lv_room (Nat.le_of_ble_eq_true rfl)) dX5_nextA_90 ⟨Nat.le_of_ble_eq_true rfl, Nat.le_of_ble_eq_true rfl⟩) hP hD hK hS hA [] [] rfl rfl (by decide) (by decide) (fun r_1 u H locs w_2 hK hP hD hS => ?_)
  have hK : va_K (dC, dI) cls [] s := hK
  have hP : va_P (dC, dI) cls [] H := hP
  have hD : va_D A [] := hD
  exact W.lret (v := r_1) hx hb hr (fun t ht9 hW => ⟨⟨r_1, (), rfl, (by simp only [w_2]; rfl), by rw [ht9]; exact hP.sub [] rfl, va_K.moved hW.alike (hK.sub [] rfl), hD.sub [] (by decide) rfl⟩, hS.F ht9⟩) hS.2.2 dX5_nextA_93
set_option maxHeartbeats 4000000 in
set_option maxRecDepth 100000 in
theorem x_nextA_1 (l : Launch) (dC : Nat → ClassId) (dI : Nat → Nat → Nat) (sz : Nat) (a : Int64) (b : Int64)  : Met l yX5_nextA (Cond.code yX5_nextA cX5_nextA 5 (some .long) :: tb) ({ frames := 4, cells := 0, slots := 0, locals := 120 }) (pcw [.int 1, .long a, .long b] (dC, dI) [] [] sz) (va_Ql (fun (r : Int64) => (fun (_ : Unit) => r = nxA 1 a b)) (bw (dC, dI) (va_A [] sz) (fun (_ : Unit) => []) (fun (_ : Unit) => [])) (va_A [] sz)) 0 0 (va_A [] sz) := by
  refine Met.ofW (cc := cX5_nextA) (maxL := 5) (ret := (some .long)) (by decide) rfl ?_
  intro p e s m args below meth c s₁ B hml hv
  obtain ⟨rfl, hsz, hP, hK, hD0⟩ := hv
  have hx := B.exec
  have hb := B.bytes
  have hr := B.returns
  have hts := atoms_spec (ws := Cond.code yX5_nextA cX5_nextA 5 (some .long) :: tb) B.pre
  have ht : ∀ w ∈ tb, w.before _ s = true := fun w h => hts w (List.mem_cons_of_mem _ h)
  have hown : s.vm.findClass RX5 = some m.cls := findClass_of_methodNamed B.named
  have hlocks := B.notSynchronized
  subst hsz
  have hD := hD0.self (sz := s.heap.size)
  generalize hAe : va_A [] s.heap.size = A at hD ⊢
  have hA : ∀ q : Nat, s.heap.size ≤ q → A q := fun q h => by rw [← hAe]; exact Or.inr h
  have hS : va_S A s.heap s.heap [] := va_S.rf
  have hl := lv_entry ([.int 1, .long a, .long b]) (n := 5) (Nat.le_of_ble_eq_true rfl)
  rw [lg_entry_eq]
  generalize (lg_sl ([.int 1, .long a, .long b]) ++ List.replicate (5 - (lg_sl ([.int 1, .long a, .long b])).length) Slot.unset).toArray = ls at hl ⊢
  have hl : lv_has ls 5 [(0, .int 1), (1, .long a), (3, .long b)] := hl
  have hP : va_P (dC, dI) cls [] s.heap := hP
  refine lv_iload_n hx hb dX5_nextA_0 rfl (lv_at hl 0 rfl) ?_
  refine lv_tableIn (off := 153) (tgt := 154) hx hb dX5_nextA_1 (by decide) (by decide) (by decide) (by decide) ?_
  refine lv_lload_n hx hb dX5_nextA_154 rfl (lv_at hl 1 rfl) ?_
  exact W.lret (v := a) hx hb hr (fun t ht9 hW => ⟨⟨a, (), rfl, rfl, by rw [ht9]; exact hP.sub [] rfl, va_K.moved hW.alike (hK.sub [] rfl), hD.sub [] (by decide) rfl⟩, hS.F ht9⟩) hS.2.2 dX5_nextA_155
set_option maxHeartbeats 4000000 in
set_option maxRecDepth 100000 in
theorem x_nextA_2 (l : Launch) (dC : Nat → ClassId) (dI : Nat → Nat → Nat) (sz : Nat) (a : Int64) (b : Int64)  : Met l yX5_nextA (Cond.code yX5_nextA cX5_nextA 5 (some .long) :: tb) ({ frames := 4, cells := 0, slots := 0, locals := 120 }) (pcw [.int 2, .long a, .long b] (dC, dI) [] [] sz) (va_Ql (fun (r : Int64) => (fun (_ : Unit) => r = nxA 2 a b)) (bw (dC, dI) (va_A [] sz) (fun (_ : Unit) => []) (fun (_ : Unit) => [])) (va_A [] sz)) 0 0 (va_A [] sz) := by
  refine Met.ofW (cc := cX5_nextA) (maxL := 5) (ret := (some .long)) (by decide) rfl ?_
  intro p e s m args below meth c s₁ B hml hv
  obtain ⟨rfl, hsz, hP, hK, hD0⟩ := hv
  have hx := B.exec
  have hb := B.bytes
  have hr := B.returns
  have hts := atoms_spec (ws := Cond.code yX5_nextA cX5_nextA 5 (some .long) :: tb) B.pre
  have ht : ∀ w ∈ tb, w.before _ s = true := fun w h => hts w (List.mem_cons_of_mem _ h)
  have hown : s.vm.findClass RX5 = some m.cls := findClass_of_methodNamed B.named
  have hlocks := B.notSynchronized
  subst hsz
  have hD := hD0.self (sz := s.heap.size)
  generalize hAe : va_A [] s.heap.size = A at hD ⊢
  have hA : ∀ q : Nat, s.heap.size ≤ q → A q := fun q h => by rw [← hAe]; exact Or.inr h
  have hS : va_S A s.heap s.heap [] := va_S.rf
  have hl := lv_entry ([.int 2, .long a, .long b]) (n := 5) (Nat.le_of_ble_eq_true rfl)
  rw [lg_entry_eq]
  generalize (lg_sl ([.int 2, .long a, .long b]) ++ List.replicate (5 - (lg_sl ([.int 2, .long a, .long b])).length) Slot.unset).toArray = ls at hl ⊢
  have hl : lv_has ls 5 [(0, .int 2), (1, .long a), (3, .long b)] := hl
  have hP : va_P (dC, dI) cls [] s.heap := hP
  refine lv_iload_n hx hb dX5_nextA_0 rfl (lv_at hl 0 rfl) ?_
  refine lv_tableIn (off := 93) (tgt := 94) hx hb dX5_nextA_1 (by decide) (by decide) (by decide) (by decide) ?_
  refine lv_lload_n hx hb dX5_nextA_94 rfl (lv_at hl 1 rfl) ?_
  refine lv_lload_n hx hb dX5_nextA_95 rfl (lv_at hl 2 rfl) ?_
  refine ca_l (wr := []) (va_runS (As := [.long a, .long b]) (rest := []) ⟨hx, hb, hml, hown, ht⟩ (x_less l dC dI s.heap.size a b  ) (cwS 2 ht (gdS k_9_1 k_8_239 k_9_0 k_1_15) rfl rfl rfl (by decide +kernel) ⟨Nat.le_of_ble_eq_true rfl, Nat.le_of_ble_eq_true rfl⟩) ⟨pcw_blind, pcw_at hP hD hK [] [] (by decide) rfl rfl rfl⟩ rfl rfl hl.1 rfl (lv_room (Nat.le_of_ble_eq_true rfl)) dX5_nextA_96 ⟨Nat.le_of_ble_eq_true rfl, Nat.le_of_ble_eq_true rfl⟩) hP hD hK hS hA [] [] rfl rfl (by decide) (by decide) (fun r_1 u H locs w_2 hK hP hD hS => ?_)
  have hK : va_K (dC, dI) cls [] s := hK
  have hP : va_P (dC, dI) cls [] H := hP
  have hD : va_D A [] := hD
  exact W.lret (v := r_1) hx hb hr (fun t ht9 hW => ⟨⟨r_1, (), rfl, (by simp only [w_2]; rfl), by rw [ht9]; exact hP.sub [] rfl, va_K.moved hW.alike (hK.sub [] rfl), hD.sub [] (by decide) rfl⟩, hS.F ht9⟩) hS.2.2 dX5_nextA_99
set_option maxHeartbeats 4000000 in
set_option maxRecDepth 100000 in
theorem x_nextA_3 (l : Launch) (dC : Nat → ClassId) (dI : Nat → Nat → Nat) (sz : Nat) (a : Int64) (b : Int64)  : Met l yX5_nextA (Cond.code yX5_nextA cX5_nextA 5 (some .long) :: tb) ({ frames := 4, cells := 0, slots := 0, locals := 120 }) (pcw [.int 3, .long a, .long b] (dC, dI) [] [] sz) (va_Ql (fun (r : Int64) => (fun (_ : Unit) => r = nxA 3 a b)) (bw (dC, dI) (va_A [] sz) (fun (_ : Unit) => []) (fun (_ : Unit) => [])) (va_A [] sz)) 0 0 (va_A [] sz) := by
  refine Met.ofW (cc := cX5_nextA) (maxL := 5) (ret := (some .long)) (by decide) rfl ?_
  intro p e s m args below meth c s₁ B hml hv
  obtain ⟨rfl, hsz, hP, hK, hD0⟩ := hv
  have hx := B.exec
  have hb := B.bytes
  have hr := B.returns
  have hts := atoms_spec (ws := Cond.code yX5_nextA cX5_nextA 5 (some .long) :: tb) B.pre
  have ht : ∀ w ∈ tb, w.before _ s = true := fun w h => hts w (List.mem_cons_of_mem _ h)
  have hown : s.vm.findClass RX5 = some m.cls := findClass_of_methodNamed B.named
  have hlocks := B.notSynchronized
  subst hsz
  have hD := hD0.self (sz := s.heap.size)
  generalize hAe : va_A [] s.heap.size = A at hD ⊢
  have hA : ∀ q : Nat, s.heap.size ≤ q → A q := fun q h => by rw [← hAe]; exact Or.inr h
  have hS : va_S A s.heap s.heap [] := va_S.rf
  have hl := lv_entry ([.int 3, .long a, .long b]) (n := 5) (Nat.le_of_ble_eq_true rfl)
  rw [lg_entry_eq]
  generalize (lg_sl ([.int 3, .long a, .long b]) ++ List.replicate (5 - (lg_sl ([.int 3, .long a, .long b])).length) Slot.unset).toArray = ls at hl ⊢
  have hl : lv_has ls 5 [(0, .int 3), (1, .long a), (3, .long b)] := hl
  have hP : va_P (dC, dI) cls [] s.heap := hP
  refine lv_iload_n hx hb dX5_nextA_0 rfl (lv_at hl 0 rfl) ?_
  refine lv_tableIn (off := 153) (tgt := 154) hx hb dX5_nextA_1 (by decide) (by decide) (by decide) (by decide) ?_
  refine lv_lload_n hx hb dX5_nextA_154 rfl (lv_at hl 1 rfl) ?_
  exact W.lret (v := a) hx hb hr (fun t ht9 hW => ⟨⟨a, (), rfl, rfl, by rw [ht9]; exact hP.sub [] rfl, va_K.moved hW.alike (hK.sub [] rfl), hD.sub [] (by decide) rfl⟩, hS.F ht9⟩) hS.2.2 dX5_nextA_155
set_option maxHeartbeats 4000000 in
set_option maxRecDepth 100000 in
theorem x_nextA_4 (l : Launch) (dC : Nat → ClassId) (dI : Nat → Nat → Nat) (sz : Nat) (a : Int64) (b : Int64)  : Met l yX5_nextA (Cond.code yX5_nextA cX5_nextA 5 (some .long) :: tb) ({ frames := 4, cells := 0, slots := 0, locals := 120 }) (pcw [.int 4, .long a, .long b] (dC, dI) [] [] sz) (va_Ql (fun (r : Int64) => (fun (_ : Unit) => r = nxA 4 a b)) (bw (dC, dI) (va_A [] sz) (fun (_ : Unit) => []) (fun (_ : Unit) => [])) (va_A [] sz)) 0 0 (va_A [] sz) := by
  refine Met.ofW (cc := cX5_nextA) (maxL := 5) (ret := (some .long)) (by decide) rfl ?_
  intro p e s m args below meth c s₁ B hml hv
  obtain ⟨rfl, hsz, hP, hK, hD0⟩ := hv
  have hx := B.exec
  have hb := B.bytes
  have hr := B.returns
  have hts := atoms_spec (ws := Cond.code yX5_nextA cX5_nextA 5 (some .long) :: tb) B.pre
  have ht : ∀ w ∈ tb, w.before _ s = true := fun w h => hts w (List.mem_cons_of_mem _ h)
  have hown : s.vm.findClass RX5 = some m.cls := findClass_of_methodNamed B.named
  have hlocks := B.notSynchronized
  subst hsz
  have hD := hD0.self (sz := s.heap.size)
  generalize hAe : va_A [] s.heap.size = A at hD ⊢
  have hA : ∀ q : Nat, s.heap.size ≤ q → A q := fun q h => by rw [← hAe]; exact Or.inr h
  have hS : va_S A s.heap s.heap [] := va_S.rf
  have hl := lv_entry ([.int 4, .long a, .long b]) (n := 5) (Nat.le_of_ble_eq_true rfl)
  rw [lg_entry_eq]
  generalize (lg_sl ([.int 4, .long a, .long b]) ++ List.replicate (5 - (lg_sl ([.int 4, .long a, .long b])).length) Slot.unset).toArray = ls at hl ⊢
  have hl : lv_has ls 5 [(0, .int 4), (1, .long a), (3, .long b)] := hl
  have hP : va_P (dC, dI) cls [] s.heap := hP
  refine lv_iload_n hx hb dX5_nextA_0 rfl (lv_at hl 0 rfl) ?_
  refine lv_tableIn (off := 99) (tgt := 100) hx hb dX5_nextA_1 (by decide) (by decide) (by decide) (by decide) ?_
  refine lv_lload_n hx hb dX5_nextA_100 rfl (lv_at hl 1 rfl) ?_
  refine lv_lload_n hx hb dX5_nextA_101 rfl (lv_at hl 2 rfl) ?_
  refine lv_lxor hx hb dX5_nextA_102 ?_
  refine lv_topl (fun x_1 ex_1 => ?_)
  exact W.lret (v := x_1) hx hb hr (fun t ht9 hW => ⟨⟨x_1, (), rfl, (by simp only [ex_1]; rfl), by rw [ht9]; exact hP.sub [] rfl, va_K.moved hW.alike (hK.sub [] rfl), hD.sub [] (by decide) rfl⟩, hS.F ht9⟩) hS.2.2 dX5_nextA_103
set_option maxHeartbeats 4000000 in
set_option maxRecDepth 100000 in
theorem x_nextA_5 (l : Launch) (dC : Nat → ClassId) (dI : Nat → Nat → Nat) (sz : Nat) (a : Int64) (b : Int64)  : Met l yX5_nextA (Cond.code yX5_nextA cX5_nextA 5 (some .long) :: tb) ({ frames := 4, cells := 0, slots := 0, locals := 120 }) (pcw [.int 5, .long a, .long b] (dC, dI) [] [] sz) (va_Ql (fun (r : Int64) => (fun (_ : Unit) => r = nxA 5 a b)) (bw (dC, dI) (va_A [] sz) (fun (_ : Unit) => []) (fun (_ : Unit) => [])) (va_A [] sz)) 0 0 (va_A [] sz) := by
  refine Met.ofW (cc := cX5_nextA) (maxL := 5) (ret := (some .long)) (by decide) rfl ?_
  intro p e s m args below meth c s₁ B hml hv
  obtain ⟨rfl, hsz, hP, hK, hD0⟩ := hv
  have hx := B.exec
  have hb := B.bytes
  have hr := B.returns
  have hts := atoms_spec (ws := Cond.code yX5_nextA cX5_nextA 5 (some .long) :: tb) B.pre
  have ht : ∀ w ∈ tb, w.before _ s = true := fun w h => hts w (List.mem_cons_of_mem _ h)
  have hown : s.vm.findClass RX5 = some m.cls := findClass_of_methodNamed B.named
  have hlocks := B.notSynchronized
  subst hsz
  have hD := hD0.self (sz := s.heap.size)
  generalize hAe : va_A [] s.heap.size = A at hD ⊢
  have hA : ∀ q : Nat, s.heap.size ≤ q → A q := fun q h => by rw [← hAe]; exact Or.inr h
  have hS : va_S A s.heap s.heap [] := va_S.rf
  have hl := lv_entry ([.int 5, .long a, .long b]) (n := 5) (Nat.le_of_ble_eq_true rfl)
  rw [lg_entry_eq]
  generalize (lg_sl ([.int 5, .long a, .long b]) ++ List.replicate (5 - (lg_sl ([.int 5, .long a, .long b])).length) Slot.unset).toArray = ls at hl ⊢
  have hl : lv_has ls 5 [(0, .int 5), (1, .long a), (3, .long b)] := hl
  have hP : va_P (dC, dI) cls [] s.heap := hP
  refine lv_iload_n hx hb dX5_nextA_0 rfl (lv_at hl 0 rfl) ?_
  refine lv_tableIn (off := 153) (tgt := 154) hx hb dX5_nextA_1 (by decide) (by decide) (by decide) (by decide) ?_
  refine lv_lload_n hx hb dX5_nextA_154 rfl (lv_at hl 1 rfl) ?_
  exact W.lret (v := a) hx hb hr (fun t ht9 hW => ⟨⟨a, (), rfl, rfl, by rw [ht9]; exact hP.sub [] rfl, va_K.moved hW.alike (hK.sub [] rfl), hD.sub [] (by decide) rfl⟩, hS.F ht9⟩) hS.2.2 dX5_nextA_155
set_option maxHeartbeats 4000000 in
set_option maxRecDepth 100000 in
theorem x_nextA_6 (l : Launch) (dC : Nat → ClassId) (dI : Nat → Nat → Nat) (sz : Nat) (a : Int64) (b : Int64)  : Met l yX5_nextA (Cond.code yX5_nextA cX5_nextA 5 (some .long) :: tb) ({ frames := 4, cells := 0, slots := 0, locals := 120 }) (pcw [.int 6, .long a, .long b] (dC, dI) [] [] sz) (va_Ql (fun (r : Int64) => (fun (_ : Unit) => r = nxA 6 a b)) (bw (dC, dI) (va_A [] sz) (fun (_ : Unit) => []) (fun (_ : Unit) => [])) (va_A [] sz)) 0 0 (va_A [] sz) := by
  refine Met.ofW (cc := cX5_nextA) (maxL := 5) (ret := (some .long)) (by decide) rfl ?_
  intro p e s m args below meth c s₁ B hml hv
  obtain ⟨rfl, hsz, hP, hK, hD0⟩ := hv
  have hx := B.exec
  have hb := B.bytes
  have hr := B.returns
  have hts := atoms_spec (ws := Cond.code yX5_nextA cX5_nextA 5 (some .long) :: tb) B.pre
  have ht : ∀ w ∈ tb, w.before _ s = true := fun w h => hts w (List.mem_cons_of_mem _ h)
  have hown : s.vm.findClass RX5 = some m.cls := findClass_of_methodNamed B.named
  have hlocks := B.notSynchronized
  subst hsz
  have hD := hD0.self (sz := s.heap.size)
  generalize hAe : va_A [] s.heap.size = A at hD ⊢
  have hA : ∀ q : Nat, s.heap.size ≤ q → A q := fun q h => by rw [← hAe]; exact Or.inr h
  have hS : va_S A s.heap s.heap [] := va_S.rf
  have hl := lv_entry ([.int 6, .long a, .long b]) (n := 5) (Nat.le_of_ble_eq_true rfl)
  rw [lg_entry_eq]
  generalize (lg_sl ([.int 6, .long a, .long b]) ++ List.replicate (5 - (lg_sl ([.int 6, .long a, .long b])).length) Slot.unset).toArray = ls at hl ⊢
  have hl : lv_has ls 5 [(0, .int 6), (1, .long a), (3, .long b)] := hl
  have hP : va_P (dC, dI) cls [] s.heap := hP
  refine lv_iload_n hx hb dX5_nextA_0 rfl (lv_at hl 0 rfl) ?_
  refine lv_tableIn (off := 103) (tgt := 104) hx hb dX5_nextA_1 (by decide) (by decide) (by decide) (by decide) ?_
  refine lv_lload_n hx hb dX5_nextA_104 rfl (lv_at hl 1 rfl) ?_
  refine lv_lload_n hx hb dX5_nextA_105 rfl (lv_at hl 2 rfl) ?_
  refine lv_land hx hb dX5_nextA_106 ?_
  refine lv_topl (fun x_1 ex_1 => ?_)
  exact W.lret (v := x_1) hx hb hr (fun t ht9 hW => ⟨⟨x_1, (), rfl, (by simp only [ex_1]; rfl), by rw [ht9]; exact hP.sub [] rfl, va_K.moved hW.alike (hK.sub [] rfl), hD.sub [] (by decide) rfl⟩, hS.F ht9⟩) hS.2.2 dX5_nextA_107
set_option maxHeartbeats 4000000 in
set_option maxRecDepth 100000 in
theorem x_nextA_7 (l : Launch) (dC : Nat → ClassId) (dI : Nat → Nat → Nat) (sz : Nat) (a : Int64) (b : Int64)  : Met l yX5_nextA (Cond.code yX5_nextA cX5_nextA 5 (some .long) :: tb) ({ frames := 4, cells := 0, slots := 0, locals := 120 }) (pcw [.int 7, .long a, .long b] (dC, dI) [] [] sz) (va_Ql (fun (r : Int64) => (fun (_ : Unit) => r = nxA 7 a b)) (bw (dC, dI) (va_A [] sz) (fun (_ : Unit) => []) (fun (_ : Unit) => [])) (va_A [] sz)) 0 0 (va_A [] sz) := by
  refine Met.ofW (cc := cX5_nextA) (maxL := 5) (ret := (some .long)) (by decide) rfl ?_
  intro p e s m args below meth c s₁ B hml hv
  obtain ⟨rfl, hsz, hP, hK, hD0⟩ := hv
  have hx := B.exec
  have hb := B.bytes
  have hr := B.returns
  have hts := atoms_spec (ws := Cond.code yX5_nextA cX5_nextA 5 (some .long) :: tb) B.pre
  have ht : ∀ w ∈ tb, w.before _ s = true := fun w h => hts w (List.mem_cons_of_mem _ h)
  have hown : s.vm.findClass RX5 = some m.cls := findClass_of_methodNamed B.named
  have hlocks := B.notSynchronized
  subst hsz
  have hD := hD0.self (sz := s.heap.size)
  generalize hAe : va_A [] s.heap.size = A at hD ⊢
  have hA : ∀ q : Nat, s.heap.size ≤ q → A q := fun q h => by rw [← hAe]; exact Or.inr h
  have hS : va_S A s.heap s.heap [] := va_S.rf
  have hl := lv_entry ([.int 7, .long a, .long b]) (n := 5) (Nat.le_of_ble_eq_true rfl)
  rw [lg_entry_eq]
  generalize (lg_sl ([.int 7, .long a, .long b]) ++ List.replicate (5 - (lg_sl ([.int 7, .long a, .long b])).length) Slot.unset).toArray = ls at hl ⊢
  have hl : lv_has ls 5 [(0, .int 7), (1, .long a), (3, .long b)] := hl
  have hP : va_P (dC, dI) cls [] s.heap := hP
  refine lv_iload_n hx hb dX5_nextA_0 rfl (lv_at hl 0 rfl) ?_
  refine lv_tableIn (off := 153) (tgt := 154) hx hb dX5_nextA_1 (by decide) (by decide) (by decide) (by decide) ?_
  refine lv_lload_n hx hb dX5_nextA_154 rfl (lv_at hl 1 rfl) ?_
  exact W.lret (v := a) hx hb hr (fun t ht9 hW => ⟨⟨a, (), rfl, rfl, by rw [ht9]; exact hP.sub [] rfl, va_K.moved hW.alike (hK.sub [] rfl), hD.sub [] (by decide) rfl⟩, hS.F ht9⟩) hS.2.2 dX5_nextA_155
set_option maxHeartbeats 4000000 in
set_option maxRecDepth 100000 in
theorem x_nextA_8 (l : Launch) (dC : Nat → ClassId) (dI : Nat → Nat → Nat) (sz : Nat) (a : Int64) (b : Int64)  : Met l yX5_nextA (Cond.code yX5_nextA cX5_nextA 5 (some .long) :: tb) ({ frames := 4, cells := 0, slots := 0, locals := 120 }) (pcw [.int 8, .long a, .long b] (dC, dI) [] [] sz) (va_Ql (fun (r : Int64) => (fun (_ : Unit) => r = nxA 8 a b)) (bw (dC, dI) (va_A [] sz) (fun (_ : Unit) => []) (fun (_ : Unit) => [])) (va_A [] sz)) 0 0 (va_A [] sz) := by
  refine Met.ofW (cc := cX5_nextA) (maxL := 5) (ret := (some .long)) (by decide) rfl ?_
  intro p e s m args below meth c s₁ B hml hv
  obtain ⟨rfl, hsz, hP, hK, hD0⟩ := hv
  have hx := B.exec
  have hb := B.bytes
  have hr := B.returns
  have hts := atoms_spec (ws := Cond.code yX5_nextA cX5_nextA 5 (some .long) :: tb) B.pre
  have ht : ∀ w ∈ tb, w.before _ s = true := fun w h => hts w (List.mem_cons_of_mem _ h)
  have hown : s.vm.findClass RX5 = some m.cls := findClass_of_methodNamed B.named
  have hlocks := B.notSynchronized
  subst hsz
  have hD := hD0.self (sz := s.heap.size)
  generalize hAe : va_A [] s.heap.size = A at hD ⊢
  have hA : ∀ q : Nat, s.heap.size ≤ q → A q := fun q h => by rw [← hAe]; exact Or.inr h
  have hS : va_S A s.heap s.heap [] := va_S.rf
  have hl := lv_entry ([.int 8, .long a, .long b]) (n := 5) (Nat.le_of_ble_eq_true rfl)
  rw [lg_entry_eq]
  generalize (lg_sl ([.int 8, .long a, .long b]) ++ List.replicate (5 - (lg_sl ([.int 8, .long a, .long b])).length) Slot.unset).toArray = ls at hl ⊢
  have hl : lv_has ls 5 [(0, .int 8), (1, .long a), (3, .long b)] := hl
  have hP : va_P (dC, dI) cls [] s.heap := hP
  refine lv_iload_n hx hb dX5_nextA_0 rfl (lv_at hl 0 rfl) ?_
  refine lv_tableIn (off := 107) (tgt := 108) hx hb dX5_nextA_1 (by decide) (by decide) (by decide) (by decide) ?_
  refine lv_lload_n hx hb dX5_nextA_108 rfl (lv_at hl 1 rfl) ?_
  refine lv_ldc2 (v := (-1)) hx hb hown (ht _ k_9_2) dX5_nextA_109 ?_
  refine lv_lxor hx hb dX5_nextA_112 ?_
  refine lv_topl (fun x_1 ex_1 => ?_)
  exact W.lret (v := x_1) hx hb hr (fun t ht9 hW => ⟨⟨x_1, (), rfl, (by simp only [ex_1]; rfl), by rw [ht9]; exact hP.sub [] rfl, va_K.moved hW.alike (hK.sub [] rfl), hD.sub [] (by decide) rfl⟩, hS.F ht9⟩) hS.2.2 dX5_nextA_113
set_option maxHeartbeats 4000000 in
set_option maxRecDepth 100000 in
theorem x_nextA_9 (l : Launch) (dC : Nat → ClassId) (dI : Nat → Nat → Nat) (sz : Nat) (a : Int64) (b : Int64)  : Met l yX5_nextA (Cond.code yX5_nextA cX5_nextA 5 (some .long) :: tb) ({ frames := 4, cells := 0, slots := 0, locals := 120 }) (pcw [.int 9, .long a, .long b] (dC, dI) [] [] sz) (va_Ql (fun (r : Int64) => (fun (_ : Unit) => r = nxA 9 a b)) (bw (dC, dI) (va_A [] sz) (fun (_ : Unit) => []) (fun (_ : Unit) => [])) (va_A [] sz)) 0 0 (va_A [] sz) := by
  refine Met.ofW (cc := cX5_nextA) (maxL := 5) (ret := (some .long)) (by decide) rfl ?_
  intro p e s m args below meth c s₁ B hml hv
  obtain ⟨rfl, hsz, hP, hK, hD0⟩ := hv
  have hx := B.exec
  have hb := B.bytes
  have hr := B.returns
  have hts := atoms_spec (ws := Cond.code yX5_nextA cX5_nextA 5 (some .long) :: tb) B.pre
  have ht : ∀ w ∈ tb, w.before _ s = true := fun w h => hts w (List.mem_cons_of_mem _ h)
  have hown : s.vm.findClass RX5 = some m.cls := findClass_of_methodNamed B.named
  have hlocks := B.notSynchronized
  subst hsz
  have hD := hD0.self (sz := s.heap.size)
  generalize hAe : va_A [] s.heap.size = A at hD ⊢
  have hA : ∀ q : Nat, s.heap.size ≤ q → A q := fun q h => by rw [← hAe]; exact Or.inr h
  have hS : va_S A s.heap s.heap [] := va_S.rf
  have hl := lv_entry ([.int 9, .long a, .long b]) (n := 5) (Nat.le_of_ble_eq_true rfl)
  rw [lg_entry_eq]
  generalize (lg_sl ([.int 9, .long a, .long b]) ++ List.replicate (5 - (lg_sl ([.int 9, .long a, .long b])).length) Slot.unset).toArray = ls at hl ⊢
  have hl : lv_has ls 5 [(0, .int 9), (1, .long a), (3, .long b)] := hl
  have hP : va_P (dC, dI) cls [] s.heap := hP
  refine lv_iload_n hx hb dX5_nextA_0 rfl (lv_at hl 0 rfl) ?_
  refine lv_tableIn (off := 153) (tgt := 154) hx hb dX5_nextA_1 (by decide) (by decide) (by decide) (by decide) ?_
  refine lv_lload_n hx hb dX5_nextA_154 rfl (lv_at hl 1 rfl) ?_
  exact W.lret (v := a) hx hb hr (fun t ht9 hW => ⟨⟨a, (), rfl, rfl, by rw [ht9]; exact hP.sub [] rfl, va_K.moved hW.alike (hK.sub [] rfl), hD.sub [] (by decide) rfl⟩, hS.F ht9⟩) hS.2.2 dX5_nextA_155
set_option maxHeartbeats 4000000 in
set_option maxRecDepth 100000 in
theorem x_nextA_10 (l : Launch) (dC : Nat → ClassId) (dI : Nat → Nat → Nat) (sz : Nat) (a : Int64) (b : Int64)  : Met l yX5_nextA (Cond.code yX5_nextA cX5_nextA 5 (some .long) :: tb) ({ frames := 4, cells := 0, slots := 0, locals := 120 }) (pcw [.int 10, .long a, .long b] (dC, dI) [] [] sz) (va_Ql (fun (r : Int64) => (fun (_ : Unit) => r = nxA 10 a b)) (bw (dC, dI) (va_A [] sz) (fun (_ : Unit) => []) (fun (_ : Unit) => [])) (va_A [] sz)) 0 0 (va_A [] sz) := by
  refine Met.ofW (cc := cX5_nextA) (maxL := 5) (ret := (some .long)) (by decide) rfl ?_
  intro p e s m args below meth c s₁ B hml hv
  obtain ⟨rfl, hsz, hP, hK, hD0⟩ := hv
  have hx := B.exec
  have hb := B.bytes
  have hr := B.returns
  have hts := atoms_spec (ws := Cond.code yX5_nextA cX5_nextA 5 (some .long) :: tb) B.pre
  have ht : ∀ w ∈ tb, w.before _ s = true := fun w h => hts w (List.mem_cons_of_mem _ h)
  have hown : s.vm.findClass RX5 = some m.cls := findClass_of_methodNamed B.named
  have hlocks := B.notSynchronized
  subst hsz
  have hD := hD0.self (sz := s.heap.size)
  generalize hAe : va_A [] s.heap.size = A at hD ⊢
  have hA : ∀ q : Nat, s.heap.size ≤ q → A q := fun q h => by rw [← hAe]; exact Or.inr h
  have hS : va_S A s.heap s.heap [] := va_S.rf
  have hl := lv_entry ([.int 10, .long a, .long b]) (n := 5) (Nat.le_of_ble_eq_true rfl)
  rw [lg_entry_eq]
  generalize (lg_sl ([.int 10, .long a, .long b]) ++ List.replicate (5 - (lg_sl ([.int 10, .long a, .long b])).length) Slot.unset).toArray = ls at hl ⊢
  have hl : lv_has ls 5 [(0, .int 10), (1, .long a), (3, .long b)] := hl
  have hP : va_P (dC, dI) cls [] s.heap := hP
  refine lv_iload_n hx hb dX5_nextA_0 rfl (lv_at hl 0 rfl) ?_
  refine lv_tableIn (off := 113) (tgt := 114) hx hb dX5_nextA_1 (by decide) (by decide) (by decide) (by decide) ?_
  refine lv_lload_n hx hb dX5_nextA_114 rfl (lv_at hl 2 rfl) ?_
  exact W.lret (v := b) hx hb hr (fun t ht9 hW => ⟨⟨b, (), rfl, rfl, by rw [ht9]; exact hP.sub [] rfl, va_K.moved hW.alike (hK.sub [] rfl), hD.sub [] (by decide) rfl⟩, hS.F ht9⟩) hS.2.2 dX5_nextA_115
set_option maxHeartbeats 4000000 in
set_option maxRecDepth 100000 in
theorem x_nextA_11 (l : Launch) (dC : Nat → ClassId) (dI : Nat → Nat → Nat) (sz : Nat) (a : Int64) (b : Int64)  : Met l yX5_nextA (Cond.code yX5_nextA cX5_nextA 5 (some .long) :: tb) ({ frames := 4, cells := 0, slots := 0, locals := 120 }) (pcw [.int 11, .long a, .long b] (dC, dI) [] [] sz) (va_Ql (fun (r : Int64) => (fun (_ : Unit) => r = nxA 11 a b)) (bw (dC, dI) (va_A [] sz) (fun (_ : Unit) => []) (fun (_ : Unit) => [])) (va_A [] sz)) 0 0 (va_A [] sz) := by
  refine Met.ofW (cc := cX5_nextA) (maxL := 5) (ret := (some .long)) (by decide) rfl ?_
  intro p e s m args below meth c s₁ B hml hv
  obtain ⟨rfl, hsz, hP, hK, hD0⟩ := hv
  have hx := B.exec
  have hb := B.bytes
  have hr := B.returns
  have hts := atoms_spec (ws := Cond.code yX5_nextA cX5_nextA 5 (some .long) :: tb) B.pre
  have ht : ∀ w ∈ tb, w.before _ s = true := fun w h => hts w (List.mem_cons_of_mem _ h)
  have hown : s.vm.findClass RX5 = some m.cls := findClass_of_methodNamed B.named
  have hlocks := B.notSynchronized
  subst hsz
  have hD := hD0.self (sz := s.heap.size)
  generalize hAe : va_A [] s.heap.size = A at hD ⊢
  have hA : ∀ q : Nat, s.heap.size ≤ q → A q := fun q h => by rw [← hAe]; exact Or.inr h
  have hS : va_S A s.heap s.heap [] := va_S.rf
  have hl := lv_entry ([.int 11, .long a, .long b]) (n := 5) (Nat.le_of_ble_eq_true rfl)
  rw [lg_entry_eq]
  generalize (lg_sl ([.int 11, .long a, .long b]) ++ List.replicate (5 - (lg_sl ([.int 11, .long a, .long b])).length) Slot.unset).toArray = ls at hl ⊢
  have hl : lv_has ls 5 [(0, .int 11), (1, .long a), (3, .long b)] := hl
  have hP : va_P (dC, dI) cls [] s.heap := hP
  refine lv_iload_n hx hb dX5_nextA_0 rfl (lv_at hl 0 rfl) ?_
  refine lv_tableIn (off := 115) (tgt := 116) hx hb dX5_nextA_1 (by decide) (by decide) (by decide) (by decide) ?_
  refine lv_lload_n hx hb dX5_nextA_116 rfl (lv_at hl 1 rfl) ?_
  refine lv_ldc2 (v := 1229782938247303441) hx hb hown (ht _ k_9_3) dX5_nextA_117 ?_
  refine ca_l (wr := []) (va_runS (As := [.long a, .long 1229782938247303441]) (rest := []) ⟨hx, hb, hml, hown, ht⟩ (x_sum l dC dI s.heap.size a 1229782938247303441  ) (cwS 2 ht (gdS k_8_236 k_8_234 k_8_235 k_1_15) rfl rfl rfl (by decide +kernel) ⟨Nat.le_of_ble_eq_true rfl, Nat.le_of_ble_eq_true rfl⟩) ⟨pcw_blind, pcw_at hP hD hK [] [] (by decide) rfl rfl rfl⟩ rfl rfl hl.1 rfl (lv_room (Nat.le_of_ble_eq_true rfl)) dX5_nextA_120 ⟨Nat.le_of_ble_eq_true rfl, Nat.le_of_ble_eq_true rfl⟩) hP hD hK hS hA [] [] rfl rfl (by decide) (by decide) (fun r_1 u H locs w_2 hK hP hD hS => ?_)
  have hK : va_K (dC, dI) cls [] s := hK
  have hP : va_P (dC, dI) cls [] H := hP
  have hD : va_D A [] := hD
  exact W.lret (v := r_1) hx hb hr (fun t ht9 hW => ⟨⟨r_1, (), rfl, (by simp only [w_2]; rfl), by rw [ht9]; exact hP.sub [] rfl, va_K.moved hW.alike (hK.sub [] rfl), hD.sub [] (by decide) rfl⟩, hS.F ht9⟩) hS.2.2 dX5_nextA_123
set_option maxHeartbeats 4000000 in
set_option maxRecDepth 100000 in
theorem x_nextA_12 (l : Launch) (dC : Nat → ClassId) (dI : Nat → Nat → Nat) (sz : Nat) (a : Int64) (b : Int64)  : Met l yX5_nextA (Cond.code yX5_nextA cX5_nextA 5 (some .long) :: tb) ({ frames := 4, cells := 0, slots := 0, locals := 120 }) (pcw [.int 12, .long a, .long b] (dC, dI) [] [] sz) (va_Ql (fun (r : Int64) => (fun (_ : Unit) => r = nxA 12 a b)) (bw (dC, dI) (va_A [] sz) (fun (_ : Unit) => []) (fun (_ : Unit) => [])) (va_A [] sz)) 0 0 (va_A [] sz) := by
  refine Met.ofW (cc := cX5_nextA) (maxL := 5) (ret := (some .long)) (by decide) rfl ?_
  intro p e s m args below meth c s₁ B hml hv
  obtain ⟨rfl, hsz, hP, hK, hD0⟩ := hv
  have hx := B.exec
  have hb := B.bytes
  have hr := B.returns
  have hts := atoms_spec (ws := Cond.code yX5_nextA cX5_nextA 5 (some .long) :: tb) B.pre
  have ht : ∀ w ∈ tb, w.before _ s = true := fun w h => hts w (List.mem_cons_of_mem _ h)
  have hown : s.vm.findClass RX5 = some m.cls := findClass_of_methodNamed B.named
  have hlocks := B.notSynchronized
  subst hsz
  have hD := hD0.self (sz := s.heap.size)
  generalize hAe : va_A [] s.heap.size = A at hD ⊢
  have hA : ∀ q : Nat, s.heap.size ≤ q → A q := fun q h => by rw [← hAe]; exact Or.inr h
  have hS : va_S A s.heap s.heap [] := va_S.rf
  have hl := lv_entry ([.int 12, .long a, .long b]) (n := 5) (Nat.le_of_ble_eq_true rfl)
  rw [lg_entry_eq]
  generalize (lg_sl ([.int 12, .long a, .long b]) ++ List.replicate (5 - (lg_sl ([.int 12, .long a, .long b])).length) Slot.unset).toArray = ls at hl ⊢
  have hl : lv_has ls 5 [(0, .int 12), (1, .long a), (3, .long b)] := hl
  have hP : va_P (dC, dI) cls [] s.heap := hP
  refine lv_iload_n hx hb dX5_nextA_0 rfl (lv_at hl 0 rfl) ?_
  refine lv_tableIn (off := 153) (tgt := 154) hx hb dX5_nextA_1 (by decide) (by decide) (by decide) (by decide) ?_
  refine lv_lload_n hx hb dX5_nextA_154 rfl (lv_at hl 1 rfl) ?_
  exact W.lret (v := a) hx hb hr (fun t ht9 hW => ⟨⟨a, (), rfl, rfl, by rw [ht9]; exact hP.sub [] rfl, va_K.moved hW.alike (hK.sub [] rfl), hD.sub [] (by decide) rfl⟩, hS.F ht9⟩) hS.2.2 dX5_nextA_155
set_option maxHeartbeats 4000000 in
set_option maxRecDepth 100000 in
theorem x_nextA_13 (l : Launch) (dC : Nat → ClassId) (dI : Nat → Nat → Nat) (sz : Nat) (a : Int64) (b : Int64)  : Met l yX5_nextA (Cond.code yX5_nextA cX5_nextA 5 (some .long) :: tb) ({ frames := 4, cells := 0, slots := 0, locals := 120 }) (pcw [.int 13, .long a, .long b] (dC, dI) [] [] sz) (va_Ql (fun (r : Int64) => (fun (_ : Unit) => r = nxA 13 a b)) (bw (dC, dI) (va_A [] sz) (fun (_ : Unit) => []) (fun (_ : Unit) => [])) (va_A [] sz)) 0 0 (va_A [] sz) := by
  refine Met.ofW (cc := cX5_nextA) (maxL := 5) (ret := (some .long)) (by decide) rfl ?_
  intro p e s m args below meth c s₁ B hml hv
  obtain ⟨rfl, hsz, hP, hK, hD0⟩ := hv
  have hx := B.exec
  have hb := B.bytes
  have hr := B.returns
  have hts := atoms_spec (ws := Cond.code yX5_nextA cX5_nextA 5 (some .long) :: tb) B.pre
  have ht : ∀ w ∈ tb, w.before _ s = true := fun w h => hts w (List.mem_cons_of_mem _ h)
  have hown : s.vm.findClass RX5 = some m.cls := findClass_of_methodNamed B.named
  have hlocks := B.notSynchronized
  subst hsz
  have hD := hD0.self (sz := s.heap.size)
  generalize hAe : va_A [] s.heap.size = A at hD ⊢
  have hA : ∀ q : Nat, s.heap.size ≤ q → A q := fun q h => by rw [← hAe]; exact Or.inr h
  have hS : va_S A s.heap s.heap [] := va_S.rf
  have hl := lv_entry ([.int 13, .long a, .long b]) (n := 5) (Nat.le_of_ble_eq_true rfl)
  rw [lg_entry_eq]
  generalize (lg_sl ([.int 13, .long a, .long b]) ++ List.replicate (5 - (lg_sl ([.int 13, .long a, .long b])).length) Slot.unset).toArray = ls at hl ⊢
  have hl : lv_has ls 5 [(0, .int 13), (1, .long a), (3, .long b)] := hl
  have hP : va_P (dC, dI) cls [] s.heap := hP
  refine lv_iload_n hx hb dX5_nextA_0 rfl (lv_at hl 0 rfl) ?_
  refine lv_tableIn (off := 123) (tgt := 124) hx hb dX5_nextA_1 (by decide) (by decide) (by decide) (by decide) ?_
  refine lv_lload_n hx hb dX5_nextA_124 rfl (lv_at hl 1 rfl) ?_
  refine lv_ldc2 (v := 8608480567731124087) hx hb hown (ht _ k_8_237) dX5_nextA_125 ?_
  refine lv_land hx hb dX5_nextA_128 ?_
  refine lv_topl (fun x_1 ex_1 => ?_)
  refine lv_iconst (v := 1) hx hb dX5_nextA_129 (by decide) ?_
  refine lv_lshl hx hb dX5_nextA_130 rfl ?_
  refine lv_topl (fun x_2 ex_2 => ?_)
  exact W.lret (v := x_2) hx hb hr (fun t ht9 hW => ⟨⟨x_2, (), rfl, (by simp only [ex_2, ex_1]; rfl), by rw [ht9]; exact hP.sub [] rfl, va_K.moved hW.alike (hK.sub [] rfl), hD.sub [] (by decide) rfl⟩, hS.F ht9⟩) hS.2.2 dX5_nextA_131
set_option maxHeartbeats 4000000 in
set_option maxRecDepth 100000 in
theorem x_nextA_14 (l : Launch) (dC : Nat → ClassId) (dI : Nat → Nat → Nat) (sz : Nat) (a : Int64) (b : Int64)  : Met l yX5_nextA (Cond.code yX5_nextA cX5_nextA 5 (some .long) :: tb) ({ frames := 4, cells := 0, slots := 0, locals := 120 }) (pcw [.int 14, .long a, .long b] (dC, dI) [] [] sz) (va_Ql (fun (r : Int64) => (fun (_ : Unit) => r = nxA 14 a b)) (bw (dC, dI) (va_A [] sz) (fun (_ : Unit) => []) (fun (_ : Unit) => [])) (va_A [] sz)) 0 0 (va_A [] sz) := by
  refine Met.ofW (cc := cX5_nextA) (maxL := 5) (ret := (some .long)) (by decide) rfl ?_
  intro p e s m args below meth c s₁ B hml hv
  obtain ⟨rfl, hsz, hP, hK, hD0⟩ := hv
  have hx := B.exec
  have hb := B.bytes
  have hr := B.returns
  have hts := atoms_spec (ws := Cond.code yX5_nextA cX5_nextA 5 (some .long) :: tb) B.pre
  have ht : ∀ w ∈ tb, w.before _ s = true := fun w h => hts w (List.mem_cons_of_mem _ h)
  have hown : s.vm.findClass RX5 = some m.cls := findClass_of_methodNamed B.named
  have hlocks := B.notSynchronized
  subst hsz
  have hD := hD0.self (sz := s.heap.size)
  generalize hAe : va_A [] s.heap.size = A at hD ⊢
  have hA : ∀ q : Nat, s.heap.size ≤ q → A q := fun q h => by rw [← hAe]; exact Or.inr h
  have hS : va_S A s.heap s.heap [] := va_S.rf
  have hl := lv_entry ([.int 14, .long a, .long b]) (n := 5) (Nat.le_of_ble_eq_true rfl)
  rw [lg_entry_eq]
  generalize (lg_sl ([.int 14, .long a, .long b]) ++ List.replicate (5 - (lg_sl ([.int 14, .long a, .long b])).length) Slot.unset).toArray = ls at hl ⊢
  have hl : lv_has ls 5 [(0, .int 14), (1, .long a), (3, .long b)] := hl
  have hP : va_P (dC, dI) cls [] s.heap := hP
  refine lv_iload_n hx hb dX5_nextA_0 rfl (lv_at hl 0 rfl) ?_
  refine lv_tableIn (off := 131) (tgt := 132) hx hb dX5_nextA_1 (by decide) (by decide) (by decide) (by decide) ?_
  refine lv_lload_n hx hb dX5_nextA_132 rfl (lv_at hl 1 rfl) ?_
  refine lv_iconst (v := 1) hx hb dX5_nextA_133 (by decide) ?_
  refine lv_lushr hx hb dX5_nextA_134 rfl ?_
  refine lv_topl (fun x_1 ex_1 => ?_)
  refine lv_ldc2 (v := 8608480567731124087) hx hb hown (ht _ k_8_237) dX5_nextA_135 ?_
  refine lv_land hx hb dX5_nextA_138 ?_
  refine lv_topl (fun x_2 ex_2 => ?_)
  exact W.lret (v := x_2) hx hb hr (fun t ht9 hW => ⟨⟨x_2, (), rfl, (by simp only [ex_2, ex_1]; rfl), by rw [ht9]; exact hP.sub [] rfl, va_K.moved hW.alike (hK.sub [] rfl), hD.sub [] (by decide) rfl⟩, hS.F ht9⟩) hS.2.2 dX5_nextA_139
set_option maxHeartbeats 4000000 in
set_option maxRecDepth 100000 in
theorem x_nextA_15 (l : Launch) (dC : Nat → ClassId) (dI : Nat → Nat → Nat) (sz : Nat) (a : Int64) (b : Int64)  : Met l yX5_nextA (Cond.code yX5_nextA cX5_nextA 5 (some .long) :: tb) ({ frames := 4, cells := 0, slots := 0, locals := 120 }) (pcw [.int 15, .long a, .long b] (dC, dI) [] [] sz) (va_Ql (fun (r : Int64) => (fun (_ : Unit) => r = nxA 15 a b)) (bw (dC, dI) (va_A [] sz) (fun (_ : Unit) => []) (fun (_ : Unit) => [])) (va_A [] sz)) 0 0 (va_A [] sz) := by
  refine Met.ofW (cc := cX5_nextA) (maxL := 5) (ret := (some .long)) (by decide) rfl ?_
  intro p e s m args below meth c s₁ B hml hv
  obtain ⟨rfl, hsz, hP, hK, hD0⟩ := hv
  have hx := B.exec
  have hb := B.bytes
  have hr := B.returns
  have hts := atoms_spec (ws := Cond.code yX5_nextA cX5_nextA 5 (some .long) :: tb) B.pre
  have ht : ∀ w ∈ tb, w.before _ s = true := fun w h => hts w (List.mem_cons_of_mem _ h)
  have hown : s.vm.findClass RX5 = some m.cls := findClass_of_methodNamed B.named
  have hlocks := B.notSynchronized
  subst hsz
  have hD := hD0.self (sz := s.heap.size)
  generalize hAe : va_A [] s.heap.size = A at hD ⊢
  have hA : ∀ q : Nat, s.heap.size ≤ q → A q := fun q h => by rw [← hAe]; exact Or.inr h
  have hS : va_S A s.heap s.heap [] := va_S.rf
  have hl := lv_entry ([.int 15, .long a, .long b]) (n := 5) (Nat.le_of_ble_eq_true rfl)
  rw [lg_entry_eq]
  generalize (lg_sl ([.int 15, .long a, .long b]) ++ List.replicate (5 - (lg_sl ([.int 15, .long a, .long b])).length) Slot.unset).toArray = ls at hl ⊢
  have hl : lv_has ls 5 [(0, .int 15), (1, .long a), (3, .long b)] := hl
  have hP : va_P (dC, dI) cls [] s.heap := hP
  refine lv_iload_n hx hb dX5_nextA_0 rfl (lv_at hl 0 rfl) ?_
  refine lv_tableIn (off := 139) (tgt := 140) hx hb dX5_nextA_1 (by decide) (by decide) (by decide) (by decide) ?_
  refine lv_lload_n hx hb dX5_nextA_140 rfl (lv_at hl 2 rfl) ?_
  exact W.lret (v := b) hx hb hr (fun t ht9 hW => ⟨⟨b, (), rfl, rfl, by rw [ht9]; exact hP.sub [] rfl, va_K.moved hW.alike (hK.sub [] rfl), hD.sub [] (by decide) rfl⟩, hS.F ht9⟩) hS.2.2 dX5_nextA_141
set_option maxHeartbeats 4000000 in
set_option maxRecDepth 100000 in
theorem x_nextA_16 (l : Launch) (dC : Nat → ClassId) (dI : Nat → Nat → Nat) (sz : Nat) (a : Int64) (b : Int64)  : Met l yX5_nextA (Cond.code yX5_nextA cX5_nextA 5 (some .long) :: tb) ({ frames := 4, cells := 0, slots := 0, locals := 120 }) (pcw [.int 16, .long a, .long b] (dC, dI) [] [] sz) (va_Ql (fun (r : Int64) => (fun (_ : Unit) => r = nxA 16 a b)) (bw (dC, dI) (va_A [] sz) (fun (_ : Unit) => []) (fun (_ : Unit) => [])) (va_A [] sz)) 0 0 (va_A [] sz) := by
  refine Met.ofW (cc := cX5_nextA) (maxL := 5) (ret := (some .long)) (by decide) rfl ?_
  intro p e s m args below meth c s₁ B hml hv
  obtain ⟨rfl, hsz, hP, hK, hD0⟩ := hv
  have hx := B.exec
  have hb := B.bytes
  have hr := B.returns
  have hts := atoms_spec (ws := Cond.code yX5_nextA cX5_nextA 5 (some .long) :: tb) B.pre
  have ht : ∀ w ∈ tb, w.before _ s = true := fun w h => hts w (List.mem_cons_of_mem _ h)
  have hown : s.vm.findClass RX5 = some m.cls := findClass_of_methodNamed B.named
  have hlocks := B.notSynchronized
  subst hsz
  have hD := hD0.self (sz := s.heap.size)
  generalize hAe : va_A [] s.heap.size = A at hD ⊢
  have hA : ∀ q : Nat, s.heap.size ≤ q → A q := fun q h => by rw [← hAe]; exact Or.inr h
  have hS : va_S A s.heap s.heap [] := va_S.rf
  have hl := lv_entry ([.int 16, .long a, .long b]) (n := 5) (Nat.le_of_ble_eq_true rfl)
  rw [lg_entry_eq]
  generalize (lg_sl ([.int 16, .long a, .long b]) ++ List.replicate (5 - (lg_sl ([.int 16, .long a, .long b])).length) Slot.unset).toArray = ls at hl ⊢
  have hl : lv_has ls 5 [(0, .int 16), (1, .long a), (3, .long b)] := hl
  have hP : va_P (dC, dI) cls [] s.heap := hP
  refine lv_iload_n hx hb dX5_nextA_0 rfl (lv_at hl 0 rfl) ?_
  refine lv_tableIn (off := 141) (tgt := 142) hx hb dX5_nextA_1 (by decide) (by decide) (by decide) (by decide) ?_
  refine lv_lconst (v := 0) hx hb dX5_nextA_142 (by decide) ?_
  refine lv_lload_n hx hb dX5_nextA_143 rfl (lv_at hl 1 rfl) ?_
  refine ca_l (wr := []) (va_runS (As := [.long 0, .long a]) (rest := []) ⟨hx, hb, hml, hown, ht⟩ (x_less l dC dI s.heap.size 0 a  ) (cwS 2 ht (gdS k_9_1 k_8_239 k_9_0 k_1_15) rfl rfl rfl (by decide +kernel) ⟨Nat.le_of_ble_eq_true rfl, Nat.le_of_ble_eq_true rfl⟩) ⟨pcw_blind, pcw_at hP hD hK [] [] (by decide) rfl rfl rfl⟩ rfl rfl hl.1 rfl (lv_room (Nat.le_of_ble_eq_true rfl)) dX5_nextA_144 ⟨Nat.le_of_ble_eq_true rfl, Nat.le_of_ble_eq_true rfl⟩) hP hD hK hS hA [] [] rfl rfl (by decide) (by decide) (fun r_1 u H locs w_2 hK hP hD hS => ?_)
  have hK : va_K (dC, dI) cls [] s := hK
  have hP : va_P (dC, dI) cls [] H := hP
  have hD : va_D A [] := hD
  exact W.lret (v := r_1) hx hb hr (fun t ht9 hW => ⟨⟨r_1, (), rfl, (by simp only [w_2]; rfl), by rw [ht9]; exact hP.sub [] rfl, va_K.moved hW.alike (hK.sub [] rfl), hD.sub [] (by decide) rfl⟩, hS.F ht9⟩) hS.2.2 dX5_nextA_147
set_option maxHeartbeats 4000000 in
set_option maxRecDepth 100000 in
theorem x_nextA_17 (l : Launch) (dC : Nat → ClassId) (dI : Nat → Nat → Nat) (sz : Nat) (a : Int64) (b : Int64)  : Met l yX5_nextA (Cond.code yX5_nextA cX5_nextA 5 (some .long) :: tb) ({ frames := 4, cells := 0, slots := 0, locals := 120 }) (pcw [.int 17, .long a, .long b] (dC, dI) [] [] sz) (va_Ql (fun (r : Int64) => (fun (_ : Unit) => r = nxA 17 a b)) (bw (dC, dI) (va_A [] sz) (fun (_ : Unit) => []) (fun (_ : Unit) => [])) (va_A [] sz)) 0 0 (va_A [] sz) := by
  refine Met.ofW (cc := cX5_nextA) (maxL := 5) (ret := (some .long)) (by decide) rfl ?_
  intro p e s m args below meth c s₁ B hml hv
  obtain ⟨rfl, hsz, hP, hK, hD0⟩ := hv
  have hx := B.exec
  have hb := B.bytes
  have hr := B.returns
  have hts := atoms_spec (ws := Cond.code yX5_nextA cX5_nextA 5 (some .long) :: tb) B.pre
  have ht : ∀ w ∈ tb, w.before _ s = true := fun w h => hts w (List.mem_cons_of_mem _ h)
  have hown : s.vm.findClass RX5 = some m.cls := findClass_of_methodNamed B.named
  have hlocks := B.notSynchronized
  subst hsz
  have hD := hD0.self (sz := s.heap.size)
  generalize hAe : va_A [] s.heap.size = A at hD ⊢
  have hA : ∀ q : Nat, s.heap.size ≤ q → A q := fun q h => by rw [← hAe]; exact Or.inr h
  have hS : va_S A s.heap s.heap [] := va_S.rf
  have hl := lv_entry ([.int 17, .long a, .long b]) (n := 5) (Nat.le_of_ble_eq_true rfl)
  rw [lg_entry_eq]
  generalize (lg_sl ([.int 17, .long a, .long b]) ++ List.replicate (5 - (lg_sl ([.int 17, .long a, .long b])).length) Slot.unset).toArray = ls at hl ⊢
  have hl : lv_has ls 5 [(0, .int 17), (1, .long a), (3, .long b)] := hl
  have hP : va_P (dC, dI) cls [] s.heap := hP
  refine lv_iload_n hx hb dX5_nextA_0 rfl (lv_at hl 0 rfl) ?_
  refine lv_tableIn (off := 147) (tgt := 148) hx hb dX5_nextA_1 (by decide) (by decide) (by decide) (by decide) ?_
  refine lv_lload_n hx hb dX5_nextA_148 rfl (lv_at hl 1 rfl) ?_
  refine lv_lload_n hx hb dX5_nextA_149 rfl (lv_at hl 2 rfl) ?_
  refine ca_l (wr := []) (va_runS (As := [.long a, .long b]) (rest := []) ⟨hx, hb, hml, hown, ht⟩ (x_product l dC dI s.heap.size a b  ) (cwS 2 ht (gdS k_9_6 k_9_4 k_9_5 k_1_15) rfl rfl rfl (by decide +kernel) ⟨Nat.le_of_ble_eq_true rfl, Nat.le_of_ble_eq_true rfl⟩) ⟨pcw_blind, pcw_at hP hD hK [] [] (by decide) rfl rfl rfl⟩ rfl rfl hl.1 rfl (lv_room (Nat.le_of_ble_eq_true rfl)) dX5_nextA_150 ⟨Nat.le_of_ble_eq_true rfl, Nat.le_of_ble_eq_true rfl⟩) hP hD hK hS hA [] [] rfl rfl (by decide) (by decide) (fun r_1 u H locs w_2 hK hP hD hS => ?_)
  have hK : va_K (dC, dI) cls [] s := hK
  have hP : va_P (dC, dI) cls [] H := hP
  have hD : va_D A [] := hD
  exact W.lret (v := r_1) hx hb hr (fun t ht9 hW => ⟨⟨r_1, (), rfl, (by simp only [w_2]; rfl), by rw [ht9]; exact hP.sub [] rfl, va_K.moved hW.alike (hK.sub [] rfl), hD.sub [] (by decide) rfl⟩, hS.F ht9⟩) hS.2.2 dX5_nextA_153
theorem x_nextA (l : Launch) (dC : Nat → ClassId) (dI : Nat → Nat → Nat) (sz : Nat) (j : Nat) (a : Int64) (b : Int64) (hj : j < 18) : Met l yX5_nextA (Cond.code yX5_nextA cX5_nextA 5 (some .long) :: tb) ({ frames := 4, cells := 0, slots := 0, locals := 120 }) (pcw [.int (nI j), .long a, .long b] (dC, dI) [] [] sz) (va_Ql (fun (r : Int64) => (fun (_ : Unit) => r = nxA j a b)) (bw (dC, dI) (va_A [] sz) (fun (_ : Unit) => []) (fun (_ : Unit) => [])) (va_A [] sz)) 0 0 (va_A [] sz) := by
  match j, hj with
  | 0, _ => exact x_nextA_0 l dC dI sz a b
  | 1, _ => exact x_nextA_1 l dC dI sz a b
  | 2, _ => exact x_nextA_2 l dC dI sz a b
  | 3, _ => exact x_nextA_3 l dC dI sz a b
  | 4, _ => exact x_nextA_4 l dC dI sz a b
  | 5, _ => exact x_nextA_5 l dC dI sz a b
  | 6, _ => exact x_nextA_6 l dC dI sz a b
  | 7, _ => exact x_nextA_7 l dC dI sz a b
  | 8, _ => exact x_nextA_8 l dC dI sz a b
  | 9, _ => exact x_nextA_9 l dC dI sz a b
  | 10, _ => exact x_nextA_10 l dC dI sz a b
  | 11, _ => exact x_nextA_11 l dC dI sz a b
  | 12, _ => exact x_nextA_12 l dC dI sz a b
  | 13, _ => exact x_nextA_13 l dC dI sz a b
  | 14, _ => exact x_nextA_14 l dC dI sz a b
  | 15, _ => exact x_nextA_15 l dC dI sz a b
  | 16, _ => exact x_nextA_16 l dC dI sz a b
  | 17, _ => exact x_nextA_17 l dC dI sz a b
  | n + 18, h => exact absurd h (by omega)
set_option maxHeartbeats 4000000 in
set_option maxRecDepth 100000 in
theorem x_nextB_0 (l : Launch) (dC : Nat → ClassId) (dI : Nat → Nat → Nat) (sz : Nat) (a : Int64) (b : Int64)  : Met l yX5_nextB (Cond.code yX5_nextB cX5_nextB 5 (some .long) :: tb) ({ frames := 4, cells := 0, slots := 0, locals := 120 }) (pcw [.int 0, .long a, .long b] (dC, dI) [] [] sz) (va_Ql (fun (r : Int64) => (fun (_ : Unit) => r = nxB 0 a b)) (bw (dC, dI) (va_A [] sz) (fun (_ : Unit) => []) (fun (_ : Unit) => [])) (va_A [] sz)) 0 0 (va_A [] sz) := by
  refine Met.ofW (cc := cX5_nextB) (maxL := 5) (ret := (some .long)) (by decide) rfl ?_
  intro p e s m args below meth c s₁ B hml hv
  obtain ⟨rfl, hsz, hP, hK, hD0⟩ := hv
  have hx := B.exec
  have hb := B.bytes
  have hr := B.returns
  have hts := atoms_spec (ws := Cond.code yX5_nextB cX5_nextB 5 (some .long) :: tb) B.pre
  have ht : ∀ w ∈ tb, w.before _ s = true := fun w h => hts w (List.mem_cons_of_mem _ h)
  have hown : s.vm.findClass RX5 = some m.cls := findClass_of_methodNamed B.named
  have hlocks := B.notSynchronized
  subst hsz
  have hD := hD0.self (sz := s.heap.size)
  generalize hAe : va_A [] s.heap.size = A at hD ⊢
  have hA : ∀ q : Nat, s.heap.size ≤ q → A q := fun q h => by rw [← hAe]; exact Or.inr h
  have hS : va_S A s.heap s.heap [] := va_S.rf
  have hl := lv_entry ([.int 0, .long a, .long b]) (n := 5) (Nat.le_of_ble_eq_true rfl)
  rw [lg_entry_eq]
  generalize (lg_sl ([.int 0, .long a, .long b]) ++ List.replicate (5 - (lg_sl ([.int 0, .long a, .long b])).length) Slot.unset).toArray = ls at hl ⊢
  have hl : lv_has ls 5 [(0, .int 0), (1, .long a), (3, .long b)] := hl
  have hP : va_P (dC, dI) cls [] s.heap := hP
  refine lv_iload_n hx hb dX5_nextB_0 rfl (lv_at hl 0 rfl) ?_
  refine lv_tableOut (tgt := 108) hx hb dX5_nextB_1 (by decide) (by decide) ?_
  refine lv_lload_n hx hb dX5_nextB_108 rfl (lv_at hl 2 rfl) ?_
  exact W.lret (v := b) hx hb hr (fun t ht9 hW => ⟨⟨b, (), rfl, rfl, by rw [ht9]; exact hP.sub [] rfl, va_K.moved hW.alike (hK.sub [] rfl), hD.sub [] (by decide) rfl⟩, hS.F ht9⟩) hS.2.2 dX5_nextB_109
set_option maxHeartbeats 4000000 in
set_option maxRecDepth 100000 in
theorem x_nextB_1 (l : Launch) (dC : Nat → ClassId) (dI : Nat → Nat → Nat) (sz : Nat) (a : Int64) (b : Int64)  : Met l yX5_nextB (Cond.code yX5_nextB cX5_nextB 5 (some .long) :: tb) ({ frames := 4, cells := 0, slots := 0, locals := 120 }) (pcw [.int 1, .long a, .long b] (dC, dI) [] [] sz) (va_Ql (fun (r : Int64) => (fun (_ : Unit) => r = nxB 1 a b)) (bw (dC, dI) (va_A [] sz) (fun (_ : Unit) => []) (fun (_ : Unit) => [])) (va_A [] sz)) 0 0 (va_A [] sz) := by
  refine Met.ofW (cc := cX5_nextB) (maxL := 5) (ret := (some .long)) (by decide) rfl ?_
  intro p e s m args below meth c s₁ B hml hv
  obtain ⟨rfl, hsz, hP, hK, hD0⟩ := hv
  have hx := B.exec
  have hb := B.bytes
  have hr := B.returns
  have hts := atoms_spec (ws := Cond.code yX5_nextB cX5_nextB 5 (some .long) :: tb) B.pre
  have ht : ∀ w ∈ tb, w.before _ s = true := fun w h => hts w (List.mem_cons_of_mem _ h)
  have hown : s.vm.findClass RX5 = some m.cls := findClass_of_methodNamed B.named
  have hlocks := B.notSynchronized
  subst hsz
  have hD := hD0.self (sz := s.heap.size)
  generalize hAe : va_A [] s.heap.size = A at hD ⊢
  have hA : ∀ q : Nat, s.heap.size ≤ q → A q := fun q h => by rw [← hAe]; exact Or.inr h
  have hS : va_S A s.heap s.heap [] := va_S.rf
  have hl := lv_entry ([.int 1, .long a, .long b]) (n := 5) (Nat.le_of_ble_eq_true rfl)
  rw [lg_entry_eq]
  generalize (lg_sl ([.int 1, .long a, .long b]) ++ List.replicate (5 - (lg_sl ([.int 1, .long a, .long b])).length) Slot.unset).toArray = ls at hl ⊢
  have hl : lv_has ls 5 [(0, .int 1), (1, .long a), (3, .long b)] := hl
  have hP : va_P (dC, dI) cls [] s.heap := hP
  refine lv_iload_n hx hb dX5_nextB_0 rfl (lv_at hl 0 rfl) ?_
  refine lv_tableIn (off := 75) (tgt := 76) hx hb dX5_nextB_1 (by decide) (by decide) (by decide) (by decide) ?_
  refine lv_lload_n hx hb dX5_nextB_76 rfl (lv_at hl 1 rfl) ?_
  refine lv_lload_n hx hb dX5_nextB_77 rfl (lv_at hl 2 rfl) ?_
  refine ca_l (wr := []) (va_runS (As := [.long a, .long b]) (rest := []) ⟨hx, hb, hml, hown, ht⟩ (x_sum l dC dI s.heap.size a b  ) (cwS 2 ht (gdS k_8_236 k_8_234 k_8_235 k_1_15) rfl rfl rfl (by decide +kernel) ⟨Nat.le_of_ble_eq_true rfl, Nat.le_of_ble_eq_true rfl⟩) ⟨pcw_blind, pcw_at hP hD hK [] [] (by decide) rfl rfl rfl⟩ rfl rfl hl.1 rfl (lv_room (Nat.le_of_ble_eq_true rfl)) dX5_nextB_78 ⟨Nat.le_of_ble_eq_true rfl, Nat.le_of_ble_eq_true rfl⟩) hP hD hK hS hA [] [] rfl rfl (by decide) (by decide) (fun r_1 u H locs w_2 hK hP hD hS => ?_)
  have hK : va_K (dC, dI) cls [] s := hK
  have hP : va_P (dC, dI) cls [] H := hP
  have hD : va_D A [] := hD
  exact W.lret (v := r_1) hx hb hr (fun t ht9 hW => ⟨⟨r_1, (), rfl, (by simp only [w_2]; rfl), by rw [ht9]; exact hP.sub [] rfl, va_K.moved hW.alike (hK.sub [] rfl), hD.sub [] (by decide) rfl⟩, hS.F ht9⟩) hS.2.2 dX5_nextB_81
set_option maxHeartbeats 4000000 in
set_option maxRecDepth 100000 in
theorem x_nextB_2 (l : Launch) (dC : Nat → ClassId) (dI : Nat → Nat → Nat) (sz : Nat) (a : Int64) (b : Int64)  : Met l yX5_nextB (Cond.code yX5_nextB cX5_nextB 5 (some .long) :: tb) ({ frames := 4, cells := 0, slots := 0, locals := 120 }) (pcw [.int 2, .long a, .long b] (dC, dI) [] [] sz) (va_Ql (fun (r : Int64) => (fun (_ : Unit) => r = nxB 2 a b)) (bw (dC, dI) (va_A [] sz) (fun (_ : Unit) => []) (fun (_ : Unit) => [])) (va_A [] sz)) 0 0 (va_A [] sz) := by
  refine Met.ofW (cc := cX5_nextB) (maxL := 5) (ret := (some .long)) (by decide) rfl ?_
  intro p e s m args below meth c s₁ B hml hv
  obtain ⟨rfl, hsz, hP, hK, hD0⟩ := hv
  have hx := B.exec
  have hb := B.bytes
  have hr := B.returns
  have hts := atoms_spec (ws := Cond.code yX5_nextB cX5_nextB 5 (some .long) :: tb) B.pre
  have ht : ∀ w ∈ tb, w.before _ s = true := fun w h => hts w (List.mem_cons_of_mem _ h)
  have hown : s.vm.findClass RX5 = some m.cls := findClass_of_methodNamed B.named
  have hlocks := B.notSynchronized
  subst hsz
  have hD := hD0.self (sz := s.heap.size)
  generalize hAe : va_A [] s.heap.size = A at hD ⊢
  have hA : ∀ q : Nat, s.heap.size ≤ q → A q := fun q h => by rw [← hAe]; exact Or.inr h
  have hS : va_S A s.heap s.heap [] := va_S.rf
  have hl := lv_entry ([.int 2, .long a, .long b]) (n := 5) (Nat.le_of_ble_eq_true rfl)
  rw [lg_entry_eq]
  generalize (lg_sl ([.int 2, .long a, .long b]) ++ List.replicate (5 - (lg_sl ([.int 2, .long a, .long b])).length) Slot.unset).toArray = ls at hl ⊢
  have hl : lv_has ls 5 [(0, .int 2), (1, .long a), (3, .long b)] := hl
  have hP : va_P (dC, dI) cls [] s.heap := hP
  refine lv_iload_n hx hb dX5_nextB_0 rfl (lv_at hl 0 rfl) ?_
  refine lv_tableIn (off := 107) (tgt := 108) hx hb dX5_nextB_1 (by decide) (by decide) (by decide) (by decide) ?_
  refine lv_lload_n hx hb dX5_nextB_108 rfl (lv_at hl 2 rfl) ?_
  exact W.lret (v := b) hx hb hr (fun t ht9 hW => ⟨⟨b, (), rfl, rfl, by rw [ht9]; exact hP.sub [] rfl, va_K.moved hW.alike (hK.sub [] rfl), hD.sub [] (by decide) rfl⟩, hS.F ht9⟩) hS.2.2 dX5_nextB_109
set_option maxHeartbeats 4000000 in
set_option maxRecDepth 100000 in
theorem x_nextB_3 (l : Launch) (dC : Nat → ClassId) (dI : Nat → Nat → Nat) (sz : Nat) (a : Int64) (b : Int64)  : Met l yX5_nextB (Cond.code yX5_nextB cX5_nextB 5 (some .long) :: tb) ({ frames := 4, cells := 0, slots := 0, locals := 120 }) (pcw [.int 3, .long a, .long b] (dC, dI) [] [] sz) (va_Ql (fun (r : Int64) => (fun (_ : Unit) => r = nxB 3 a b)) (bw (dC, dI) (va_A [] sz) (fun (_ : Unit) => []) (fun (_ : Unit) => [])) (va_A [] sz)) 0 0 (va_A [] sz) := by
  refine Met.ofW (cc := cX5_nextB) (maxL := 5) (ret := (some .long)) (by decide) rfl ?_
  intro p e s m args below meth c s₁ B hml hv
  obtain ⟨rfl, hsz, hP, hK, hD0⟩ := hv
  have hx := B.exec
  have hb := B.bytes
  have hr := B.returns
  have hts := atoms_spec (ws := Cond.code yX5_nextB cX5_nextB 5 (some .long) :: tb) B.pre
  have ht : ∀ w ∈ tb, w.before _ s = true := fun w h => hts w (List.mem_cons_of_mem _ h)
  have hown : s.vm.findClass RX5 = some m.cls := findClass_of_methodNamed B.named
  have hlocks := B.notSynchronized
  subst hsz
  have hD := hD0.self (sz := s.heap.size)
  generalize hAe : va_A [] s.heap.size = A at hD ⊢
  have hA : ∀ q : Nat, s.heap.size ≤ q → A q := fun q h => by rw [← hAe]; exact Or.inr h
  have hS : va_S A s.heap s.heap [] := va_S.rf
  have hl := lv_entry ([.int 3, .long a, .long b]) (n := 5) (Nat.le_of_ble_eq_true rfl)
  rw [lg_entry_eq]
  generalize (lg_sl ([.int 3, .long a, .long b]) ++ List.replicate (5 - (lg_sl ([.int 3, .long a, .long b])).length) Slot.unset).toArray = ls at hl ⊢
  have hl : lv_has ls 5 [(0, .int 3), (1, .long a), (3, .long b)] := hl
  have hP : va_P (dC, dI) cls [] s.heap := hP
  refine lv_iload_n hx hb dX5_nextB_0 rfl (lv_at hl 0 rfl) ?_
  refine lv_tableIn (off := 81) (tgt := 82) hx hb dX5_nextB_1 (by decide) (by decide) (by decide) (by decide) ?_
  refine lv_lload_n hx hb dX5_nextB_82 rfl (lv_at hl 2 rfl) ?_
  refine lv_lload_n hx hb dX5_nextB_83 rfl (lv_at hl 1 rfl) ?_
  refine ca_l (wr := []) (va_runS (As := [.long b, .long a]) (rest := []) ⟨hx, hb, hml, hown, ht⟩ (x_less l dC dI s.heap.size b a  ) (cwS 2 ht (gdS k_9_1 k_8_239 k_9_0 k_1_15) rfl rfl rfl (by decide +kernel) ⟨Nat.le_of_ble_eq_true rfl, Nat.le_of_ble_eq_true rfl⟩) ⟨pcw_blind, pcw_at hP hD hK [] [] (by decide) rfl rfl rfl⟩ rfl rfl hl.1 rfl (lv_room (Nat.le_of_ble_eq_true rfl)) dX5_nextB_84 ⟨Nat.le_of_ble_eq_true rfl, Nat.le_of_ble_eq_true rfl⟩) hP hD hK hS hA [] [] rfl rfl (by decide) (by decide) (fun r_1 u H locs w_2 hK hP hD hS => ?_)
  have hK : va_K (dC, dI) cls [] s := hK
  have hP : va_P (dC, dI) cls [] H := hP
  have hD : va_D A [] := hD
  exact W.lret (v := r_1) hx hb hr (fun t ht9 hW => ⟨⟨r_1, (), rfl, (by simp only [w_2]; rfl), by rw [ht9]; exact hP.sub [] rfl, va_K.moved hW.alike (hK.sub [] rfl), hD.sub [] (by decide) rfl⟩, hS.F ht9⟩) hS.2.2 dX5_nextB_87
set_option maxHeartbeats 4000000 in
set_option maxRecDepth 100000 in
theorem x_nextB_4 (l : Launch) (dC : Nat → ClassId) (dI : Nat → Nat → Nat) (sz : Nat) (a : Int64) (b : Int64)  : Met l yX5_nextB (Cond.code yX5_nextB cX5_nextB 5 (some .long) :: tb) ({ frames := 4, cells := 0, slots := 0, locals := 120 }) (pcw [.int 4, .long a, .long b] (dC, dI) [] [] sz) (va_Ql (fun (r : Int64) => (fun (_ : Unit) => r = nxB 4 a b)) (bw (dC, dI) (va_A [] sz) (fun (_ : Unit) => []) (fun (_ : Unit) => [])) (va_A [] sz)) 0 0 (va_A [] sz) := by
  refine Met.ofW (cc := cX5_nextB) (maxL := 5) (ret := (some .long)) (by decide) rfl ?_
  intro p e s m args below meth c s₁ B hml hv
  obtain ⟨rfl, hsz, hP, hK, hD0⟩ := hv
  have hx := B.exec
  have hb := B.bytes
  have hr := B.returns
  have hts := atoms_spec (ws := Cond.code yX5_nextB cX5_nextB 5 (some .long) :: tb) B.pre
  have ht : ∀ w ∈ tb, w.before _ s = true := fun w h => hts w (List.mem_cons_of_mem _ h)
  have hown : s.vm.findClass RX5 = some m.cls := findClass_of_methodNamed B.named
  have hlocks := B.notSynchronized
  subst hsz
  have hD := hD0.self (sz := s.heap.size)
  generalize hAe : va_A [] s.heap.size = A at hD ⊢
  have hA : ∀ q : Nat, s.heap.size ≤ q → A q := fun q h => by rw [← hAe]; exact Or.inr h
  have hS : va_S A s.heap s.heap [] := va_S.rf
  have hl := lv_entry ([.int 4, .long a, .long b]) (n := 5) (Nat.le_of_ble_eq_true rfl)
  rw [lg_entry_eq]
  generalize (lg_sl ([.int 4, .long a, .long b]) ++ List.replicate (5 - (lg_sl ([.int 4, .long a, .long b])).length) Slot.unset).toArray = ls at hl ⊢
  have hl : lv_has ls 5 [(0, .int 4), (1, .long a), (3, .long b)] := hl
  have hP : va_P (dC, dI) cls [] s.heap := hP
  refine lv_iload_n hx hb dX5_nextB_0 rfl (lv_at hl 0 rfl) ?_
  refine lv_tableIn (off := 107) (tgt := 108) hx hb dX5_nextB_1 (by decide) (by decide) (by decide) (by decide) ?_
  refine lv_lload_n hx hb dX5_nextB_108 rfl (lv_at hl 2 rfl) ?_
  exact W.lret (v := b) hx hb hr (fun t ht9 hW => ⟨⟨b, (), rfl, rfl, by rw [ht9]; exact hP.sub [] rfl, va_K.moved hW.alike (hK.sub [] rfl), hD.sub [] (by decide) rfl⟩, hS.F ht9⟩) hS.2.2 dX5_nextB_109
set_option maxHeartbeats 4000000 in
set_option maxRecDepth 100000 in
theorem x_nextB_5 (l : Launch) (dC : Nat → ClassId) (dI : Nat → Nat → Nat) (sz : Nat) (a : Int64) (b : Int64)  : Met l yX5_nextB (Cond.code yX5_nextB cX5_nextB 5 (some .long) :: tb) ({ frames := 4, cells := 0, slots := 0, locals := 120 }) (pcw [.int 5, .long a, .long b] (dC, dI) [] [] sz) (va_Ql (fun (r : Int64) => (fun (_ : Unit) => r = nxB 5 a b)) (bw (dC, dI) (va_A [] sz) (fun (_ : Unit) => []) (fun (_ : Unit) => [])) (va_A [] sz)) 0 0 (va_A [] sz) := by
  refine Met.ofW (cc := cX5_nextB) (maxL := 5) (ret := (some .long)) (by decide) rfl ?_
  intro p e s m args below meth c s₁ B hml hv
  obtain ⟨rfl, hsz, hP, hK, hD0⟩ := hv
  have hx := B.exec
  have hb := B.bytes
  have hr := B.returns
  have hts := atoms_spec (ws := Cond.code yX5_nextB cX5_nextB 5 (some .long) :: tb) B.pre
  have ht : ∀ w ∈ tb, w.before _ s = true := fun w h => hts w (List.mem_cons_of_mem _ h)
  have hown : s.vm.findClass RX5 = some m.cls := findClass_of_methodNamed B.named
  have hlocks := B.notSynchronized
  subst hsz
  have hD := hD0.self (sz := s.heap.size)
  generalize hAe : va_A [] s.heap.size = A at hD ⊢
  have hA : ∀ q : Nat, s.heap.size ≤ q → A q := fun q h => by rw [← hAe]; exact Or.inr h
  have hS : va_S A s.heap s.heap [] := va_S.rf
  have hl := lv_entry ([.int 5, .long a, .long b]) (n := 5) (Nat.le_of_ble_eq_true rfl)
  rw [lg_entry_eq]
  generalize (lg_sl ([.int 5, .long a, .long b]) ++ List.replicate (5 - (lg_sl ([.int 5, .long a, .long b])).length) Slot.unset).toArray = ls at hl ⊢
  have hl : lv_has ls 5 [(0, .int 5), (1, .long a), (3, .long b)] := hl
  have hP : va_P (dC, dI) cls [] s.heap := hP
  refine lv_iload_n hx hb dX5_nextB_0 rfl (lv_at hl 0 rfl) ?_
  refine lv_tableIn (off := 87) (tgt := 88) hx hb dX5_nextB_1 (by decide) (by decide) (by decide) (by decide) ?_
  refine lv_lload_n hx hb dX5_nextB_88 rfl (lv_at hl 1 rfl) ?_
  refine lv_lload_n hx hb dX5_nextB_89 rfl (lv_at hl 2 rfl) ?_
  refine lv_lxor hx hb dX5_nextB_90 ?_
  refine lv_topl (fun x_1 ex_1 => ?_)
  exact W.lret (v := x_1) hx hb hr (fun t ht9 hW => ⟨⟨x_1, (), rfl, (by simp only [ex_1]; rfl), by rw [ht9]; exact hP.sub [] rfl, va_K.moved hW.alike (hK.sub [] rfl), hD.sub [] (by decide) rfl⟩, hS.F ht9⟩) hS.2.2 dX5_nextB_91
set_option maxHeartbeats 4000000 in
set_option maxRecDepth 100000 in
theorem x_nextB_6 (l : Launch) (dC : Nat → ClassId) (dI : Nat → Nat → Nat) (sz : Nat) (a : Int64) (b : Int64)  : Met l yX5_nextB (Cond.code yX5_nextB cX5_nextB 5 (some .long) :: tb) ({ frames := 4, cells := 0, slots := 0, locals := 120 }) (pcw [.int 6, .long a, .long b] (dC, dI) [] [] sz) (va_Ql (fun (r : Int64) => (fun (_ : Unit) => r = nxB 6 a b)) (bw (dC, dI) (va_A [] sz) (fun (_ : Unit) => []) (fun (_ : Unit) => [])) (va_A [] sz)) 0 0 (va_A [] sz) := by
  refine Met.ofW (cc := cX5_nextB) (maxL := 5) (ret := (some .long)) (by decide) rfl ?_
  intro p e s m args below meth c s₁ B hml hv
  obtain ⟨rfl, hsz, hP, hK, hD0⟩ := hv
  have hx := B.exec
  have hb := B.bytes
  have hr := B.returns
  have hts := atoms_spec (ws := Cond.code yX5_nextB cX5_nextB 5 (some .long) :: tb) B.pre
  have ht : ∀ w ∈ tb, w.before _ s = true := fun w h => hts w (List.mem_cons_of_mem _ h)
  have hown : s.vm.findClass RX5 = some m.cls := findClass_of_methodNamed B.named
  have hlocks := B.notSynchronized
  subst hsz
  have hD := hD0.self (sz := s.heap.size)
  generalize hAe : va_A [] s.heap.size = A at hD ⊢
  have hA : ∀ q : Nat, s.heap.size ≤ q → A q := fun q h => by rw [← hAe]; exact Or.inr h
  have hS : va_S A s.heap s.heap [] := va_S.rf
  have hl := lv_entry ([.int 6, .long a, .long b]) (n := 5) (Nat.le_of_ble_eq_true rfl)
  rw [lg_entry_eq]
  generalize (lg_sl ([.int 6, .long a, .long b]) ++ List.replicate (5 - (lg_sl ([.int 6, .long a, .long b])).length) Slot.unset).toArray = ls at hl ⊢
  have hl : lv_has ls 5 [(0, .int 6), (1, .long a), (3, .long b)] := hl
  have hP : va_P (dC, dI) cls [] s.heap := hP
  refine lv_iload_n hx hb dX5_nextB_0 rfl (lv_at hl 0 rfl) ?_
  refine lv_tableIn (off := 107) (tgt := 108) hx hb dX5_nextB_1 (by decide) (by decide) (by decide) (by decide) ?_
  refine lv_lload_n hx hb dX5_nextB_108 rfl (lv_at hl 2 rfl) ?_
  exact W.lret (v := b) hx hb hr (fun t ht9 hW => ⟨⟨b, (), rfl, rfl, by rw [ht9]; exact hP.sub [] rfl, va_K.moved hW.alike (hK.sub [] rfl), hD.sub [] (by decide) rfl⟩, hS.F ht9⟩) hS.2.2 dX5_nextB_109
set_option maxHeartbeats 4000000 in
set_option maxRecDepth 100000 in
theorem x_nextB_7 (l : Launch) (dC : Nat → ClassId) (dI : Nat → Nat → Nat) (sz : Nat) (a : Int64) (b : Int64)  : Met l yX5_nextB (Cond.code yX5_nextB cX5_nextB 5 (some .long) :: tb) ({ frames := 4, cells := 0, slots := 0, locals := 120 }) (pcw [.int 7, .long a, .long b] (dC, dI) [] [] sz) (va_Ql (fun (r : Int64) => (fun (_ : Unit) => r = nxB 7 a b)) (bw (dC, dI) (va_A [] sz) (fun (_ : Unit) => []) (fun (_ : Unit) => [])) (va_A [] sz)) 0 0 (va_A [] sz) := by
  refine Met.ofW (cc := cX5_nextB) (maxL := 5) (ret := (some .long)) (by decide) rfl ?_
  intro p e s m args below meth c s₁ B hml hv
  obtain ⟨rfl, hsz, hP, hK, hD0⟩ := hv
  have hx := B.exec
  have hb := B.bytes
  have hr := B.returns
  have hts := atoms_spec (ws := Cond.code yX5_nextB cX5_nextB 5 (some .long) :: tb) B.pre
  have ht : ∀ w ∈ tb, w.before _ s = true := fun w h => hts w (List.mem_cons_of_mem _ h)
  have hown : s.vm.findClass RX5 = some m.cls := findClass_of_methodNamed B.named
  have hlocks := B.notSynchronized
  subst hsz
  have hD := hD0.self (sz := s.heap.size)
  generalize hAe : va_A [] s.heap.size = A at hD ⊢
  have hA : ∀ q : Nat, s.heap.size ≤ q → A q := fun q h => by rw [← hAe]; exact Or.inr h
  have hS : va_S A s.heap s.heap [] := va_S.rf
  have hl := lv_entry ([.int 7, .long a, .long b]) (n := 5) (Nat.le_of_ble_eq_true rfl)
  rw [lg_entry_eq]
  generalize (lg_sl ([.int 7, .long a, .long b]) ++ List.replicate (5 - (lg_sl ([.int 7, .long a, .long b])).length) Slot.unset).toArray = ls at hl ⊢
  have hl : lv_has ls 5 [(0, .int 7), (1, .long a), (3, .long b)] := hl
  have hP : va_P (dC, dI) cls [] s.heap := hP
  refine lv_iload_n hx hb dX5_nextB_0 rfl (lv_at hl 0 rfl) ?_
  refine lv_tableIn (off := 91) (tgt := 92) hx hb dX5_nextB_1 (by decide) (by decide) (by decide) (by decide) ?_
  refine lv_lload_n hx hb dX5_nextB_92 rfl (lv_at hl 1 rfl) ?_
  refine lv_lload_n hx hb dX5_nextB_93 rfl (lv_at hl 2 rfl) ?_
  refine lv_lor hx hb dX5_nextB_94 ?_
  refine lv_topl (fun x_1 ex_1 => ?_)
  exact W.lret (v := x_1) hx hb hr (fun t ht9 hW => ⟨⟨x_1, (), rfl, (by simp only [ex_1]; rfl), by rw [ht9]; exact hP.sub [] rfl, va_K.moved hW.alike (hK.sub [] rfl), hD.sub [] (by decide) rfl⟩, hS.F ht9⟩) hS.2.2 dX5_nextB_95
set_option maxHeartbeats 4000000 in
set_option maxRecDepth 100000 in
theorem x_nextB_8 (l : Launch) (dC : Nat → ClassId) (dI : Nat → Nat → Nat) (sz : Nat) (a : Int64) (b : Int64)  : Met l yX5_nextB (Cond.code yX5_nextB cX5_nextB 5 (some .long) :: tb) ({ frames := 4, cells := 0, slots := 0, locals := 120 }) (pcw [.int 8, .long a, .long b] (dC, dI) [] [] sz) (va_Ql (fun (r : Int64) => (fun (_ : Unit) => r = nxB 8 a b)) (bw (dC, dI) (va_A [] sz) (fun (_ : Unit) => []) (fun (_ : Unit) => [])) (va_A [] sz)) 0 0 (va_A [] sz) := by
  refine Met.ofW (cc := cX5_nextB) (maxL := 5) (ret := (some .long)) (by decide) rfl ?_
  intro p e s m args below meth c s₁ B hml hv
  obtain ⟨rfl, hsz, hP, hK, hD0⟩ := hv
  have hx := B.exec
  have hb := B.bytes
  have hr := B.returns
  have hts := atoms_spec (ws := Cond.code yX5_nextB cX5_nextB 5 (some .long) :: tb) B.pre
  have ht : ∀ w ∈ tb, w.before _ s = true := fun w h => hts w (List.mem_cons_of_mem _ h)
  have hown : s.vm.findClass RX5 = some m.cls := findClass_of_methodNamed B.named
  have hlocks := B.notSynchronized
  subst hsz
  have hD := hD0.self (sz := s.heap.size)
  generalize hAe : va_A [] s.heap.size = A at hD ⊢
  have hA : ∀ q : Nat, s.heap.size ≤ q → A q := fun q h => by rw [← hAe]; exact Or.inr h
  have hS : va_S A s.heap s.heap [] := va_S.rf
  have hl := lv_entry ([.int 8, .long a, .long b]) (n := 5) (Nat.le_of_ble_eq_true rfl)
  rw [lg_entry_eq]
  generalize (lg_sl ([.int 8, .long a, .long b]) ++ List.replicate (5 - (lg_sl ([.int 8, .long a, .long b])).length) Slot.unset).toArray = ls at hl ⊢
  have hl : lv_has ls 5 [(0, .int 8), (1, .long a), (3, .long b)] := hl
  have hP : va_P (dC, dI) cls [] s.heap := hP
  refine lv_iload_n hx hb dX5_nextB_0 rfl (lv_at hl 0 rfl) ?_
  refine lv_tableIn (off := 107) (tgt := 108) hx hb dX5_nextB_1 (by decide) (by decide) (by decide) (by decide) ?_
  refine lv_lload_n hx hb dX5_nextB_108 rfl (lv_at hl 2 rfl) ?_
  exact W.lret (v := b) hx hb hr (fun t ht9 hW => ⟨⟨b, (), rfl, rfl, by rw [ht9]; exact hP.sub [] rfl, va_K.moved hW.alike (hK.sub [] rfl), hD.sub [] (by decide) rfl⟩, hS.F ht9⟩) hS.2.2 dX5_nextB_109
set_option maxHeartbeats 4000000 in
set_option maxRecDepth 100000 in
theorem x_nextB_9 (l : Launch) (dC : Nat → ClassId) (dI : Nat → Nat → Nat) (sz : Nat) (a : Int64) (b : Int64)  : Met l yX5_nextB (Cond.code yX5_nextB cX5_nextB 5 (some .long) :: tb) ({ frames := 4, cells := 0, slots := 0, locals := 120 }) (pcw [.int 9, .long a, .long b] (dC, dI) [] [] sz) (va_Ql (fun (r : Int64) => (fun (_ : Unit) => r = nxB 9 a b)) (bw (dC, dI) (va_A [] sz) (fun (_ : Unit) => []) (fun (_ : Unit) => [])) (va_A [] sz)) 0 0 (va_A [] sz) := by
  refine Met.ofW (cc := cX5_nextB) (maxL := 5) (ret := (some .long)) (by decide) rfl ?_
  intro p e s m args below meth c s₁ B hml hv
  obtain ⟨rfl, hsz, hP, hK, hD0⟩ := hv
  have hx := B.exec
  have hb := B.bytes
  have hr := B.returns
  have hts := atoms_spec (ws := Cond.code yX5_nextB cX5_nextB 5 (some .long) :: tb) B.pre
  have ht : ∀ w ∈ tb, w.before _ s = true := fun w h => hts w (List.mem_cons_of_mem _ h)
  have hown : s.vm.findClass RX5 = some m.cls := findClass_of_methodNamed B.named
  have hlocks := B.notSynchronized
  subst hsz
  have hD := hD0.self (sz := s.heap.size)
  generalize hAe : va_A [] s.heap.size = A at hD ⊢
  have hA : ∀ q : Nat, s.heap.size ≤ q → A q := fun q h => by rw [← hAe]; exact Or.inr h
  have hS : va_S A s.heap s.heap [] := va_S.rf
  have hl := lv_entry ([.int 9, .long a, .long b]) (n := 5) (Nat.le_of_ble_eq_true rfl)
  rw [lg_entry_eq]
  generalize (lg_sl ([.int 9, .long a, .long b]) ++ List.replicate (5 - (lg_sl ([.int 9, .long a, .long b])).length) Slot.unset).toArray = ls at hl ⊢
  have hl : lv_has ls 5 [(0, .int 9), (1, .long a), (3, .long b)] := hl
  have hP : va_P (dC, dI) cls [] s.heap := hP
  refine lv_iload_n hx hb dX5_nextB_0 rfl (lv_at hl 0 rfl) ?_
  refine lv_tableIn (off := 95) (tgt := 96) hx hb dX5_nextB_1 (by decide) (by decide) (by decide) (by decide) ?_
  refine lv_lload_n hx hb dX5_nextB_96 rfl (lv_at hl 1 rfl) ?_
  exact W.lret (v := a) hx hb hr (fun t ht9 hW => ⟨⟨a, (), rfl, rfl, by rw [ht9]; exact hP.sub [] rfl, va_K.moved hW.alike (hK.sub [] rfl), hD.sub [] (by decide) rfl⟩, hS.F ht9⟩) hS.2.2 dX5_nextB_97
set_option maxHeartbeats 4000000 in
set_option maxRecDepth 100000 in
theorem x_nextB_10 (l : Launch) (dC : Nat → ClassId) (dI : Nat → Nat → Nat) (sz : Nat) (a : Int64) (b : Int64)  : Met l yX5_nextB (Cond.code yX5_nextB cX5_nextB 5 (some .long) :: tb) ({ frames := 4, cells := 0, slots := 0, locals := 120 }) (pcw [.int 10, .long a, .long b] (dC, dI) [] [] sz) (va_Ql (fun (r : Int64) => (fun (_ : Unit) => r = nxB 10 a b)) (bw (dC, dI) (va_A [] sz) (fun (_ : Unit) => []) (fun (_ : Unit) => [])) (va_A [] sz)) 0 0 (va_A [] sz) := by
  refine Met.ofW (cc := cX5_nextB) (maxL := 5) (ret := (some .long)) (by decide) rfl ?_
  intro p e s m args below meth c s₁ B hml hv
  obtain ⟨rfl, hsz, hP, hK, hD0⟩ := hv
  have hx := B.exec
  have hb := B.bytes
  have hr := B.returns
  have hts := atoms_spec (ws := Cond.code yX5_nextB cX5_nextB 5 (some .long) :: tb) B.pre
  have ht : ∀ w ∈ tb, w.before _ s = true := fun w h => hts w (List.mem_cons_of_mem _ h)
  have hown : s.vm.findClass RX5 = some m.cls := findClass_of_methodNamed B.named
  have hlocks := B.notSynchronized
  subst hsz
  have hD := hD0.self (sz := s.heap.size)
  generalize hAe : va_A [] s.heap.size = A at hD ⊢
  have hA : ∀ q : Nat, s.heap.size ≤ q → A q := fun q h => by rw [← hAe]; exact Or.inr h
  have hS : va_S A s.heap s.heap [] := va_S.rf
  have hl := lv_entry ([.int 10, .long a, .long b]) (n := 5) (Nat.le_of_ble_eq_true rfl)
  rw [lg_entry_eq]
  generalize (lg_sl ([.int 10, .long a, .long b]) ++ List.replicate (5 - (lg_sl ([.int 10, .long a, .long b])).length) Slot.unset).toArray = ls at hl ⊢
  have hl : lv_has ls 5 [(0, .int 10), (1, .long a), (3, .long b)] := hl
  have hP : va_P (dC, dI) cls [] s.heap := hP
  refine lv_iload_n hx hb dX5_nextB_0 rfl (lv_at hl 0 rfl) ?_
  refine lv_tableIn (off := 107) (tgt := 108) hx hb dX5_nextB_1 (by decide) (by decide) (by decide) (by decide) ?_
  refine lv_lload_n hx hb dX5_nextB_108 rfl (lv_at hl 2 rfl) ?_
  exact W.lret (v := b) hx hb hr (fun t ht9 hW => ⟨⟨b, (), rfl, rfl, by rw [ht9]; exact hP.sub [] rfl, va_K.moved hW.alike (hK.sub [] rfl), hD.sub [] (by decide) rfl⟩, hS.F ht9⟩) hS.2.2 dX5_nextB_109
set_option maxHeartbeats 4000000 in
set_option maxRecDepth 100000 in
theorem x_nextB_11 (l : Launch) (dC : Nat → ClassId) (dI : Nat → Nat → Nat) (sz : Nat) (a : Int64) (b : Int64)  : Met l yX5_nextB (Cond.code yX5_nextB cX5_nextB 5 (some .long) :: tb) ({ frames := 4, cells := 0, slots := 0, locals := 120 }) (pcw [.int 11, .long a, .long b] (dC, dI) [] [] sz) (va_Ql (fun (r : Int64) => (fun (_ : Unit) => r = nxB 11 a b)) (bw (dC, dI) (va_A [] sz) (fun (_ : Unit) => []) (fun (_ : Unit) => [])) (va_A [] sz)) 0 0 (va_A [] sz) := by
  refine Met.ofW (cc := cX5_nextB) (maxL := 5) (ret := (some .long)) (by decide) rfl ?_
  intro p e s m args below meth c s₁ B hml hv
  obtain ⟨rfl, hsz, hP, hK, hD0⟩ := hv
  have hx := B.exec
  have hb := B.bytes
  have hr := B.returns
  have hts := atoms_spec (ws := Cond.code yX5_nextB cX5_nextB 5 (some .long) :: tb) B.pre
  have ht : ∀ w ∈ tb, w.before _ s = true := fun w h => hts w (List.mem_cons_of_mem _ h)
  have hown : s.vm.findClass RX5 = some m.cls := findClass_of_methodNamed B.named
  have hlocks := B.notSynchronized
  subst hsz
  have hD := hD0.self (sz := s.heap.size)
  generalize hAe : va_A [] s.heap.size = A at hD ⊢
  have hA : ∀ q : Nat, s.heap.size ≤ q → A q := fun q h => by rw [← hAe]; exact Or.inr h
  have hS : va_S A s.heap s.heap [] := va_S.rf
  have hl := lv_entry ([.int 11, .long a, .long b]) (n := 5) (Nat.le_of_ble_eq_true rfl)
  rw [lg_entry_eq]
  generalize (lg_sl ([.int 11, .long a, .long b]) ++ List.replicate (5 - (lg_sl ([.int 11, .long a, .long b])).length) Slot.unset).toArray = ls at hl ⊢
  have hl : lv_has ls 5 [(0, .int 11), (1, .long a), (3, .long b)] := hl
  have hP : va_P (dC, dI) cls [] s.heap := hP
  refine lv_iload_n hx hb dX5_nextB_0 rfl (lv_at hl 0 rfl) ?_
  refine lv_tableIn (off := 107) (tgt := 108) hx hb dX5_nextB_1 (by decide) (by decide) (by decide) (by decide) ?_
  refine lv_lload_n hx hb dX5_nextB_108 rfl (lv_at hl 2 rfl) ?_
  exact W.lret (v := b) hx hb hr (fun t ht9 hW => ⟨⟨b, (), rfl, rfl, by rw [ht9]; exact hP.sub [] rfl, va_K.moved hW.alike (hK.sub [] rfl), hD.sub [] (by decide) rfl⟩, hS.F ht9⟩) hS.2.2 dX5_nextB_109
set_option maxHeartbeats 4000000 in
set_option maxRecDepth 100000 in
theorem x_nextB_12 (l : Launch) (dC : Nat → ClassId) (dI : Nat → Nat → Nat) (sz : Nat) (a : Int64) (b : Int64)  : Met l yX5_nextB (Cond.code yX5_nextB cX5_nextB 5 (some .long) :: tb) ({ frames := 4, cells := 0, slots := 0, locals := 120 }) (pcw [.int 12, .long a, .long b] (dC, dI) [] [] sz) (va_Ql (fun (r : Int64) => (fun (_ : Unit) => r = nxB 12 a b)) (bw (dC, dI) (va_A [] sz) (fun (_ : Unit) => []) (fun (_ : Unit) => [])) (va_A [] sz)) 0 0 (va_A [] sz) := by
  refine Met.ofW (cc := cX5_nextB) (maxL := 5) (ret := (some .long)) (by decide) rfl ?_
  intro p e s m args below meth c s₁ B hml hv
  obtain ⟨rfl, hsz, hP, hK, hD0⟩ := hv
  have hx := B.exec
  have hb := B.bytes
  have hr := B.returns
  have hts := atoms_spec (ws := Cond.code yX5_nextB cX5_nextB 5 (some .long) :: tb) B.pre
  have ht : ∀ w ∈ tb, w.before _ s = true := fun w h => hts w (List.mem_cons_of_mem _ h)
  have hown : s.vm.findClass RX5 = some m.cls := findClass_of_methodNamed B.named
  have hlocks := B.notSynchronized
  subst hsz
  have hD := hD0.self (sz := s.heap.size)
  generalize hAe : va_A [] s.heap.size = A at hD ⊢
  have hA : ∀ q : Nat, s.heap.size ≤ q → A q := fun q h => by rw [← hAe]; exact Or.inr h
  have hS : va_S A s.heap s.heap [] := va_S.rf
  have hl := lv_entry ([.int 12, .long a, .long b]) (n := 5) (Nat.le_of_ble_eq_true rfl)
  rw [lg_entry_eq]
  generalize (lg_sl ([.int 12, .long a, .long b]) ++ List.replicate (5 - (lg_sl ([.int 12, .long a, .long b])).length) Slot.unset).toArray = ls at hl ⊢
  have hl : lv_has ls 5 [(0, .int 12), (1, .long a), (3, .long b)] := hl
  have hP : va_P (dC, dI) cls [] s.heap := hP
  refine lv_iload_n hx hb dX5_nextB_0 rfl (lv_at hl 0 rfl) ?_
  refine lv_tableIn (off := 97) (tgt := 98) hx hb dX5_nextB_1 (by decide) (by decide) (by decide) (by decide) ?_
  refine lv_lload_n hx hb dX5_nextB_98 rfl (lv_at hl 2 rfl) ?_
  refine lv_ldc2 (v := 1229782938247303441) hx hb hown (ht _ k_9_3) dX5_nextB_99 ?_
  refine ca_l (wr := []) (va_runS (As := [.long b, .long 1229782938247303441]) (rest := []) ⟨hx, hb, hml, hown, ht⟩ (x_sum l dC dI s.heap.size b 1229782938247303441  ) (cwS 2 ht (gdS k_8_236 k_8_234 k_8_235 k_1_15) rfl rfl rfl (by decide +kernel) ⟨Nat.le_of_ble_eq_true rfl, Nat.le_of_ble_eq_true rfl⟩) ⟨pcw_blind, pcw_at hP hD hK [] [] (by decide) rfl rfl rfl⟩ rfl rfl hl.1 rfl (lv_room (Nat.le_of_ble_eq_true rfl)) dX5_nextB_102 ⟨Nat.le_of_ble_eq_true rfl, Nat.le_of_ble_eq_true rfl⟩) hP hD hK hS hA [] [] rfl rfl (by decide) (by decide) (fun r_1 u H locs w_2 hK hP hD hS => ?_)
  have hK : va_K (dC, dI) cls [] s := hK
  have hP : va_P (dC, dI) cls [] H := hP
  have hD : va_D A [] := hD
  exact W.lret (v := r_1) hx hb hr (fun t ht9 hW => ⟨⟨r_1, (), rfl, (by simp only [w_2]; rfl), by rw [ht9]; exact hP.sub [] rfl, va_K.moved hW.alike (hK.sub [] rfl), hD.sub [] (by decide) rfl⟩, hS.F ht9⟩) hS.2.2 dX5_nextB_105
set_option maxHeartbeats 4000000 in
set_option maxRecDepth 100000 in
theorem x_nextB_13 (l : Launch) (dC : Nat → ClassId) (dI : Nat → Nat → Nat) (sz : Nat) (a : Int64) (b : Int64)  : Met l yX5_nextB (Cond.code yX5_nextB cX5_nextB 5 (some .long) :: tb) ({ frames := 4, cells := 0, slots := 0, locals := 120 }) (pcw [.int 13, .long a, .long b] (dC, dI) [] [] sz) (va_Ql (fun (r : Int64) => (fun (_ : Unit) => r = nxB 13 a b)) (bw (dC, dI) (va_A [] sz) (fun (_ : Unit) => []) (fun (_ : Unit) => [])) (va_A [] sz)) 0 0 (va_A [] sz) := by
  refine Met.ofW (cc := cX5_nextB) (maxL := 5) (ret := (some .long)) (by decide) rfl ?_
  intro p e s m args below meth c s₁ B hml hv
  obtain ⟨rfl, hsz, hP, hK, hD0⟩ := hv
  have hx := B.exec
  have hb := B.bytes
  have hr := B.returns
  have hts := atoms_spec (ws := Cond.code yX5_nextB cX5_nextB 5 (some .long) :: tb) B.pre
  have ht : ∀ w ∈ tb, w.before _ s = true := fun w h => hts w (List.mem_cons_of_mem _ h)
  have hown : s.vm.findClass RX5 = some m.cls := findClass_of_methodNamed B.named
  have hlocks := B.notSynchronized
  subst hsz
  have hD := hD0.self (sz := s.heap.size)
  generalize hAe : va_A [] s.heap.size = A at hD ⊢
  have hA : ∀ q : Nat, s.heap.size ≤ q → A q := fun q h => by rw [← hAe]; exact Or.inr h
  have hS : va_S A s.heap s.heap [] := va_S.rf
  have hl := lv_entry ([.int 13, .long a, .long b]) (n := 5) (Nat.le_of_ble_eq_true rfl)
  rw [lg_entry_eq]
  generalize (lg_sl ([.int 13, .long a, .long b]) ++ List.replicate (5 - (lg_sl ([.int 13, .long a, .long b])).length) Slot.unset).toArray = ls at hl ⊢
  have hl : lv_has ls 5 [(0, .int 13), (1, .long a), (3, .long b)] := hl
  have hP : va_P (dC, dI) cls [] s.heap := hP
  refine lv_iload_n hx hb dX5_nextB_0 rfl (lv_at hl 0 rfl) ?_
  refine lv_tableIn (off := 107) (tgt := 108) hx hb dX5_nextB_1 (by decide) (by decide) (by decide) (by decide) ?_
  refine lv_lload_n hx hb dX5_nextB_108 rfl (lv_at hl 2 rfl) ?_
  exact W.lret (v := b) hx hb hr (fun t ht9 hW => ⟨⟨b, (), rfl, rfl, by rw [ht9]; exact hP.sub [] rfl, va_K.moved hW.alike (hK.sub [] rfl), hD.sub [] (by decide) rfl⟩, hS.F ht9⟩) hS.2.2 dX5_nextB_109
set_option maxHeartbeats 4000000 in
set_option maxRecDepth 100000 in
theorem x_nextB_14 (l : Launch) (dC : Nat → ClassId) (dI : Nat → Nat → Nat) (sz : Nat) (a : Int64) (b : Int64)  : Met l yX5_nextB (Cond.code yX5_nextB cX5_nextB 5 (some .long) :: tb) ({ frames := 4, cells := 0, slots := 0, locals := 120 }) (pcw [.int 14, .long a, .long b] (dC, dI) [] [] sz) (va_Ql (fun (r : Int64) => (fun (_ : Unit) => r = nxB 14 a b)) (bw (dC, dI) (va_A [] sz) (fun (_ : Unit) => []) (fun (_ : Unit) => [])) (va_A [] sz)) 0 0 (va_A [] sz) := by
  refine Met.ofW (cc := cX5_nextB) (maxL := 5) (ret := (some .long)) (by decide) rfl ?_
  intro p e s m args below meth c s₁ B hml hv
  obtain ⟨rfl, hsz, hP, hK, hD0⟩ := hv
  have hx := B.exec
  have hb := B.bytes
  have hr := B.returns
  have hts := atoms_spec (ws := Cond.code yX5_nextB cX5_nextB 5 (some .long) :: tb) B.pre
  have ht : ∀ w ∈ tb, w.before _ s = true := fun w h => hts w (List.mem_cons_of_mem _ h)
  have hown : s.vm.findClass RX5 = some m.cls := findClass_of_methodNamed B.named
  have hlocks := B.notSynchronized
  subst hsz
  have hD := hD0.self (sz := s.heap.size)
  generalize hAe : va_A [] s.heap.size = A at hD ⊢
  have hA : ∀ q : Nat, s.heap.size ≤ q → A q := fun q h => by rw [← hAe]; exact Or.inr h
  have hS : va_S A s.heap s.heap [] := va_S.rf
  have hl := lv_entry ([.int 14, .long a, .long b]) (n := 5) (Nat.le_of_ble_eq_true rfl)
  rw [lg_entry_eq]
  generalize (lg_sl ([.int 14, .long a, .long b]) ++ List.replicate (5 - (lg_sl ([.int 14, .long a, .long b])).length) Slot.unset).toArray = ls at hl ⊢
  have hl : lv_has ls 5 [(0, .int 14), (1, .long a), (3, .long b)] := hl
  have hP : va_P (dC, dI) cls [] s.heap := hP
  refine lv_iload_n hx hb dX5_nextB_0 rfl (lv_at hl 0 rfl) ?_
  refine lv_tableIn (off := 107) (tgt := 108) hx hb dX5_nextB_1 (by decide) (by decide) (by decide) (by decide) ?_
  refine lv_lload_n hx hb dX5_nextB_108 rfl (lv_at hl 2 rfl) ?_
  exact W.lret (v := b) hx hb hr (fun t ht9 hW => ⟨⟨b, (), rfl, rfl, by rw [ht9]; exact hP.sub [] rfl, va_K.moved hW.alike (hK.sub [] rfl), hD.sub [] (by decide) rfl⟩, hS.F ht9⟩) hS.2.2 dX5_nextB_109
set_option maxHeartbeats 4000000 in
set_option maxRecDepth 100000 in
theorem x_nextB_15 (l : Launch) (dC : Nat → ClassId) (dI : Nat → Nat → Nat) (sz : Nat) (a : Int64) (b : Int64)  : Met l yX5_nextB (Cond.code yX5_nextB cX5_nextB 5 (some .long) :: tb) ({ frames := 4, cells := 0, slots := 0, locals := 120 }) (pcw [.int 15, .long a, .long b] (dC, dI) [] [] sz) (va_Ql (fun (r : Int64) => (fun (_ : Unit) => r = nxB 15 a b)) (bw (dC, dI) (va_A [] sz) (fun (_ : Unit) => []) (fun (_ : Unit) => [])) (va_A [] sz)) 0 0 (va_A [] sz) := by
  refine Met.ofW (cc := cX5_nextB) (maxL := 5) (ret := (some .long)) (by decide) rfl ?_
  intro p e s m args below meth c s₁ B hml hv
  obtain ⟨rfl, hsz, hP, hK, hD0⟩ := hv
  have hx := B.exec
  have hb := B.bytes
  have hr := B.returns
  have hts := atoms_spec (ws := Cond.code yX5_nextB cX5_nextB 5 (some .long) :: tb) B.pre
  have ht : ∀ w ∈ tb, w.before _ s = true := fun w h => hts w (List.mem_cons_of_mem _ h)
  have hown : s.vm.findClass RX5 = some m.cls := findClass_of_methodNamed B.named
  have hlocks := B.notSynchronized
  subst hsz
  have hD := hD0.self (sz := s.heap.size)
  generalize hAe : va_A [] s.heap.size = A at hD ⊢
  have hA : ∀ q : Nat, s.heap.size ≤ q → A q := fun q h => by rw [← hAe]; exact Or.inr h
  have hS : va_S A s.heap s.heap [] := va_S.rf
  have hl := lv_entry ([.int 15, .long a, .long b]) (n := 5) (Nat.le_of_ble_eq_true rfl)
  rw [lg_entry_eq]
  generalize (lg_sl ([.int 15, .long a, .long b]) ++ List.replicate (5 - (lg_sl ([.int 15, .long a, .long b])).length) Slot.unset).toArray = ls at hl ⊢
  have hl : lv_has ls 5 [(0, .int 15), (1, .long a), (3, .long b)] := hl
  have hP : va_P (dC, dI) cls [] s.heap := hP
  refine lv_iload_n hx hb dX5_nextB_0 rfl (lv_at hl 0 rfl) ?_
  refine lv_tableIn (off := 105) (tgt := 106) hx hb dX5_nextB_1 (by decide) (by decide) (by decide) (by decide) ?_
  refine lv_lload_n hx hb dX5_nextB_106 rfl (lv_at hl 1 rfl) ?_
  exact W.lret (v := a) hx hb hr (fun t ht9 hW => ⟨⟨a, (), rfl, rfl, by rw [ht9]; exact hP.sub [] rfl, va_K.moved hW.alike (hK.sub [] rfl), hD.sub [] (by decide) rfl⟩, hS.F ht9⟩) hS.2.2 dX5_nextB_107
set_option maxHeartbeats 4000000 in
set_option maxRecDepth 100000 in
theorem x_nextB_16 (l : Launch) (dC : Nat → ClassId) (dI : Nat → Nat → Nat) (sz : Nat) (a : Int64) (b : Int64)  : Met l yX5_nextB (Cond.code yX5_nextB cX5_nextB 5 (some .long) :: tb) ({ frames := 4, cells := 0, slots := 0, locals := 120 }) (pcw [.int 16, .long a, .long b] (dC, dI) [] [] sz) (va_Ql (fun (r : Int64) => (fun (_ : Unit) => r = nxB 16 a b)) (bw (dC, dI) (va_A [] sz) (fun (_ : Unit) => []) (fun (_ : Unit) => [])) (va_A [] sz)) 0 0 (va_A [] sz) := by
  refine Met.ofW (cc := cX5_nextB) (maxL := 5) (ret := (some .long)) (by decide) rfl ?_
  intro p e s m args below meth c s₁ B hml hv
  obtain ⟨rfl, hsz, hP, hK, hD0⟩ := hv
  have hx := B.exec
  have hb := B.bytes
  have hr := B.returns
  have hts := atoms_spec (ws := Cond.code yX5_nextB cX5_nextB 5 (some .long) :: tb) B.pre
  have ht : ∀ w ∈ tb, w.before _ s = true := fun w h => hts w (List.mem_cons_of_mem _ h)
  have hown : s.vm.findClass RX5 = some m.cls := findClass_of_methodNamed B.named
  have hlocks := B.notSynchronized
  subst hsz
  have hD := hD0.self (sz := s.heap.size)
  generalize hAe : va_A [] s.heap.size = A at hD ⊢
  have hA : ∀ q : Nat, s.heap.size ≤ q → A q := fun q h => by rw [← hAe]; exact Or.inr h
  have hS : va_S A s.heap s.heap [] := va_S.rf
  have hl := lv_entry ([.int 16, .long a, .long b]) (n := 5) (Nat.le_of_ble_eq_true rfl)
  rw [lg_entry_eq]
  generalize (lg_sl ([.int 16, .long a, .long b]) ++ List.replicate (5 - (lg_sl ([.int 16, .long a, .long b])).length) Slot.unset).toArray = ls at hl ⊢
  have hl : lv_has ls 5 [(0, .int 16), (1, .long a), (3, .long b)] := hl
  have hP : va_P (dC, dI) cls [] s.heap := hP
  refine lv_iload_n hx hb dX5_nextB_0 rfl (lv_at hl 0 rfl) ?_
  refine lv_tableOut (tgt := 108) hx hb dX5_nextB_1 (by decide) (by decide) ?_
  refine lv_lload_n hx hb dX5_nextB_108 rfl (lv_at hl 2 rfl) ?_
  exact W.lret (v := b) hx hb hr (fun t ht9 hW => ⟨⟨b, (), rfl, rfl, by rw [ht9]; exact hP.sub [] rfl, va_K.moved hW.alike (hK.sub [] rfl), hD.sub [] (by decide) rfl⟩, hS.F ht9⟩) hS.2.2 dX5_nextB_109
set_option maxHeartbeats 4000000 in
set_option maxRecDepth 100000 in
theorem x_nextB_17 (l : Launch) (dC : Nat → ClassId) (dI : Nat → Nat → Nat) (sz : Nat) (a : Int64) (b : Int64)  : Met l yX5_nextB (Cond.code yX5_nextB cX5_nextB 5 (some .long) :: tb) ({ frames := 4, cells := 0, slots := 0, locals := 120 }) (pcw [.int 17, .long a, .long b] (dC, dI) [] [] sz) (va_Ql (fun (r : Int64) => (fun (_ : Unit) => r = nxB 17 a b)) (bw (dC, dI) (va_A [] sz) (fun (_ : Unit) => []) (fun (_ : Unit) => [])) (va_A [] sz)) 0 0 (va_A [] sz) := by
  refine Met.ofW (cc := cX5_nextB) (maxL := 5) (ret := (some .long)) (by decide) rfl ?_
  intro p e s m args below meth c s₁ B hml hv
  obtain ⟨rfl, hsz, hP, hK, hD0⟩ := hv
  have hx := B.exec
  have hb := B.bytes
  have hr := B.returns
  have hts := atoms_spec (ws := Cond.code yX5_nextB cX5_nextB 5 (some .long) :: tb) B.pre
  have ht : ∀ w ∈ tb, w.before _ s = true := fun w h => hts w (List.mem_cons_of_mem _ h)
  have hown : s.vm.findClass RX5 = some m.cls := findClass_of_methodNamed B.named
  have hlocks := B.notSynchronized
  subst hsz
  have hD := hD0.self (sz := s.heap.size)
  generalize hAe : va_A [] s.heap.size = A at hD ⊢
  have hA : ∀ q : Nat, s.heap.size ≤ q → A q := fun q h => by rw [← hAe]; exact Or.inr h
  have hS : va_S A s.heap s.heap [] := va_S.rf
  have hl := lv_entry ([.int 17, .long a, .long b]) (n := 5) (Nat.le_of_ble_eq_true rfl)
  rw [lg_entry_eq]
  generalize (lg_sl ([.int 17, .long a, .long b]) ++ List.replicate (5 - (lg_sl ([.int 17, .long a, .long b])).length) Slot.unset).toArray = ls at hl ⊢
  have hl : lv_has ls 5 [(0, .int 17), (1, .long a), (3, .long b)] := hl
  have hP : va_P (dC, dI) cls [] s.heap := hP
  refine lv_iload_n hx hb dX5_nextB_0 rfl (lv_at hl 0 rfl) ?_
  refine lv_tableOut (tgt := 108) hx hb dX5_nextB_1 (by decide) (by decide) ?_
  refine lv_lload_n hx hb dX5_nextB_108 rfl (lv_at hl 2 rfl) ?_
  exact W.lret (v := b) hx hb hr (fun t ht9 hW => ⟨⟨b, (), rfl, rfl, by rw [ht9]; exact hP.sub [] rfl, va_K.moved hW.alike (hK.sub [] rfl), hD.sub [] (by decide) rfl⟩, hS.F ht9⟩) hS.2.2 dX5_nextB_109
theorem x_nextB (l : Launch) (dC : Nat → ClassId) (dI : Nat → Nat → Nat) (sz : Nat) (j : Nat) (a : Int64) (b : Int64) (hj : j < 18) : Met l yX5_nextB (Cond.code yX5_nextB cX5_nextB 5 (some .long) :: tb) ({ frames := 4, cells := 0, slots := 0, locals := 120 }) (pcw [.int (nI j), .long a, .long b] (dC, dI) [] [] sz) (va_Ql (fun (r : Int64) => (fun (_ : Unit) => r = nxB j a b)) (bw (dC, dI) (va_A [] sz) (fun (_ : Unit) => []) (fun (_ : Unit) => [])) (va_A [] sz)) 0 0 (va_A [] sz) := by
  match j, hj with
  | 0, _ => exact x_nextB_0 l dC dI sz a b
  | 1, _ => exact x_nextB_1 l dC dI sz a b
  | 2, _ => exact x_nextB_2 l dC dI sz a b
  | 3, _ => exact x_nextB_3 l dC dI sz a b
  | 4, _ => exact x_nextB_4 l dC dI sz a b
  | 5, _ => exact x_nextB_5 l dC dI sz a b
  | 6, _ => exact x_nextB_6 l dC dI sz a b
  | 7, _ => exact x_nextB_7 l dC dI sz a b
  | 8, _ => exact x_nextB_8 l dC dI sz a b
  | 9, _ => exact x_nextB_9 l dC dI sz a b
  | 10, _ => exact x_nextB_10 l dC dI sz a b
  | 11, _ => exact x_nextB_11 l dC dI sz a b
  | 12, _ => exact x_nextB_12 l dC dI sz a b
  | 13, _ => exact x_nextB_13 l dC dI sz a b
  | 14, _ => exact x_nextB_14 l dC dI sz a b
  | 15, _ => exact x_nextB_15 l dC dI sz a b
  | 16, _ => exact x_nextB_16 l dC dI sz a b
  | 17, _ => exact x_nextB_17 l dC dI sz a b
  | n + 18, h => exact absurd h (by omega)
