theorem dX15_shortest_0 : decode cX15_shortest 0 = .ok (.aload_n 0, 1) := by decide +kernel
theorem dX15_shortest_1 : decode cX15_shortest 1 = .ok (.invokevirtual 785, 3) := by decide +kernel
theorem dX15_shortest_4 : decode cX15_shortest 4 = .ok (.ifCond .eq 6, 3) := by decide +kernel
theorem dX15_shortest_10 : decode cX15_shortest 10 = .ok (.iload_n 3, 1) := by decide +kernel
theorem dX15_shortest_11 : decode cX15_shortest 11 = .ok (.i2l, 1) := by decide +kernel
theorem dX15_shortest_12 : decode cX15_shortest 12 = .ok (.lconst 0, 1) := by decide +kernel
theorem k_15_237 : Jvm.Cond.constantLong "FinderHouseModel" (1241 : Nat) (5 : Int64) ∈ tb := tb15 237 (by decide +kernel) (by decide +kernel)
theorem dX15_shortest_13 : decode cX15_shortest 13 = .ok (.ldc2_w 1241, 3) := by decide +kernel
theorem dX15_shortest_16 : decode cX15_shortest 16 = .ok (.invokestatic 623, 3) := by decide +kernel
theorem dX15_shortest_19 : decode cX15_shortest 19 = .ok (.ifCond .ne 5, 3) := by decide +kernel
theorem dX15_shortest_24 : decode cX15_shortest 24 = .ok (.iconst 0, 1) := by decide +kernel
theorem dX15_shortest_25 : decode cX15_shortest 25 = .ok (.istore 4, 2) := by decide +kernel
theorem dX15_shortest_27 : decode cX15_shortest 27 = .ok (.iload 4, 2) := by decide +kernel
theorem dX15_shortest_29 : decode cX15_shortest 29 = .ok (.iload_n 3, 1) := by decide +kernel
theorem dX15_shortest_30 : decode cX15_shortest 30 = .ok (.if_icmp .gt 79, 3) := by decide +kernel
theorem dX15_shortest_33 : decode cX15_shortest 33 = .ok (.iload 4, 2) := by decide +kernel
theorem dX15_shortest_35 : decode cX15_shortest 35 = .ok (.iconst 5, 1) := by decide +kernel
theorem dX15_shortest_36 : decode cX15_shortest 36 = .ok (.if_icmp .ge 73, 3) := by decide +kernel
theorem dX15_shortest_39 : decode cX15_shortest 39 = .ok (.aload_n 0, 1) := by decide +kernel
theorem dX15_shortest_40 : decode cX15_shortest 40 = .ok (.getfield 1195, 3) := by decide +kernel
theorem dX15_shortest_43 : decode cX15_shortest 43 = .ok (.iload 4, 2) := by decide +kernel
theorem dX15_shortest_45 : decode cX15_shortest 45 = .ok (.if_icmp .gt 7, 3) := by decide +kernel
theorem dX15_shortest_48 : decode cX15_shortest 48 = .ok (.aload_n 0, 1) := by decide +kernel
theorem k_16_1 : Jvm.Cond.code ({ cls := "FinderHouseModel", name := "findLevel", desc := "()V" } : Jvm.MethodName) prog_14_method_189_code (10 : Nat) (Option.none : Option Jvm.ClassFile.FieldType) ∈ tb := tb16 1 (by decide +kernel) (by decide +kernel)
theorem k_15_238 : Jvm.Cond.methodLink "FinderHouseModel" (1243 : Nat) ({ cls := "FinderHouseModel", name := "findLevel", desc := "()V" } : Jvm.MethodName) ∈ tb := tb15 238 (by decide +kernel) (by decide +kernel)
theorem k_16_0 : Jvm.Cond.instanceMethod ({ cls := "FinderHouseModel", name := "findLevel", desc := "()V" } : Jvm.MethodName) ∈ tb := tb16 0 (by decide +kernel) (by decide +kernel)
theorem ks_234 : Jvm.Cond.selects "FinderHouseModel" ({ cls := "FinderHouseModel", name := "findLevel", desc := "()V" } : Jvm.MethodName) ({ cls := "FinderHouseModel", name := "findLevel", desc := "()V" } : Jvm.MethodName) ∈ tb := tbp 234 (by decide +kernel) (by decide +kernel)
theorem dX15_shortest_49 : decode cX15_shortest 49 = .ok (.invokevirtual 1243, 3) := by decide +kernel
theorem dX15_shortest_52 : decode cX15_shortest 52 = .ok (.aload_n 0, 1) := by decide +kernel
theorem dX15_shortest_53 : decode cX15_shortest 53 = .ok (.getfield 295, 3) := by decide +kernel
theorem dX15_shortest_56 : decode cX15_shortest 56 = .ok (.iload 4, 2) := by decide +kernel
theorem dX15_shortest_58 : decode cX15_shortest 58 = .ok (.iaload, 1) := by decide +kernel
theorem dX15_shortest_59 : decode cX15_shortest 59 = .ok (.istore 5, 2) := by decide +kernel
theorem dX15_shortest_61 : decode cX15_shortest 61 = .ok (.iload 5, 2) := by decide +kernel
theorem dX15_shortest_63 : decode cX15_shortest 63 = .ok (.aload_n 0, 1) := by decide +kernel
theorem dX15_shortest_64 : decode cX15_shortest 64 = .ok (.getfield 295, 3) := by decide +kernel
theorem dX15_shortest_67 : decode cX15_shortest 67 = .ok (.iload 4, 2) := by decide +kernel
theorem dX15_shortest_69 : decode cX15_shortest 69 = .ok (.iconst 1, 1) := by decide +kernel
theorem dX15_shortest_70 : decode cX15_shortest 70 = .ok (.iadd, 1) := by decide +kernel
theorem dX15_shortest_71 : decode cX15_shortest 71 = .ok (.iaload, 1) := by decide +kernel
theorem dX15_shortest_72 : decode cX15_shortest 72 = .ok (.if_icmp .ge 31, 3) := by decide +kernel
theorem dX15_shortest_103 : decode cX15_shortest 103 = .ok (.iinc 4 1, 3) := by decide +kernel
theorem dX15_shortest_106 : decode cX15_shortest 106 = .ok (.goto (-79), 3) := by decide +kernel
theorem dX15_shortest_109 : decode cX15_shortest 109 = .ok (.iload_n 3, 1) := by decide +kernel
theorem dX15_shortest_110 : decode cX15_shortest 110 = .ok (.iconst 5, 1) := by decide +kernel
theorem dX15_shortest_111 : decode cX15_shortest 111 = .ok (.if_icmp .ne 11, 3) := by decide +kernel
theorem dX15_shortest_122 : decode cX15_shortest 122 = .ok (.iconst (-1), 1) := by decide +kernel
theorem dX15_shortest_123 : decode cX15_shortest 123 = .ok (.istore 4, 2) := by decide +kernel
theorem dX15_shortest_125 : decode cX15_shortest 125 = .ok (.iload 4, 2) := by decide +kernel
theorem dX15_shortest_127 : decode cX15_shortest 127 = .ok (.ifCond .ge 8, 3) := by decide +kernel
theorem dX15_shortest_130 : decode cX15_shortest 130 = .ok (.bipush 100, 2) := by decide +kernel
theorem dX15_shortest_132 : decode cX15_shortest 132 = .ok (.goto 18, 3) := by decide +kernel
theorem dX15_shortest_150 : decode cX15_shortest 150 = .ok (.ireturn, 1) := by decide +kernel
theorem dX15_shortest_114 : decode cX15_shortest 114 = .ok (.aload_n 0, 1) := by decide +kernel
theorem dX15_shortest_115 : decode cX15_shortest 115 = .ok (.lload_n 1, 1) := by decide +kernel
theorem k_16_32 : Jvm.Cond.code ({ cls := "FinderHouseModel", name := "lastOf", desc := "(J)I" } : Jvm.MethodName) prog_14_method_193_code (6 : Nat) (Option.some Jvm.ClassFile.FieldType.int) ∈ tb := tb16 32 (by decide +kernel) (by decide +kernel)
theorem k_16_29 : Jvm.Cond.methodLink "FinderHouseModel" (1249 : Nat) ({ cls := "FinderHouseModel", name := "lastOf", desc := "(J)I" } : Jvm.MethodName) ∈ tb := tb16 29 (by decide +kernel) (by decide +kernel)
theorem k_16_31 : Jvm.Cond.instanceMethod ({ cls := "FinderHouseModel", name := "lastOf", desc := "(J)I" } : Jvm.MethodName) ∈ tb := tb16 31 (by decide +kernel) (by decide +kernel)
theorem ks_237 : Jvm.Cond.selects "FinderHouseModel" ({ cls := "FinderHouseModel", name := "lastOf", desc := "(J)I" } : Jvm.MethodName) ({ cls := "FinderHouseModel", name := "lastOf", desc := "(J)I" } : Jvm.MethodName) ∈ tb := tbp 237 (by decide +kernel) (by decide +kernel)
theorem dX15_shortest_116 : decode cX15_shortest 116 = .ok (.invokevirtual 1249, 3) := by decide +kernel
theorem dX15_shortest_119 : decode cX15_shortest 119 = .ok (.goto 4, 3) := by decide +kernel
theorem dX15_shortest_135 : decode cX15_shortest 135 = .ok (.aload_n 0, 1) := by decide +kernel
theorem dX15_shortest_136 : decode cX15_shortest 136 = .ok (.iconst 5, 1) := by decide +kernel
theorem dX15_shortest_137 : decode cX15_shortest 137 = .ok (.iload 4, 2) := by decide +kernel
theorem dX15_shortest_139 : decode cX15_shortest 139 = .ok (.bipush 32, 2) := by decide +kernel
theorem dX15_shortest_141 : decode cX15_shortest 141 = .ok (.idiv, 1) := by decide +kernel
theorem dX15_shortest_142 : decode cX15_shortest 142 = .ok (.iload 4, 2) := by decide +kernel
theorem dX15_shortest_144 : decode cX15_shortest 144 = .ok (.bipush 32, 2) := by decide +kernel
theorem dX15_shortest_146 : decode cX15_shortest 146 = .ok (.irem, 1) := by decide +kernel
theorem k_16_28 : Jvm.Cond.code ({ cls := "FinderHouseModel", name := "tellRow", desc := "(III)I" } : Jvm.MethodName) prog_14_method_194_code (6 : Nat) (Option.some Jvm.ClassFile.FieldType.int) ∈ tb := tb16 28 (by decide +kernel) (by decide +kernel)
theorem k_16_25 : Jvm.Cond.methodLink "FinderHouseModel" (1246 : Nat) ({ cls := "FinderHouseModel", name := "tellRow", desc := "(III)I" } : Jvm.MethodName) ∈ tb := tb16 25 (by decide +kernel) (by decide +kernel)
theorem k_16_27 : Jvm.Cond.instanceMethod ({ cls := "FinderHouseModel", name := "tellRow", desc := "(III)I" } : Jvm.MethodName) ∈ tb := tb16 27 (by decide +kernel) (by decide +kernel)
theorem ks_236 : Jvm.Cond.selects "FinderHouseModel" ({ cls := "FinderHouseModel", name := "tellRow", desc := "(III)I" } : Jvm.MethodName) ({ cls := "FinderHouseModel", name := "tellRow", desc := "(III)I" } : Jvm.MethodName) ∈ tb := tbp 236 (by decide +kernel) (by decide +kernel)
theorem dX15_shortest_147 : decode cX15_shortest 147 = .ok (.invokevirtual 1246, 3) := by decide +kernel
theorem dX15_shortest_75 : decode cX15_shortest 75 = .ok (.aload_n 0, 1) := by decide +kernel
theorem dX15_shortest_76 : decode cX15_shortest 76 = .ok (.getfield 1178, 3) := by decide +kernel
theorem dX15_shortest_79 : decode cX15_shortest 79 = .ok (.iload 5, 2) := by decide +kernel
theorem dX15_shortest_81 : decode cX15_shortest 81 = .ok (.laload, 1) := by decide +kernel
theorem dX15_shortest_82 : decode cX15_shortest 82 = .ok (.lload_n 1, 1) := by decide +kernel
theorem dX15_shortest_83 : decode cX15_shortest 83 = .ok (.lcmp, 1) := by decide +kernel
theorem dX15_shortest_84 : decode cX15_shortest 84 = .ok (.ifCond .ne 13, 3) := by decide +kernel
theorem dX15_shortest_97 : decode cX15_shortest 97 = .ok (.iinc 5 1, 3) := by decide +kernel
theorem dX15_shortest_100 : decode cX15_shortest 100 = .ok (.goto (-39), 3) := by decide +kernel
theorem dX15_shortest_87 : decode cX15_shortest 87 = .ok (.aload_n 0, 1) := by decide +kernel
theorem dX15_shortest_88 : decode cX15_shortest 88 = .ok (.iload 4, 2) := by decide +kernel
theorem dX15_shortest_90 : decode cX15_shortest 90 = .ok (.iload 5, 2) := by decide +kernel
theorem dX15_shortest_92 : decode cX15_shortest 92 = .ok (.iconst 0, 1) := by decide +kernel
theorem dX15_shortest_93 : decode cX15_shortest 93 = .ok (.invokevirtual 1246, 3) := by decide +kernel
theorem dX15_shortest_96 : decode cX15_shortest 96 = .ok (.ireturn, 1) := by decide +kernel
theorem dX15_shortest_22 : decode cX15_shortest 22 = .ok (.iconst (-1), 1) := by decide +kernel
theorem dX15_shortest_23 : decode cX15_shortest 23 = .ok (.ireturn, 1) := by decide +kernel
set_option maxHeartbeats 4000000 in
set_option maxRecDepth 100000 in
theorem r_isDown_shortest (l : Launch) (dC : Nat → ClassId) (dI : Nat → Nat → Nat) (sz : Nat) (q : Nat) (fs : List Value) (lv : Nat) (se : Nat) (L_fs : fs.length = 163) (K54_fs : fs[54]? = some (.int 0)) (K138_fs : fs[138]? = some (.ref se)) (K141_fs : fs[141]? = some (.null)) (K142_fs : fs[142]? = some (.null)) (K143_fs : fs[143]? = some (.null)) (K144_fs : fs[144]? = some (.null)) (K145_fs : fs[145]? = some (.int 0)) (K146_fs : fs[146]? = some (.int 0)) (K147_fs : fs[147]? = some (.ref lv)) (K148_fs : fs[148]? = some (.null)) (K151_fs : fs[151]? = some (.null)) (K152_fs : fs[152]? = some (.int 0)) : Met l yX15_isDown (Cond.code yX15_isDown cX15_isDown 1 (some .boolean) :: tb) ({ frames := 0, cells := 0, slots := 0, locals := 0 }) (pcw [.ref q] (dC, dI) [(q, .inr (15, fs))] [] sz) (va_Qi (fun (r : Int32) => (fun (fs1 : List Value) => (r = 0) ∧ (fs1.length = 163) ∧ (fs1[51]? = some (.int 0)) ∧ (fs1[54]? = some (.int 0)) ∧ (fs1[138]? = some (.ref se)) ∧ (fs1[141]? = some (.null)) ∧ (fs1[142]? = some (.null)) ∧ (fs1[143]? = some (.null)) ∧ (fs1[144]? = some (.null)) ∧ (fs1[145]? = some (.int 0)) ∧ (fs1[146]? = some (.int 0)) ∧ (fs1[147]? = some (.ref lv)) ∧ (fs1[148]? = some (.null)) ∧ (fs1[151]? = some (.null)) ∧ (fs1[152]? = some (.int 0)))) (bw (dC, dI) (va_A [(q, .inr (15, fs))] sz) (fun (fs1 : List Value) => [(q, .inr (15, fs1))]) (fun (fs1 : List Value) => [])) (va_A [(q, .inr (15, fs))] sz)) 0 0 (va_A [(q, .inr (15, fs))] sz) := by
  refine Met.ofW (cc := cX15_isDown) (maxL := 1) (ret := (some .boolean)) (by decide) rfl ?_
  intro p e s m args below meth c s₁ B hml hv
  obtain ⟨rfl, hsz, hP, hK, hD0⟩ := hv
  have hx := B.exec
  have hb := B.bytes
  have hr := B.returns
  have hts := atoms_spec (ws := Cond.code yX15_isDown cX15_isDown 1 (some .boolean) :: tb) B.pre
  have ht : ∀ w ∈ tb, w.before _ s = true := fun w h => hts w (List.mem_cons_of_mem _ h)
  have hown : s.vm.findClass RX15 = some m.cls := findClass_of_methodNamed B.named
  have hlocks := B.notSynchronized
  subst hsz
  have hD := hD0.self (sz := s.heap.size)
  generalize hAe : va_A [(q, .inr (15, fs))] s.heap.size = A at hD ⊢
  have hA : ∀ q : Nat, s.heap.size ≤ q → A q := fun q h => by rw [← hAe]; exact Or.inr h
  have hS : va_S A s.heap s.heap [] := va_S.rf
  have hl := lv_entry ([.ref q]) (n := 1) (Nat.le_of_ble_eq_true rfl)
  rw [lg_entry_eq]
  generalize (lg_sl ([.ref q]) ++ List.replicate (1 - (lg_sl ([.ref q])).length) Slot.unset).toArray = ls at hl ⊢
  have hl : lv_has ls 1 [(0, .ref q)] := hl
  have hP : va_P (dC, dI) cls [(q, .inr (15, fs))] s.heap := hP
  refine lv_aload_n hx hb dX15_isDown_0 rfl (lv_at hl 0 rfl) ?_
  refine lv_iconst (v := 0) hx hb dX15_isDown_1 (by decide) ?_
  refine va_put (D := (dC, dI)) (ci := 15) (v := .int 0) (ty := .int) (C := RX15) (T := TX15) (N := 163) hx hb ht uX15 tyX15 tkX15 nmX15 hown hK hP hD hS 0 rfl rfl 51 (by decide) (ht _ k_10_239) (fun _ h9 => h9) rfl (by decide +kernel) rfl rfl (by rw [L_fs]; decide) dX15_isDown_2 (fun H locs hP hD hS => ?_)
  obtain ⟨F_1, eF_1⟩ : ∃ g : List Value, g = fs.set 51 (.int 0) := ⟨_, rfl⟩
  rw [← eF_1] at hP hD
  have K54_F_1 : F_1[54]? = some (.int 0) := by rw [eF_1, List.getElem?_set_ne (by decide)]; exact K54_fs
  have K138_F_1 : F_1[138]? = some (.ref se) := by rw [eF_1, List.getElem?_set_ne (by decide)]; exact K138_fs
  have K141_F_1 : F_1[141]? = some (.null) := by rw [eF_1, List.getElem?_set_ne (by decide)]; exact K141_fs
  have K142_F_1 : F_1[142]? = some (.null) := by rw [eF_1, List.getElem?_set_ne (by decide)]; exact K142_fs
  have K143_F_1 : F_1[143]? = some (.null) := by rw [eF_1, List.getElem?_set_ne (by decide)]; exact K143_fs
  have K144_F_1 : F_1[144]? = some (.null) := by rw [eF_1, List.getElem?_set_ne (by decide)]; exact K144_fs
  have K145_F_1 : F_1[145]? = some (.int 0) := by rw [eF_1, List.getElem?_set_ne (by decide)]; exact K145_fs
  have K146_F_1 : F_1[146]? = some (.int 0) := by rw [eF_1, List.getElem?_set_ne (by decide)]; exact K146_fs
  have K147_F_1 : F_1[147]? = some (.ref lv) := by rw [eF_1, List.getElem?_set_ne (by decide)]; exact K147_fs
  have K148_F_1 : F_1[148]? = some (.null) := by rw [eF_1, List.getElem?_set_ne (by decide)]; exact K148_fs
  have K151_F_1 : F_1[151]? = some (.null) := by rw [eF_1, List.getElem?_set_ne (by decide)]; exact K151_fs
  have K152_F_1 : F_1[152]? = some (.int 0) := by rw [eF_1, List.getElem?_set_ne (by decide)]; exact K152_fs
  have K51_F_1 : F_1[51]? = some (.int 0) := by rw [eF_1]; exact List.getElem?_set_self (by rw [L_fs]; decide)
  have L_F_1 : F_1.length = 163 := by rw [eF_1, List.length_set]; exact L_fs
  have hP : va_P (dC, dI) cls [(q, .inr (15, F_1))] H := hP
  have hD : va_D A [(q, .inr (15, F_1))] := hD
  refine lv_aload_n hx hb dX15_isDown_5 rfl (lv_at hl 0 rfl) ?_
  refine va_get (D := (dC, dI)) (ci := 15) (v := .int 0) (C := RX15) (T := TX15) (N := 163) hx hb ht uX15 hown hK hP 0 rfl rfl 54 (by decide) (ht _ k_11_2) (fun _ h9 => h9) K54_F_1 dX15_isDown_6 ?_
  exact W.zret (v := 0) hx hb hr rfl (fun t ht9 hW => ⟨⟨0, (F_1), rfl, ⟨rfl, L_F_1, K51_F_1, K54_F_1, K138_F_1, K141_F_1, K142_F_1, K143_F_1, K144_F_1, K145_F_1, K146_F_1, K147_F_1, K148_F_1, K151_F_1, K152_F_1⟩, by rw [ht9]; exact hP.sub [0] rfl, va_K.moved hW.alike (hK.sub [] rfl), hD.sub [0] (by decide) rfl⟩, hS.F ht9⟩) hS.2.2 dX15_isDown_9
set_option maxHeartbeats 4000000 in
set_option maxRecDepth 100000 in
theorem r_shortest (l : Launch) (dC : Nat → ClassId) (dI : Nat → Nat → Nat) (sz : Nat) (q : Nat) (fs : List Value) (lv : Nat) (se : Nat) (cl : ClassId) (ke : ClassId) (fe : Nat → Int32) (goal : Int64) (p1 : Int32) (L_fs : fs.length = 163) (K54_fs : fs[54]? = some (.int 0)) (K138_fs : fs[138]? = some (.ref se)) (K141_fs : fs[141]? = some (.null)) (K142_fs : fs[142]? = some (.null)) (K143_fs : fs[143]? = some (.null)) (K144_fs : fs[144]? = some (.null)) (K145_fs : fs[145]? = some (.int 0)) (K146_fs : fs[146]? = some (.int 0)) (K147_fs : fs[147]? = some (.ref lv)) (K148_fs : fs[148]? = some (.null)) (K151_fs : fs[151]? = some (.null)) (K152_fs : fs[152]? = some (.int 0)) : Met l yX15_shortest (Cond.code yX15_shortest cX15_shortest 6 (some .int) :: tb) ({ frames := 4, cells := 8, slots := 1755328, locals := 133 }) (pcw [.ref q, .long goal, .int p1] (dC, dI) [(q, .inr (15, fs)), (lv, .inl (cl, 6, .inl (fun _ => 0))), (se, .inl (ke, 5, .inl fe))] [(cl, .int), (ke, .int)] sz) (va_Qi (fun (r : Int32) => (fun (_ : Unit) => ansV goal p1 r)) (bw (dC, dI) (va_A [(q, .inr (15, fs)), (lv, .inl (cl, 6, .inl (fun _ => 0))), (se, .inl (ke, 5, .inl fe))] sz) (fun (_ : Unit) => []) (fun (_ : Unit) => [])) (va_A [(q, .inr (15, fs)), (lv, .inl (cl, 6, .inl (fun _ => 0))), (se, .inl (ke, 5, .inl fe))] sz)) 8 1755328 (va_A [(q, .inr (15, fs)), (lv, .inl (cl, 6, .inl (fun _ => 0))), (se, .inl (ke, 5, .inl fe))] sz) := by
  refine Met.ofW (cc := cX15_shortest) (maxL := 6) (ret := (some .int)) (by decide) rfl ?_
  intro p e s m args below meth c s₁ B hml hv
  obtain ⟨rfl, hsz, hP, hK, hD0⟩ := hv
  have hx := B.exec
  have hb := B.bytes
  have hr := B.returns
  have hts := atoms_spec (ws := Cond.code yX15_shortest cX15_shortest 6 (some .int) :: tb) B.pre
  have ht : ∀ w ∈ tb, w.before _ s = true := fun w h => hts w (List.mem_cons_of_mem _ h)
  have hown : s.vm.findClass RX15 = some m.cls := findClass_of_methodNamed B.named
  have hlocks := B.notSynchronized
  subst hsz
  have hD := hD0.self (sz := s.heap.size)
  generalize hAe : va_A [(q, .inr (15, fs)), (lv, .inl (cl, 6, .inl (fun _ => 0))), (se, .inl (ke, 5, .inl fe))] s.heap.size = A at hD ⊢
  have hA : ∀ q : Nat, s.heap.size ≤ q → A q := fun q h => by rw [← hAe]; exact Or.inr h
  have hS : va_S A s.heap s.heap [] := va_S.rf
  have hl := lv_entry ([.ref q, .long goal, .int p1]) (n := 6) (Nat.le_of_ble_eq_true rfl)
  rw [lg_entry_eq]
  generalize (lg_sl ([.ref q, .long goal, .int p1]) ++ List.replicate (6 - (lg_sl ([.ref q, .long goal, .int p1])).length) Slot.unset).toArray = ls at hl ⊢
  have hl : lv_has ls 6 [(0, .ref q), (1, .long goal), (3, .int p1)] := hl
  have hP : va_P (dC, dI) cls [(q, .inr (15, fs)), (lv, .inl (cl, 6, .inl (fun _ => 0))), (se, .inl (ke, 5, .inl fe))] s.heap := hP
  refine lv_aload_n hx hb dX15_shortest_0 rfl (lv_at hl 0 rfl) ?_
  refine ca_i (wr := [(lv, .inl (cl, 6, .inl (fun _ => 0))), (se, .inl (ke, 5, .inl fe))]) (va_runV (As := []) (rest := []) ⟨hx, hb, hml, hown, ht⟩ (r_isDown_shortest l dC dI s.heap.size q fs lv se L_fs K54_fs K138_fs K141_fs K142_fs K143_fs K144_fs K145_fs K146_fs K147_fs K148_fs K151_fs K152_fs ) (cwV 0 ht (gdV k_12_228 k_12_225 k_12_227 ks_112 k_1_17) rfl rfl rfl (by decide +kernel) ⟨Nat.le_of_ble_eq_true rfl, Nat.le_of_ble_eq_true rfl⟩) ⟨pcw_blind, va_recv hK hP (ci := 15) (q0 := 0) rfl rfl, pcw_at hP hD hK [0] [] (by decide) rfl rfl rfl⟩ rfl rfl hl.1 rfl (lv_room (Nat.le_of_ble_eq_true rfl)) dX15_shortest_1 ⟨Nat.le_of_ble_eq_true rfl, Nat.le_of_ble_eq_true rfl⟩) hP hD hK hS hA [0] [1, 2] rfl rfl (by decide) (by decide) (fun r_1 u H locs w_2 hK hP hD hS => ?_)
  obtain ⟨F_3, rfl⟩ : ∃ z, z = u := ⟨_, rfl⟩
  have hK : va_K (dC, dI) cls [(cl, .int), (ke, .int)] s := hK
  have hP : va_P (dC, dI) cls [(lv, .inl (cl, 6, .inl (fun _ => 0))), (se, .inl (ke, 5, .inl fe)), (q, .inr (15, F_3))] H := hP
  have hD : va_D A [(lv, .inl (cl, 6, .inl (fun _ => 0))), (se, .inl (ke, 5, .inl fe)), (q, .inr (15, F_3))] := hD
  obtain ⟨w_2, K_4, K_5, K_6, K_7, K_8, K_9, K_10, K_11, K_12, K_13, K_14, K_15, K_16, K_17⟩ := w_2
  obtain rfl : r_1 = 0 := w_2
  refine lv_if_eq (tgt := 10) hx hb dX15_shortest_4 (by decide) (fun _ => ?_) (fun c0 => absurd c0 (by decide))
  refine lv_iload_n hx hb dX15_shortest_10 rfl (lv_at hl 2 rfl) ?_
  refine lv_i2l hx hb dX15_shortest_11 rfl ?_
  refine lv_topl (fun x_18 ex_18 => ?_)
  refine lv_lconst (v := 0) hx hb dX15_shortest_12 (by decide) ?_
  refine lv_ldc2 (v := 5) hx hb hown (ht _ k_15_237) dX15_shortest_13 ?_
  refine ca_i (wr := [(lv, .inl (cl, 6, .inl (fun _ => 0))), (se, .inl (ke, 5, .inl fe)), (q, .inr (15, F_3))]) (va_runS (As := [.long x_18, .long 0, .long 5]) (rest := []) ⟨hx, hb, hml, hown, ht⟩ (r_in l dC dI H.size x_18 0 5  ) (cwS 3 ht (gdS k_12_216 k_12_214 k_12_215 k_1_17) rfl rfl rfl (by decide +kernel) ⟨Nat.le_of_ble_eq_true rfl, Nat.le_of_ble_eq_true rfl⟩) ⟨pcw_blind, pcw_at hP hD hK [] [] (by decide) rfl rfl rfl⟩ rfl rfl hl.1 rfl (lv_room (Nat.le_of_ble_eq_true rfl)) dX15_shortest_16 ⟨Nat.le_of_ble_eq_true rfl, Nat.le_of_ble_eq_true rfl⟩) hP hD hK hS hA [] [0, 1, 2] rfl rfl (by decide) (by decide) (fun r_19 u H locs w_20 hK hP hD hS => ?_)
  have hK : va_K (dC, dI) cls [(cl, .int), (ke, .int)] s := hK
  have hP : va_P (dC, dI) cls [(lv, .inl (cl, 6, .inl (fun _ => 0))), (se, .inl (ke, 5, .inl fe)), (q, .inr (15, F_3))] H := hP
  have hD : va_D A [(lv, .inl (cl, 6, .inl (fun _ => 0))), (se, .inl (ke, 5, .inl fe)), (q, .inr (15, F_3))] := hD
  rcases w_20 with ⟨rfl, n_21⟩ | ⟨rfl, n_21⟩
  · obtain ⟨n_21a, n_21b⟩ := in_yes (p := p1) (lo := 0) (hi := 5) ex_18 (by decide) (by decide) n_21
    refine lv_if_ne (tgt := 24) hx hb dX15_shortest_19 (by decide) (fun _ => ?_) (fun c0 => absurd c0 (by decide))
    obtain ⟨mm, hm, rfl⟩ := nI_of2 (M := 5) (n := 5) (by decide) n_21a n_21b
    have hl : lv_has ls 6 [(0, .ref q), (1, .long goal), (3, .int (nI mm))] := hl
    have hm0 : ¬ nI mm < 0 := (nn6 mm (by omega)).1
    have hm5 : nI mm ≤ 5 := (nn6 mm (by omega)).2
    have hl0 : ∀ k, k < 0 → ¬ Gn goal k := fun k hk => absurd hk (Nat.not_lt_zero _)
    refine lv_iconst (v := 0) hx hb dX15_shortest_24 (by decide) ?_
    refine lv_istore (lv' := [(4, .int 0), (0, .ref q), (1, .long goal), (3, .int (nI mm))]) hx hb dX15_shortest_25 hl (by decide) rfl (fun ls hl => ?_)
    refine lv_iload hx hb dX15_shortest_27 (lv_at hl 0 rfl) ?_
    refine lv_iload_n hx hb dX15_shortest_29 rfl (lv_at hl 3 rfl) ?_
    refine lv_icmp_gt (tgt := 109) hx hb dX15_shortest_30 (by decide) (fun c0 => absurd c0 (by have z0 := Int32.le_iff_toInt_le.mp (Int32.not_lt.mp hm0); have z1 := Int32.le_iff_toInt_le.mp hm5; have y0 : (0 : Int32).toInt = 0 := (by decide); have y1 : (5 : Int32).toInt = 5 := (by decide); exact Int32.not_lt.mpr (Int32.le_iff_toInt_le.mpr (by omega)))) (fun _ => ?_)
    refine lv_iload hx hb dX15_shortest_33 (lv_at hl 0 rfl) ?_
    refine lv_iconst (v := 5) hx hb dX15_shortest_35 (by decide) ?_
    refine lv_icmp_ge (tgt := 109) hx hb dX15_shortest_36 (by decide) (fun c0 => absurd c0 (by decide)) (fun _ => ?_)
    refine lv_aload_n hx hb dX15_shortest_39 rfl (lv_at hl 1 rfl) ?_
    refine va_get (D := (dC, dI)) (ci := 15) (v := .int 0) (C := RX15) (T := TX15) (N := 163) hx hb ht uX15 hown hK hP 2 rfl rfl 146 (by decide) (ht _ k_11_94) (fun _ h9 => h9) K_13 dX15_shortest_40 ?_
    refine lv_iload hx hb dX15_shortest_43 (lv_at hl 0 rfl) ?_
    refine lv_icmp_gt (tgt := 52) hx hb dX15_shortest_45 (by decide) (fun c0 => absurd c0 (by decide)) (fun _ => ?_)
    refine lv_aload_n hx hb dX15_shortest_48 rfl (lv_at hl 1 rfl) ?_
    refine ca_v (wr := [(se, .inl (ke, 5, .inl fe))]) (va_runV (As := []) (rest := []) ⟨hx, hb, hml, hown, ht⟩ (r_findLevel_0 l dC dI H.size q F_3 lv se cl K_4 K_7 K_8 K_9 K_10 K_11 K_12 K_13 K_14 K_15 K_16 K_17 ) (cwV 0 ht (gdV k_16_1 k_15_238 k_16_0 ks_234 k_1_17) rfl rfl rfl (by decide +kernel) ⟨Nat.le_of_ble_eq_true rfl, Nat.le_of_ble_eq_true rfl⟩) ⟨pcw_blind, va_recv hK hP (ci := 15) (q0 := 2) rfl rfl, pcw_at hP hD hK [2, 0] [0] (by decide) rfl rfl rfl⟩ rfl rfl hl.1 rfl (lv_room (Nat.le_of_ble_eq_true rfl)) dX15_shortest_49 ⟨Nat.le_of_ble_eq_true rfl, Nat.le_of_ble_eq_true rfl⟩) hP hD hK hS hA [2, 0] [1] rfl rfl (by decide) (by decide) (fun u H locs w_23 hK hP hD hS => ?_)
    obtain ⟨F_24, q_25, q_26, q_27, q_28, q_29, c_30, c_31, c_32, c_33, c_34, q_35, y_36, y_37, y_38, y_39, y_40, y_41, y_42⟩ := u
    have hK : va_K (dC, dI) cls [(cl, .int), (ke, .int), (c_30, .long), (c_31, .long), (c_32, .int), (c_33, .byte), (c_34, .int)] s := hK
    have hP : va_P (dC, dI) cls [(se, .inl (ke, 5, .inl fe)), (q, .inr (15, F_24)), (q_25, .inl (c_30, 111152, .inr (.inl y_36))), (q_26, .inl (c_31, 111152, .inr (.inl y_37))), (q_27, .inl (c_32, 111152, .inl y_38)), (q_28, .inl (c_33, 111152, .inl y_39)), (q_29, .inl (c_34, 262144, .inl y_40)), (lv, .inl (cl, 6, .inl y_41))] H := hP
    have hD : va_D A [(se, .inl (ke, 5, .inl fe)), (q, .inr (15, F_24)), (q_25, .inl (c_30, 111152, .inr (.inl y_36))), (q_26, .inl (c_31, 111152, .inr (.inl y_37))), (q_27, .inl (c_32, 111152, .inl y_38)), (q_28, .inl (c_33, 111152, .inl y_39)), (q_29, .inl (c_34, 262144, .inl y_40)), (lv, .inl (cl, 6, .inl y_41))] := hD
    refine W.widen (k := 5) (n := 706752) (by omega) (by omega) ?_
    obtain ⟨w_23, K_43, K_44, K_45, K_46, K_47, K_48, K_49, K_50, K_51, K_52, K_53, K_54⟩ := w_23
    obtain ⟨hV0, hmL0, htb0, hf0⟩ := w_23
    have hs0 : ∀ j, j < y_42 0 → y_36 j ≠ goal := fun j hj => absurd hj (by rw [hV0.1.1]; exact Nat.not_lt_zero j)
    refine lv_aload_n hx hb dX15_shortest_52 rfl (lv_at hl 1 rfl) ?_
    refine va_get (D := (dC, dI)) (ci := 15) (v := .ref lv) (C := RX15) (T := TX15) (N := 163) hx hb ht uX15 hown hK hP 1 rfl rfl 147 (by decide) (ht _ k_11_95) (fun _ h9 => h9) K_51 dX15_shortest_53 ?_
    refine lv_iload hx hb dX15_shortest_56 (lv_at hl 0 rfl) ?_
    refine va_iald hx hb hK hP 7 0 rfl rfl (by unfold vp_in; decide) dX15_shortest_58 ?_
    refine tk_i (y := y_41 0) (by first | rfl | decide) ?_
    refine tk_i (y := (nI (y_42 0))) (hf0 0 (by decide)) ?_
    refine lv_istore (lv' := [(5, .int (nI (y_42 0))), (4, .int 0), (0, .ref q), (1, .long goal), (3, .int (nI mm))]) hx hb dX15_shortest_59 hl (by decide) rfl (fun ls hl => ?_)
    have hbg0 := (LV_big hV0 (by decide) 1 (by decide)).1
    refine lp_rule (fun H locs ls => W p l e _ s m _ below meth c H locs _ _ _ (F0 m 61 ls [])) (fun (z : Nat) H locs ls => match z with | k => va_P (dC, dI) cls [(se, .inl (ke, 5, .inl fe)), (q, .inr (15, F_24)), (q_25, .inl (c_30, 111152, .inr (.inl y_36))), (q_26, .inl (c_31, 111152, .inr (.inl y_37))), (q_27, .inl (c_32, 111152, .inl y_38)), (q_28, .inl (c_33, 111152, .inl y_39)), (q_29, .inl (c_34, 262144, .inl y_40)), (lv, .inl (cl, 6, .inl y_41))] H ∧ va_D A [(se, .inl (ke, 5, .inl fe)), (q, .inr (15, F_24)), (q_25, .inl (c_30, 111152, .inr (.inl y_36))), (q_26, .inl (c_31, 111152, .inr (.inl y_37))), (q_27, .inl (c_32, 111152, .inl y_38)), (q_28, .inl (c_33, 111152, .inl y_39)), (q_29, .inl (c_34, 262144, .inl y_40)), (lv, .inl (cl, 6, .inl y_41))] ∧ va_S A s.heap H locs ∧ lv_has ls 6 [(5, .int (nI k)), (4, .int 0), (3, .int (nI mm)), (1, .long goal), (0, .ref q)] ∧ True ∧ y_42 0 ≤ k ∧ k ≤ y_42 1 ∧ ∀ j, j < k → y_36 j ≠ goal) (fun (z : Nat) => match z with | k => y_42 1 - k) ?_ ((y_42 0)) H locs ls ⟨hP, hD, hS, lv_sub hl [0, 1, 4, 3, 2] rfl, trivial, (Nat.le_refl _), (hV0.2.1 0 (by decide)).1, hs0⟩
    intro z H locs ls hI ih61
    obtain ⟨k, rfl⟩ : ∃ y, y = z := ⟨_, rfl⟩
    obtain ⟨hP, hD, hS, hl, -, hk1, hk2, hnk⟩ := hI
    have hP : va_P (dC, dI) cls [(se, .inl (ke, 5, .inl fe)), (q, .inr (15, F_24)), (q_25, .inl (c_30, 111152, .inr (.inl y_36))), (q_26, .inl (c_31, 111152, .inr (.inl y_37))), (q_27, .inl (c_32, 111152, .inl y_38)), (q_28, .inl (c_33, 111152, .inl y_39)), (q_29, .inl (c_34, 262144, .inl y_40)), (lv, .inl (cl, 6, .inl y_41))] H := hP
    have hD : va_D A [(se, .inl (ke, 5, .inl fe)), (q, .inr (15, F_24)), (q_25, .inl (c_30, 111152, .inr (.inl y_36))), (q_26, .inl (c_31, 111152, .inr (.inl y_37))), (q_27, .inl (c_32, 111152, .inl y_38)), (q_28, .inl (c_33, 111152, .inl y_39)), (q_29, .inl (c_34, 262144, .inl y_40)), (lv, .inl (cl, 6, .inl y_41))] := hD
    have hl : lv_has ls 6 [(5, .int (nI k)), (4, .int 0), (3, .int (nI mm)), (1, .long goal), (0, .ref q)] := hl
    refine lv_iload hx hb dX15_shortest_61 (lv_at hl 0 rfl) ?_
    refine lv_aload_n hx hb dX15_shortest_63 rfl (lv_at hl 4 rfl) ?_
    refine va_get (D := (dC, dI)) (ci := 15) (v := .ref lv) (C := RX15) (T := TX15) (N := 163) hx hb ht uX15 hown hK hP 1 rfl rfl 147 (by decide) (ht _ k_11_95) (fun _ h9 => h9) K_51 dX15_shortest_64 ?_
    refine lv_iload hx hb dX15_shortest_67 (lv_at hl 1 rfl) ?_
    refine lv_iconst (v := 1) hx hb dX15_shortest_69 (by decide) ?_
    refine lv_iadd hx hb dX15_shortest_70 ?_
    refine tk_i (y := 1) (by decide) ?_
    refine va_iald hx hb hK hP 7 0 rfl rfl (by unfold vp_in; decide) dX15_shortest_71 ?_
    refine tk_i (y := y_41 1) (by first | rfl | decide) ?_
    refine tk_i (y := (nI (y_42 1))) (hf0 1 (by decide)) ?_
    refine lv_icmp_ge (tgt := 103) hx hb dX15_shortest_72 (by decide) (fun b_55 => ?_) (fun b_55 => ?_)
    · have hke : k = y_42 1 := ge_of hk2 (by omega) b_55
      have hno0 := hnk
      rw [hke] at hno0
      have hl1 : ∀ k, k < 1 → ¬ Gn goal k := no_step hl0 (LV_no hV0 (by decide) hno0)
      refine lv_iinc (v := 1) (lv' := [(4, .int 1), (5, .int (nI k)), (3, .int (nI mm)), (1, .long goal), (0, .ref q)]) hx hb dX15_shortest_103 hl (k := 1) rfl (by decide) (by decide) rfl (fun ls hl => ?_)
      refine lv_goto (tgt := 27) hx hb dX15_shortest_106 (by decide) ?_
      refine lv_iload hx hb dX15_shortest_27 (lv_at hl 0 rfl) ?_
      refine lv_iload_n hx hb dX15_shortest_29 rfl (lv_at hl 2 rfl) ?_
      refine lv_icmp_gt (tgt := 109) hx hb dX15_shortest_30 (by decide) (fun b_56 => ?_) (fun b_56 => ?_)
      · refine lv_iload_n hx hb dX15_shortest_109 rfl (lv_at hl 2 rfl) ?_
        refine lv_iconst (v := 5) hx hb dX15_shortest_110 (by decide) ?_
        refine lv_icmp_ne (tgt := 122) hx hb dX15_shortest_111 (by decide) (fun _ => ?_) (fun c0 => absurd c0 (by have z0 := Int32.le_iff_toInt_le.mp (Int32.not_lt.mp hm0); have z1 := Int32.le_iff_toInt_le.mp hm5; have z2 := Int32.lt_iff_toInt_lt.mp b_56; have y0 : (0 : Int32).toInt = 0 := (by decide); have y1 : (1 : Int32).toInt = 1 := (by decide); have y2 : (5 : Int32).toInt = 5 := (by decide); exact fun h => absurd (Int32.toInt_inj.mpr h) (by omega)))
        refine lv_iconst (v := (-1)) hx hb dX15_shortest_122 (by decide) ?_
        refine lv_istore (lv' := [(4, .int (-1)), (5, .int (nI k)), (3, .int (nI mm)), (1, .long goal), (0, .ref q)]) hx hb dX15_shortest_123 hl (by decide) rfl (fun ls hl => ?_)
        refine lv_iload hx hb dX15_shortest_125 (lv_at hl 0 rfl) ?_
        refine lv_if_ge (tgt := 135) hx hb dX15_shortest_127 (by decide) (fun c0 => absurd c0 (by decide)) (fun _ => ?_)
        refine lv_bipush (v := 100) hx hb dX15_shortest_130 (by decide) ?_
        refine lv_goto (tgt := 150) hx hb dX15_shortest_132 (by decide) ?_
        refine W.widen (k := 8) (n := 1755328) (by omega) (by omega) ?_
        exact W.iret (v := 100) hx hb hr (fun t ht9 hW => ⟨⟨100, (), rfl, (Or.inl ⟨mm, hm, rfl, Or.inr ⟨rfl, fun k hk => hl1 k (by have := (show ∀ m, m < 6 → nI m < (1 : Int32) → m < 1 by decide) mm (by omega) b_56; omega)⟩⟩), by rw [ht9]; exact hP.sub [] rfl, va_K.moved hW.alike (hK.sub [] rfl), hD.sub [] (by decide) rfl⟩, hS.F ht9⟩) hS.2.2 dX15_shortest_150
      · refine lv_iload hx hb dX15_shortest_33 (lv_at hl 0 rfl) ?_
        refine lv_iconst (v := 5) hx hb dX15_shortest_35 (by decide) ?_
        refine lv_icmp_ge (tgt := 109) hx hb dX15_shortest_36 (by decide) (fun c0 => absurd c0 (by decide)) (fun _ => ?_)
        refine lv_aload_n hx hb dX15_shortest_39 rfl (lv_at hl 4 rfl) ?_
        refine va_get (D := (dC, dI)) (ci := 15) (v := .int 1) (C := RX15) (T := TX15) (N := 163) hx hb ht uX15 hown hK hP 1 rfl rfl 146 (by decide) (ht _ k_11_94) (fun _ h9 => h9) K_50 dX15_shortest_40 ?_
        refine lv_iload hx hb dX15_shortest_43 (lv_at hl 0 rfl) ?_
        refine lv_icmp_gt (tgt := 52) hx hb dX15_shortest_45 (by decide) (fun c0 => absurd c0 (by decide)) (fun _ => ?_)
        refine lv_aload_n hx hb dX15_shortest_48 rfl (lv_at hl 4 rfl) ?_
        refine ca_v (wr := [(se, .inl (ke, 5, .inl fe))]) (va_runV (As := []) (rest := []) ⟨hx, hb, hml, hown, ht⟩ (r_findLevel l dC dI H.size q F_24 q_25 q_26 q_27 q_28 q_29 lv se c_30 c_31 c_32 c_33 c_34 y_36 y_37 y_38 y_39 y_40 q_35 1 cl y_41 y_42 0 K_43 K_44 K_45 K_46 K_47 K_48 K_49 K_50 K_51 K_52 K_53 K_54 (by decide) rfl hV0 hmL0 htb0 hf0) (cwV 0 ht (gdV k_16_1 k_15_238 k_16_0 ks_234 k_1_17) rfl rfl rfl (by decide +kernel) ⟨Nat.le_of_ble_eq_true rfl, Nat.le_of_ble_eq_true rfl⟩) ⟨pcw_blind, va_recv hK hP (ci := 15) (q0 := 1) rfl rfl, pcw_at hP hD hK [1, 2, 3, 4, 5, 6, 7] [2, 3, 4, 5, 6, 0] (by decide) rfl rfl rfl⟩ rfl rfl hl.1 rfl (lv_room (Nat.le_of_ble_eq_true rfl)) dX15_shortest_49 ⟨Nat.le_of_ble_eq_true rfl, Nat.le_of_ble_eq_true rfl⟩) hP hD hK hS hA [1, 2, 3, 4, 5, 6, 7] [0] rfl rfl (by decide) (by decide) (fun u H locs w_58 hK hP hD hS => ?_)
        obtain ⟨F_59, q_60, y_61, y_62, y_63, y_64, y_65, y_66, y_67⟩ := u
        have hK : va_K (dC, dI) cls [(cl, .int), (ke, .int), (c_30, .long), (c_31, .long), (c_32, .int), (c_33, .byte), (c_34, .int)] s := hK
        have hP : va_P (dC, dI) cls [(se, .inl (ke, 5, .inl fe)), (q, .inr (15, F_59)), (q_25, .inl (c_30, 111152, .inr (.inl y_61))), (q_26, .inl (c_31, 111152, .inr (.inl y_62))), (q_27, .inl (c_32, 111152, .inl y_63)), (q_28, .inl (c_33, 111152, .inl y_64)), (q_29, .inl (c_34, 262144, .inl y_65)), (lv, .inl (cl, 6, .inl y_66))] H := hP
        have hD : va_D A [(se, .inl (ke, 5, .inl fe)), (q, .inr (15, F_59)), (q_25, .inl (c_30, 111152, .inr (.inl y_61))), (q_26, .inl (c_31, 111152, .inr (.inl y_62))), (q_27, .inl (c_32, 111152, .inl y_63)), (q_28, .inl (c_33, 111152, .inl y_64)), (q_29, .inl (c_34, 262144, .inl y_65)), (lv, .inl (cl, 6, .inl y_66))] := hD
        obtain ⟨w_58, K_68, K_69, K_70, K_71, K_72, K_73, K_74, K_75, K_76, K_77, K_78, K_79⟩ := w_58
        obtain ⟨a1, a2, a3, a4, a5, a6⟩ := w_58
        have hV1 : LV 2 y_67 y_61 y_62 y_63 := a1
        have hmL1 : q_60 = y_67 2 := a2
        have htb1 := a3
        have hf1 : ∀ j, j ≤ 2 → y_66 j = nI (y_67 j) := a4
        have hs1 : ∀ j, j < y_67 1 → y_61 j ≠ goal := by
          intro j hj
          have h9 : y_67 1 = y_42 1 := a5 1 (Nat.le_refl _)
          rw [h9] at hj
          rw [a6 j hj]
          exact hno0 j hj
        refine lv_aload_n hx hb dX15_shortest_52 rfl (lv_at hl 4 rfl) ?_
        refine va_get (D := (dC, dI)) (ci := 15) (v := .ref lv) (C := RX15) (T := TX15) (N := 163) hx hb ht uX15 hown hK hP 1 rfl rfl 147 (by decide) (ht _ k_11_95) (fun _ h9 => h9) K_76 dX15_shortest_53 ?_
        refine lv_iload hx hb dX15_shortest_56 (lv_at hl 0 rfl) ?_
        refine va_iald hx hb hK hP 7 0 rfl rfl (by unfold vp_in; decide) dX15_shortest_58 ?_
        refine tk_i (y := y_66 1) (by first | rfl | decide) ?_
        refine tk_i (y := (nI (y_67 1))) (hf1 1 (by decide)) ?_
        refine lv_istore (lv' := [(5, .int (nI (y_67 1))), (4, .int 1), (3, .int (nI mm)), (1, .long goal), (0, .ref q)]) hx hb dX15_shortest_59 hl (by decide) rfl (fun ls hl => ?_)
        have hbg1 := (LV_big hV1 (by decide) 2 (by decide)).1
        refine lp_rule (fun H locs ls => W p l e _ s m _ below meth c H locs _ _ _ (F0 m 61 ls [])) (fun (z : Nat) H locs ls => match z with | k => va_P (dC, dI) cls [(se, .inl (ke, 5, .inl fe)), (q, .inr (15, F_59)), (q_25, .inl (c_30, 111152, .inr (.inl y_61))), (q_26, .inl (c_31, 111152, .inr (.inl y_62))), (q_27, .inl (c_32, 111152, .inl y_63)), (q_28, .inl (c_33, 111152, .inl y_64)), (q_29, .inl (c_34, 262144, .inl y_65)), (lv, .inl (cl, 6, .inl y_66))] H ∧ va_D A [(se, .inl (ke, 5, .inl fe)), (q, .inr (15, F_59)), (q_25, .inl (c_30, 111152, .inr (.inl y_61))), (q_26, .inl (c_31, 111152, .inr (.inl y_62))), (q_27, .inl (c_32, 111152, .inl y_63)), (q_28, .inl (c_33, 111152, .inl y_64)), (q_29, .inl (c_34, 262144, .inl y_65)), (lv, .inl (cl, 6, .inl y_66))] ∧ va_S A s.heap H locs ∧ lv_has ls 6 [(5, .int (nI k)), (4, .int 1), (3, .int (nI mm)), (1, .long goal), (0, .ref q)] ∧ True ∧ y_67 1 ≤ k ∧ k ≤ y_67 2 ∧ ∀ j, j < k → y_61 j ≠ goal) (fun (z : Nat) => match z with | k => y_67 2 - k) ?_ ((y_67 1)) H locs ls ⟨hP, hD, hS, lv_sub hl [0, 1, 2, 3, 4] rfl, trivial, (Nat.le_refl _), (hV1.2.1 1 (by decide)).1, hs1⟩
        intro z H locs ls hI ih61
        obtain ⟨k, rfl⟩ : ∃ y, y = z := ⟨_, rfl⟩
        obtain ⟨hP, hD, hS, hl, -, hk1, hk2, hnk⟩ := hI
        have hP : va_P (dC, dI) cls [(se, .inl (ke, 5, .inl fe)), (q, .inr (15, F_59)), (q_25, .inl (c_30, 111152, .inr (.inl y_61))), (q_26, .inl (c_31, 111152, .inr (.inl y_62))), (q_27, .inl (c_32, 111152, .inl y_63)), (q_28, .inl (c_33, 111152, .inl y_64)), (q_29, .inl (c_34, 262144, .inl y_65)), (lv, .inl (cl, 6, .inl y_66))] H := hP
        have hD : va_D A [(se, .inl (ke, 5, .inl fe)), (q, .inr (15, F_59)), (q_25, .inl (c_30, 111152, .inr (.inl y_61))), (q_26, .inl (c_31, 111152, .inr (.inl y_62))), (q_27, .inl (c_32, 111152, .inl y_63)), (q_28, .inl (c_33, 111152, .inl y_64)), (q_29, .inl (c_34, 262144, .inl y_65)), (lv, .inl (cl, 6, .inl y_66))] := hD
        have hl : lv_has ls 6 [(5, .int (nI k)), (4, .int 1), (3, .int (nI mm)), (1, .long goal), (0, .ref q)] := hl
        refine lv_iload hx hb dX15_shortest_61 (lv_at hl 0 rfl) ?_
        refine lv_aload_n hx hb dX15_shortest_63 rfl (lv_at hl 4 rfl) ?_
        refine va_get (D := (dC, dI)) (ci := 15) (v := .ref lv) (C := RX15) (T := TX15) (N := 163) hx hb ht uX15 hown hK hP 1 rfl rfl 147 (by decide) (ht _ k_11_95) (fun _ h9 => h9) K_76 dX15_shortest_64 ?_
        refine lv_iload hx hb dX15_shortest_67 (lv_at hl 1 rfl) ?_
        refine lv_iconst (v := 1) hx hb dX15_shortest_69 (by decide) ?_
        refine lv_iadd hx hb dX15_shortest_70 ?_
        refine tk_i (y := 2) (by decide) ?_
        refine va_iald hx hb hK hP 7 0 rfl rfl (by unfold vp_in; decide) dX15_shortest_71 ?_
        refine tk_i (y := y_66 2) (by first | rfl | decide) ?_
        refine tk_i (y := (nI (y_67 2))) (hf1 2 (by decide)) ?_
        refine lv_icmp_ge (tgt := 103) hx hb dX15_shortest_72 (by decide) (fun b_80 => ?_) (fun b_80 => ?_)
        · have hke : k = y_67 2 := ge_of hk2 (by omega) b_80
          have hno1 := hnk
          rw [hke] at hno1
          have hl2 : ∀ k, k < 2 → ¬ Gn goal k := no_step hl1 (LV_no hV1 (by decide) hno1)
          refine lv_iinc (v := 2) (lv' := [(4, .int 2), (5, .int (nI k)), (3, .int (nI mm)), (1, .long goal), (0, .ref q)]) hx hb dX15_shortest_103 hl (k := 1) rfl (by decide) (by decide) rfl (fun ls hl => ?_)
          refine lv_goto (tgt := 27) hx hb dX15_shortest_106 (by decide) ?_
          refine lv_iload hx hb dX15_shortest_27 (lv_at hl 0 rfl) ?_
          refine lv_iload_n hx hb dX15_shortest_29 rfl (lv_at hl 2 rfl) ?_
          refine lv_icmp_gt (tgt := 109) hx hb dX15_shortest_30 (by decide) (fun b_81 => ?_) (fun b_81 => ?_)
          · refine lv_iload_n hx hb dX15_shortest_109 rfl (lv_at hl 2 rfl) ?_
            refine lv_iconst (v := 5) hx hb dX15_shortest_110 (by decide) ?_
            refine lv_icmp_ne (tgt := 122) hx hb dX15_shortest_111 (by decide) (fun _ => ?_) (fun c0 => absurd c0 (by have z0 := Int32.le_iff_toInt_le.mp (Int32.not_lt.mp hm0); have z1 := Int32.le_iff_toInt_le.mp hm5; have z2 := Int32.le_iff_toInt_le.mp (Int32.not_lt.mp b_56); have z3 := Int32.lt_iff_toInt_lt.mp b_81; have y0 : (0 : Int32).toInt = 0 := (by decide); have y1 : (1 : Int32).toInt = 1 := (by decide); have y2 : (2 : Int32).toInt = 2 := (by decide); have y3 : (5 : Int32).toInt = 5 := (by decide); exact fun h => absurd (Int32.toInt_inj.mpr h) (by omega)))
            refine lv_iconst (v := (-1)) hx hb dX15_shortest_122 (by decide) ?_
            refine lv_istore (lv' := [(4, .int (-1)), (5, .int (nI k)), (3, .int (nI mm)), (1, .long goal), (0, .ref q)]) hx hb dX15_shortest_123 hl (by decide) rfl (fun ls hl => ?_)
            refine lv_iload hx hb dX15_shortest_125 (lv_at hl 0 rfl) ?_
            refine lv_if_ge (tgt := 135) hx hb dX15_shortest_127 (by decide) (fun c0 => absurd c0 (by decide)) (fun _ => ?_)
            refine lv_bipush (v := 100) hx hb dX15_shortest_130 (by decide) ?_
            refine lv_goto (tgt := 150) hx hb dX15_shortest_132 (by decide) ?_
            refine W.widen (k := 8) (n := 1755328) (by omega) (by omega) ?_
            exact W.iret (v := 100) hx hb hr (fun t ht9 hW => ⟨⟨100, (), rfl, (Or.inl ⟨mm, hm, rfl, Or.inr ⟨rfl, fun k hk => hl2 k (by have := (show ∀ m, m < 6 → nI m < (2 : Int32) → m < 2 by decide) mm (by omega) b_81; omega)⟩⟩), by rw [ht9]; exact hP.sub [] rfl, va_K.moved hW.alike (hK.sub [] rfl), hD.sub [] (by decide) rfl⟩, hS.F ht9⟩) hS.2.2 dX15_shortest_150
          · refine lv_iload hx hb dX15_shortest_33 (lv_at hl 0 rfl) ?_
            refine lv_iconst (v := 5) hx hb dX15_shortest_35 (by decide) ?_
            refine lv_icmp_ge (tgt := 109) hx hb dX15_shortest_36 (by decide) (fun c0 => absurd c0 (by decide)) (fun _ => ?_)
            refine lv_aload_n hx hb dX15_shortest_39 rfl (lv_at hl 4 rfl) ?_
            refine va_get (D := (dC, dI)) (ci := 15) (v := .int 2) (C := RX15) (T := TX15) (N := 163) hx hb ht uX15 hown hK hP 1 rfl rfl 146 (by decide) (ht _ k_11_94) (fun _ h9 => h9) K_75 dX15_shortest_40 ?_
            refine lv_iload hx hb dX15_shortest_43 (lv_at hl 0 rfl) ?_
            refine lv_icmp_gt (tgt := 52) hx hb dX15_shortest_45 (by decide) (fun c0 => absurd c0 (by decide)) (fun _ => ?_)
            refine lv_aload_n hx hb dX15_shortest_48 rfl (lv_at hl 4 rfl) ?_
            refine ca_v (wr := [(se, .inl (ke, 5, .inl fe))]) (va_runV (As := []) (rest := []) ⟨hx, hb, hml, hown, ht⟩ (r_findLevel l dC dI H.size q F_59 q_25 q_26 q_27 q_28 q_29 lv se c_30 c_31 c_32 c_33 c_34 y_61 y_62 y_63 y_64 y_65 q_60 2 cl y_66 y_67 1 K_68 K_69 K_70 K_71 K_72 K_73 K_74 K_75 K_76 K_77 K_78 K_79 (by decide) rfl hV1 hmL1 htb1 hf1) (cwV 0 ht (gdV k_16_1 k_15_238 k_16_0 ks_234 k_1_17) rfl rfl rfl (by decide +kernel) ⟨Nat.le_of_ble_eq_true rfl, Nat.le_of_ble_eq_true rfl⟩) ⟨pcw_blind, va_recv hK hP (ci := 15) (q0 := 1) rfl rfl, pcw_at hP hD hK [1, 2, 3, 4, 5, 6, 7] [2, 3, 4, 5, 6, 0] (by decide) rfl rfl rfl⟩ rfl rfl hl.1 rfl (lv_room (Nat.le_of_ble_eq_true rfl)) dX15_shortest_49 ⟨Nat.le_of_ble_eq_true rfl, Nat.le_of_ble_eq_true rfl⟩) hP hD hK hS hA [1, 2, 3, 4, 5, 6, 7] [0] rfl rfl (by decide) (by decide) (fun u H locs w_83 hK hP hD hS => ?_)
            obtain ⟨F_84, q_85, y_86, y_87, y_88, y_89, y_90, y_91, y_92⟩ := u
            have hK : va_K (dC, dI) cls [(cl, .int), (ke, .int), (c_30, .long), (c_31, .long), (c_32, .int), (c_33, .byte), (c_34, .int)] s := hK
            have hP : va_P (dC, dI) cls [(se, .inl (ke, 5, .inl fe)), (q, .inr (15, F_84)), (q_25, .inl (c_30, 111152, .inr (.inl y_86))), (q_26, .inl (c_31, 111152, .inr (.inl y_87))), (q_27, .inl (c_32, 111152, .inl y_88)), (q_28, .inl (c_33, 111152, .inl y_89)), (q_29, .inl (c_34, 262144, .inl y_90)), (lv, .inl (cl, 6, .inl y_91))] H := hP
            have hD : va_D A [(se, .inl (ke, 5, .inl fe)), (q, .inr (15, F_84)), (q_25, .inl (c_30, 111152, .inr (.inl y_86))), (q_26, .inl (c_31, 111152, .inr (.inl y_87))), (q_27, .inl (c_32, 111152, .inl y_88)), (q_28, .inl (c_33, 111152, .inl y_89)), (q_29, .inl (c_34, 262144, .inl y_90)), (lv, .inl (cl, 6, .inl y_91))] := hD
            obtain ⟨w_83, K_93, K_94, K_95, K_96, K_97, K_98, K_99, K_100, K_101, K_102, K_103, K_104⟩ := w_83
            obtain ⟨a1, a2, a3, a4, a5, a6⟩ := w_83
            have hV2 : LV 3 y_92 y_86 y_87 y_88 := a1
            have hmL2 : q_85 = y_92 3 := a2
            have htb2 := a3
            have hf2 : ∀ j, j ≤ 3 → y_91 j = nI (y_92 j) := a4
            have hs2 : ∀ j, j < y_92 2 → y_86 j ≠ goal := by
              intro j hj
              have h9 : y_92 2 = y_67 2 := a5 2 (Nat.le_refl _)
              rw [h9] at hj
              rw [a6 j hj]
              exact hno1 j hj
            refine lv_aload_n hx hb dX15_shortest_52 rfl (lv_at hl 4 rfl) ?_
            refine va_get (D := (dC, dI)) (ci := 15) (v := .ref lv) (C := RX15) (T := TX15) (N := 163) hx hb ht uX15 hown hK hP 1 rfl rfl 147 (by decide) (ht _ k_11_95) (fun _ h9 => h9) K_101 dX15_shortest_53 ?_
            refine lv_iload hx hb dX15_shortest_56 (lv_at hl 0 rfl) ?_
            refine va_iald hx hb hK hP 7 0 rfl rfl (by unfold vp_in; decide) dX15_shortest_58 ?_
            refine tk_i (y := y_91 2) (by first | rfl | decide) ?_
            refine tk_i (y := (nI (y_92 2))) (hf2 2 (by decide)) ?_
            refine lv_istore (lv' := [(5, .int (nI (y_92 2))), (4, .int 2), (3, .int (nI mm)), (1, .long goal), (0, .ref q)]) hx hb dX15_shortest_59 hl (by decide) rfl (fun ls hl => ?_)
            have hbg2 := (LV_big hV2 (by decide) 3 (by decide)).1
            refine lp_rule (fun H locs ls => W p l e _ s m _ below meth c H locs _ _ _ (F0 m 61 ls [])) (fun (z : Nat) H locs ls => match z with | k => va_P (dC, dI) cls [(se, .inl (ke, 5, .inl fe)), (q, .inr (15, F_84)), (q_25, .inl (c_30, 111152, .inr (.inl y_86))), (q_26, .inl (c_31, 111152, .inr (.inl y_87))), (q_27, .inl (c_32, 111152, .inl y_88)), (q_28, .inl (c_33, 111152, .inl y_89)), (q_29, .inl (c_34, 262144, .inl y_90)), (lv, .inl (cl, 6, .inl y_91))] H ∧ va_D A [(se, .inl (ke, 5, .inl fe)), (q, .inr (15, F_84)), (q_25, .inl (c_30, 111152, .inr (.inl y_86))), (q_26, .inl (c_31, 111152, .inr (.inl y_87))), (q_27, .inl (c_32, 111152, .inl y_88)), (q_28, .inl (c_33, 111152, .inl y_89)), (q_29, .inl (c_34, 262144, .inl y_90)), (lv, .inl (cl, 6, .inl y_91))] ∧ va_S A s.heap H locs ∧ lv_has ls 6 [(5, .int (nI k)), (4, .int 2), (3, .int (nI mm)), (1, .long goal), (0, .ref q)] ∧ True ∧ y_92 2 ≤ k ∧ k ≤ y_92 3 ∧ ∀ j, j < k → y_86 j ≠ goal) (fun (z : Nat) => match z with | k => y_92 3 - k) ?_ ((y_92 2)) H locs ls ⟨hP, hD, hS, lv_sub hl [0, 1, 2, 3, 4] rfl, trivial, (Nat.le_refl _), (hV2.2.1 2 (by decide)).1, hs2⟩
            intro z H locs ls hI ih61
            obtain ⟨k, rfl⟩ : ∃ y, y = z := ⟨_, rfl⟩
            obtain ⟨hP, hD, hS, hl, -, hk1, hk2, hnk⟩ := hI
            have hP : va_P (dC, dI) cls [(se, .inl (ke, 5, .inl fe)), (q, .inr (15, F_84)), (q_25, .inl (c_30, 111152, .inr (.inl y_86))), (q_26, .inl (c_31, 111152, .inr (.inl y_87))), (q_27, .inl (c_32, 111152, .inl y_88)), (q_28, .inl (c_33, 111152, .inl y_89)), (q_29, .inl (c_34, 262144, .inl y_90)), (lv, .inl (cl, 6, .inl y_91))] H := hP
            have hD : va_D A [(se, .inl (ke, 5, .inl fe)), (q, .inr (15, F_84)), (q_25, .inl (c_30, 111152, .inr (.inl y_86))), (q_26, .inl (c_31, 111152, .inr (.inl y_87))), (q_27, .inl (c_32, 111152, .inl y_88)), (q_28, .inl (c_33, 111152, .inl y_89)), (q_29, .inl (c_34, 262144, .inl y_90)), (lv, .inl (cl, 6, .inl y_91))] := hD
            have hl : lv_has ls 6 [(5, .int (nI k)), (4, .int 2), (3, .int (nI mm)), (1, .long goal), (0, .ref q)] := hl
            refine lv_iload hx hb dX15_shortest_61 (lv_at hl 0 rfl) ?_
            refine lv_aload_n hx hb dX15_shortest_63 rfl (lv_at hl 4 rfl) ?_
            refine va_get (D := (dC, dI)) (ci := 15) (v := .ref lv) (C := RX15) (T := TX15) (N := 163) hx hb ht uX15 hown hK hP 1 rfl rfl 147 (by decide) (ht _ k_11_95) (fun _ h9 => h9) K_101 dX15_shortest_64 ?_
            refine lv_iload hx hb dX15_shortest_67 (lv_at hl 1 rfl) ?_
            refine lv_iconst (v := 1) hx hb dX15_shortest_69 (by decide) ?_
            refine lv_iadd hx hb dX15_shortest_70 ?_
            refine tk_i (y := 3) (by decide) ?_
            refine va_iald hx hb hK hP 7 0 rfl rfl (by unfold vp_in; decide) dX15_shortest_71 ?_
            refine tk_i (y := y_91 3) (by first | rfl | decide) ?_
            refine tk_i (y := (nI (y_92 3))) (hf2 3 (by decide)) ?_
            refine lv_icmp_ge (tgt := 103) hx hb dX15_shortest_72 (by decide) (fun b_105 => ?_) (fun b_105 => ?_)
            · have hke : k = y_92 3 := ge_of hk2 (by omega) b_105
              have hno2 := hnk
              rw [hke] at hno2
              have hl3 : ∀ k, k < 3 → ¬ Gn goal k := no_step hl2 (LV_no hV2 (by decide) hno2)
              refine lv_iinc (v := 3) (lv' := [(4, .int 3), (5, .int (nI k)), (3, .int (nI mm)), (1, .long goal), (0, .ref q)]) hx hb dX15_shortest_103 hl (k := 1) rfl (by decide) (by decide) rfl (fun ls hl => ?_)
              refine lv_goto (tgt := 27) hx hb dX15_shortest_106 (by decide) ?_
              refine lv_iload hx hb dX15_shortest_27 (lv_at hl 0 rfl) ?_
              refine lv_iload_n hx hb dX15_shortest_29 rfl (lv_at hl 2 rfl) ?_
              refine lv_icmp_gt (tgt := 109) hx hb dX15_shortest_30 (by decide) (fun b_106 => ?_) (fun b_106 => ?_)
              · refine lv_iload_n hx hb dX15_shortest_109 rfl (lv_at hl 2 rfl) ?_
                refine lv_iconst (v := 5) hx hb dX15_shortest_110 (by decide) ?_
                refine lv_icmp_ne (tgt := 122) hx hb dX15_shortest_111 (by decide) (fun _ => ?_) (fun c0 => absurd c0 (by have z0 := Int32.le_iff_toInt_le.mp (Int32.not_lt.mp hm0); have z1 := Int32.le_iff_toInt_le.mp hm5; have z2 := Int32.le_iff_toInt_le.mp (Int32.not_lt.mp b_56); have z3 := Int32.le_iff_toInt_le.mp (Int32.not_lt.mp b_81); have z4 := Int32.lt_iff_toInt_lt.mp b_106; have y0 : (0 : Int32).toInt = 0 := (by decide); have y1 : (1 : Int32).toInt = 1 := (by decide); have y2 : (2 : Int32).toInt = 2 := (by decide); have y3 : (3 : Int32).toInt = 3 := (by decide); have y4 : (5 : Int32).toInt = 5 := (by decide); exact fun h => absurd (Int32.toInt_inj.mpr h) (by omega)))
                refine lv_iconst (v := (-1)) hx hb dX15_shortest_122 (by decide) ?_
                refine lv_istore (lv' := [(4, .int (-1)), (5, .int (nI k)), (3, .int (nI mm)), (1, .long goal), (0, .ref q)]) hx hb dX15_shortest_123 hl (by decide) rfl (fun ls hl => ?_)
                refine lv_iload hx hb dX15_shortest_125 (lv_at hl 0 rfl) ?_
                refine lv_if_ge (tgt := 135) hx hb dX15_shortest_127 (by decide) (fun c0 => absurd c0 (by decide)) (fun _ => ?_)
                refine lv_bipush (v := 100) hx hb dX15_shortest_130 (by decide) ?_
                refine lv_goto (tgt := 150) hx hb dX15_shortest_132 (by decide) ?_
                refine W.widen (k := 8) (n := 1755328) (by omega) (by omega) ?_
                exact W.iret (v := 100) hx hb hr (fun t ht9 hW => ⟨⟨100, (), rfl, (Or.inl ⟨mm, hm, rfl, Or.inr ⟨rfl, fun k hk => hl3 k (by have := (show ∀ m, m < 6 → nI m < (3 : Int32) → m < 3 by decide) mm (by omega) b_106; omega)⟩⟩), by rw [ht9]; exact hP.sub [] rfl, va_K.moved hW.alike (hK.sub [] rfl), hD.sub [] (by decide) rfl⟩, hS.F ht9⟩) hS.2.2 dX15_shortest_150
              · refine lv_iload hx hb dX15_shortest_33 (lv_at hl 0 rfl) ?_
                refine lv_iconst (v := 5) hx hb dX15_shortest_35 (by decide) ?_
                refine lv_icmp_ge (tgt := 109) hx hb dX15_shortest_36 (by decide) (fun c0 => absurd c0 (by decide)) (fun _ => ?_)
                refine lv_aload_n hx hb dX15_shortest_39 rfl (lv_at hl 4 rfl) ?_
                refine va_get (D := (dC, dI)) (ci := 15) (v := .int 3) (C := RX15) (T := TX15) (N := 163) hx hb ht uX15 hown hK hP 1 rfl rfl 146 (by decide) (ht _ k_11_94) (fun _ h9 => h9) K_100 dX15_shortest_40 ?_
                refine lv_iload hx hb dX15_shortest_43 (lv_at hl 0 rfl) ?_
                refine lv_icmp_gt (tgt := 52) hx hb dX15_shortest_45 (by decide) (fun c0 => absurd c0 (by decide)) (fun _ => ?_)
                refine lv_aload_n hx hb dX15_shortest_48 rfl (lv_at hl 4 rfl) ?_
                refine ca_v (wr := [(se, .inl (ke, 5, .inl fe))]) (va_runV (As := []) (rest := []) ⟨hx, hb, hml, hown, ht⟩ (r_findLevel l dC dI H.size q F_84 q_25 q_26 q_27 q_28 q_29 lv se c_30 c_31 c_32 c_33 c_34 y_86 y_87 y_88 y_89 y_90 q_85 3 cl y_91 y_92 2 K_93 K_94 K_95 K_96 K_97 K_98 K_99 K_100 K_101 K_102 K_103 K_104 (by decide) rfl hV2 hmL2 htb2 hf2) (cwV 0 ht (gdV k_16_1 k_15_238 k_16_0 ks_234 k_1_17) rfl rfl rfl (by decide +kernel) ⟨Nat.le_of_ble_eq_true rfl, Nat.le_of_ble_eq_true rfl⟩) ⟨pcw_blind, va_recv hK hP (ci := 15) (q0 := 1) rfl rfl, pcw_at hP hD hK [1, 2, 3, 4, 5, 6, 7] [2, 3, 4, 5, 6, 0] (by decide) rfl rfl rfl⟩ rfl rfl hl.1 rfl (lv_room (Nat.le_of_ble_eq_true rfl)) dX15_shortest_49 ⟨Nat.le_of_ble_eq_true rfl, Nat.le_of_ble_eq_true rfl⟩) hP hD hK hS hA [1, 2, 3, 4, 5, 6, 7] [0] rfl rfl (by decide) (by decide) (fun u H locs w_108 hK hP hD hS => ?_)
                obtain ⟨F_109, q_110, y_111, y_112, y_113, y_114, y_115, y_116, y_117⟩ := u
                have hK : va_K (dC, dI) cls [(cl, .int), (ke, .int), (c_30, .long), (c_31, .long), (c_32, .int), (c_33, .byte), (c_34, .int)] s := hK
                have hP : va_P (dC, dI) cls [(se, .inl (ke, 5, .inl fe)), (q, .inr (15, F_109)), (q_25, .inl (c_30, 111152, .inr (.inl y_111))), (q_26, .inl (c_31, 111152, .inr (.inl y_112))), (q_27, .inl (c_32, 111152, .inl y_113)), (q_28, .inl (c_33, 111152, .inl y_114)), (q_29, .inl (c_34, 262144, .inl y_115)), (lv, .inl (cl, 6, .inl y_116))] H := hP
                have hD : va_D A [(se, .inl (ke, 5, .inl fe)), (q, .inr (15, F_109)), (q_25, .inl (c_30, 111152, .inr (.inl y_111))), (q_26, .inl (c_31, 111152, .inr (.inl y_112))), (q_27, .inl (c_32, 111152, .inl y_113)), (q_28, .inl (c_33, 111152, .inl y_114)), (q_29, .inl (c_34, 262144, .inl y_115)), (lv, .inl (cl, 6, .inl y_116))] := hD
                obtain ⟨w_108, K_118, K_119, K_120, K_121, K_122, K_123, K_124, K_125, K_126, K_127, K_128, K_129⟩ := w_108
                obtain ⟨a1, a2, a3, a4, a5, a6⟩ := w_108
                have hV3 : LV 4 y_117 y_111 y_112 y_113 := a1
                have hmL3 : q_110 = y_117 4 := a2
                have htb3 := a3
                have hf3 : ∀ j, j ≤ 4 → y_116 j = nI (y_117 j) := a4
                have hs3 : ∀ j, j < y_117 3 → y_111 j ≠ goal := by
                  intro j hj
                  have h9 : y_117 3 = y_92 3 := a5 3 (Nat.le_refl _)
                  rw [h9] at hj
                  rw [a6 j hj]
                  exact hno2 j hj
                refine lv_aload_n hx hb dX15_shortest_52 rfl (lv_at hl 4 rfl) ?_
                refine va_get (D := (dC, dI)) (ci := 15) (v := .ref lv) (C := RX15) (T := TX15) (N := 163) hx hb ht uX15 hown hK hP 1 rfl rfl 147 (by decide) (ht _ k_11_95) (fun _ h9 => h9) K_126 dX15_shortest_53 ?_
                refine lv_iload hx hb dX15_shortest_56 (lv_at hl 0 rfl) ?_
                refine va_iald hx hb hK hP 7 0 rfl rfl (by unfold vp_in; decide) dX15_shortest_58 ?_
                refine tk_i (y := y_116 3) (by first | rfl | decide) ?_
                refine tk_i (y := (nI (y_117 3))) (hf3 3 (by decide)) ?_
                refine lv_istore (lv' := [(5, .int (nI (y_117 3))), (4, .int 3), (3, .int (nI mm)), (1, .long goal), (0, .ref q)]) hx hb dX15_shortest_59 hl (by decide) rfl (fun ls hl => ?_)
                have hbg3 := (LV_big hV3 (by decide) 4 (by decide)).1
                refine lp_rule (fun H locs ls => W p l e _ s m _ below meth c H locs _ _ _ (F0 m 61 ls [])) (fun (z : Nat) H locs ls => match z with | k => va_P (dC, dI) cls [(se, .inl (ke, 5, .inl fe)), (q, .inr (15, F_109)), (q_25, .inl (c_30, 111152, .inr (.inl y_111))), (q_26, .inl (c_31, 111152, .inr (.inl y_112))), (q_27, .inl (c_32, 111152, .inl y_113)), (q_28, .inl (c_33, 111152, .inl y_114)), (q_29, .inl (c_34, 262144, .inl y_115)), (lv, .inl (cl, 6, .inl y_116))] H ∧ va_D A [(se, .inl (ke, 5, .inl fe)), (q, .inr (15, F_109)), (q_25, .inl (c_30, 111152, .inr (.inl y_111))), (q_26, .inl (c_31, 111152, .inr (.inl y_112))), (q_27, .inl (c_32, 111152, .inl y_113)), (q_28, .inl (c_33, 111152, .inl y_114)), (q_29, .inl (c_34, 262144, .inl y_115)), (lv, .inl (cl, 6, .inl y_116))] ∧ va_S A s.heap H locs ∧ lv_has ls 6 [(5, .int (nI k)), (4, .int 3), (3, .int (nI mm)), (1, .long goal), (0, .ref q)] ∧ True ∧ y_117 3 ≤ k ∧ k ≤ y_117 4 ∧ ∀ j, j < k → y_111 j ≠ goal) (fun (z : Nat) => match z with | k => y_117 4 - k) ?_ ((y_117 3)) H locs ls ⟨hP, hD, hS, lv_sub hl [0, 1, 2, 3, 4] rfl, trivial, (Nat.le_refl _), (hV3.2.1 3 (by decide)).1, hs3⟩
                intro z H locs ls hI ih61
                obtain ⟨k, rfl⟩ : ∃ y, y = z := ⟨_, rfl⟩
                obtain ⟨hP, hD, hS, hl, -, hk1, hk2, hnk⟩ := hI
                have hP : va_P (dC, dI) cls [(se, .inl (ke, 5, .inl fe)), (q, .inr (15, F_109)), (q_25, .inl (c_30, 111152, .inr (.inl y_111))), (q_26, .inl (c_31, 111152, .inr (.inl y_112))), (q_27, .inl (c_32, 111152, .inl y_113)), (q_28, .inl (c_33, 111152, .inl y_114)), (q_29, .inl (c_34, 262144, .inl y_115)), (lv, .inl (cl, 6, .inl y_116))] H := hP
                have hD : va_D A [(se, .inl (ke, 5, .inl fe)), (q, .inr (15, F_109)), (q_25, .inl (c_30, 111152, .inr (.inl y_111))), (q_26, .inl (c_31, 111152, .inr (.inl y_112))), (q_27, .inl (c_32, 111152, .inl y_113)), (q_28, .inl (c_33, 111152, .inl y_114)), (q_29, .inl (c_34, 262144, .inl y_115)), (lv, .inl (cl, 6, .inl y_116))] := hD
                have hl : lv_has ls 6 [(5, .int (nI k)), (4, .int 3), (3, .int (nI mm)), (1, .long goal), (0, .ref q)] := hl
                refine lv_iload hx hb dX15_shortest_61 (lv_at hl 0 rfl) ?_
                refine lv_aload_n hx hb dX15_shortest_63 rfl (lv_at hl 4 rfl) ?_
                refine va_get (D := (dC, dI)) (ci := 15) (v := .ref lv) (C := RX15) (T := TX15) (N := 163) hx hb ht uX15 hown hK hP 1 rfl rfl 147 (by decide) (ht _ k_11_95) (fun _ h9 => h9) K_126 dX15_shortest_64 ?_
                refine lv_iload hx hb dX15_shortest_67 (lv_at hl 1 rfl) ?_
                refine lv_iconst (v := 1) hx hb dX15_shortest_69 (by decide) ?_
                refine lv_iadd hx hb dX15_shortest_70 ?_
                refine tk_i (y := 4) (by decide) ?_
                refine va_iald hx hb hK hP 7 0 rfl rfl (by unfold vp_in; decide) dX15_shortest_71 ?_
                refine tk_i (y := y_116 4) (by first | rfl | decide) ?_
                refine tk_i (y := (nI (y_117 4))) (hf3 4 (by decide)) ?_
                refine lv_icmp_ge (tgt := 103) hx hb dX15_shortest_72 (by decide) (fun b_130 => ?_) (fun b_130 => ?_)
                · have hke : k = y_117 4 := ge_of hk2 (by omega) b_130
                  have hno3 := hnk
                  rw [hke] at hno3
                  have hl4 : ∀ k, k < 4 → ¬ Gn goal k := no_step hl3 (LV_no hV3 (by decide) hno3)
                  refine lv_iinc (v := 4) (lv' := [(4, .int 4), (5, .int (nI k)), (3, .int (nI mm)), (1, .long goal), (0, .ref q)]) hx hb dX15_shortest_103 hl (k := 1) rfl (by decide) (by decide) rfl (fun ls hl => ?_)
                  refine lv_goto (tgt := 27) hx hb dX15_shortest_106 (by decide) ?_
                  refine lv_iload hx hb dX15_shortest_27 (lv_at hl 0 rfl) ?_
                  refine lv_iload_n hx hb dX15_shortest_29 rfl (lv_at hl 2 rfl) ?_
                  refine lv_icmp_gt (tgt := 109) hx hb dX15_shortest_30 (by decide) (fun b_131 => ?_) (fun b_131 => ?_)
                  · refine lv_iload_n hx hb dX15_shortest_109 rfl (lv_at hl 2 rfl) ?_
                    refine lv_iconst (v := 5) hx hb dX15_shortest_110 (by decide) ?_
                    refine lv_icmp_ne (tgt := 122) hx hb dX15_shortest_111 (by decide) (fun _ => ?_) (fun c0 => absurd c0 (by have z0 := Int32.le_iff_toInt_le.mp (Int32.not_lt.mp hm0); have z1 := Int32.le_iff_toInt_le.mp hm5; have z2 := Int32.le_iff_toInt_le.mp (Int32.not_lt.mp b_56); have z3 := Int32.le_iff_toInt_le.mp (Int32.not_lt.mp b_81); have z4 := Int32.le_iff_toInt_le.mp (Int32.not_lt.mp b_106); have z5 := Int32.lt_iff_toInt_lt.mp b_131; have y0 : (0 : Int32).toInt = 0 := (by decide); have y1 : (1 : Int32).toInt = 1 := (by decide); have y2 : (2 : Int32).toInt = 2 := (by decide); have y3 : (3 : Int32).toInt = 3 := (by decide); have y4 : (4 : Int32).toInt = 4 := (by decide); have y5 : (5 : Int32).toInt = 5 := (by decide); exact fun h => absurd (Int32.toInt_inj.mpr h) (by omega)))
                    refine lv_iconst (v := (-1)) hx hb dX15_shortest_122 (by decide) ?_
                    refine lv_istore (lv' := [(4, .int (-1)), (5, .int (nI k)), (3, .int (nI mm)), (1, .long goal), (0, .ref q)]) hx hb dX15_shortest_123 hl (by decide) rfl (fun ls hl => ?_)
                    refine lv_iload hx hb dX15_shortest_125 (lv_at hl 0 rfl) ?_
                    refine lv_if_ge (tgt := 135) hx hb dX15_shortest_127 (by decide) (fun c0 => absurd c0 (by decide)) (fun _ => ?_)
                    refine lv_bipush (v := 100) hx hb dX15_shortest_130 (by decide) ?_
                    refine lv_goto (tgt := 150) hx hb dX15_shortest_132 (by decide) ?_
                    refine W.widen (k := 8) (n := 1755328) (by omega) (by omega) ?_
                    exact W.iret (v := 100) hx hb hr (fun t ht9 hW => ⟨⟨100, (), rfl, (Or.inl ⟨mm, hm, rfl, Or.inr ⟨rfl, fun k hk => hl4 k (by have := (show ∀ m, m < 6 → nI m < (4 : Int32) → m < 4 by decide) mm (by omega) b_131; omega)⟩⟩), by rw [ht9]; exact hP.sub [] rfl, va_K.moved hW.alike (hK.sub [] rfl), hD.sub [] (by decide) rfl⟩, hS.F ht9⟩) hS.2.2 dX15_shortest_150
                  · refine lv_iload hx hb dX15_shortest_33 (lv_at hl 0 rfl) ?_
                    refine lv_iconst (v := 5) hx hb dX15_shortest_35 (by decide) ?_
                    refine lv_icmp_ge (tgt := 109) hx hb dX15_shortest_36 (by decide) (fun c0 => absurd c0 (by decide)) (fun _ => ?_)
                    refine lv_aload_n hx hb dX15_shortest_39 rfl (lv_at hl 4 rfl) ?_
                    refine va_get (D := (dC, dI)) (ci := 15) (v := .int 4) (C := RX15) (T := TX15) (N := 163) hx hb ht uX15 hown hK hP 1 rfl rfl 146 (by decide) (ht _ k_11_94) (fun _ h9 => h9) K_125 dX15_shortest_40 ?_
                    refine lv_iload hx hb dX15_shortest_43 (lv_at hl 0 rfl) ?_
                    refine lv_icmp_gt (tgt := 52) hx hb dX15_shortest_45 (by decide) (fun c0 => absurd c0 (by decide)) (fun _ => ?_)
                    refine lv_aload_n hx hb dX15_shortest_48 rfl (lv_at hl 4 rfl) ?_
                    refine ca_v (wr := [(se, .inl (ke, 5, .inl fe))]) (va_runV (As := []) (rest := []) ⟨hx, hb, hml, hown, ht⟩ (r_findLevel l dC dI H.size q F_109 q_25 q_26 q_27 q_28 q_29 lv se c_30 c_31 c_32 c_33 c_34 y_111 y_112 y_113 y_114 y_115 q_110 4 cl y_116 y_117 3 K_118 K_119 K_120 K_121 K_122 K_123 K_124 K_125 K_126 K_127 K_128 K_129 (by decide) rfl hV3 hmL3 htb3 hf3) (cwV 0 ht (gdV k_16_1 k_15_238 k_16_0 ks_234 k_1_17) rfl rfl rfl (by decide +kernel) ⟨Nat.le_of_ble_eq_true rfl, Nat.le_of_ble_eq_true rfl⟩) ⟨pcw_blind, va_recv hK hP (ci := 15) (q0 := 1) rfl rfl, pcw_at hP hD hK [1, 2, 3, 4, 5, 6, 7] [2, 3, 4, 5, 6, 0] (by decide) rfl rfl rfl⟩ rfl rfl hl.1 rfl (lv_room (Nat.le_of_ble_eq_true rfl)) dX15_shortest_49 ⟨Nat.le_of_ble_eq_true rfl, Nat.le_of_ble_eq_true rfl⟩) hP hD hK hS hA [1, 2, 3, 4, 5, 6, 7] [0] rfl rfl (by decide) (by decide) (fun u H locs w_133 hK hP hD hS => ?_)
                    obtain ⟨F_134, q_135, y_136, y_137, y_138, y_139, y_140, y_141, y_142⟩ := u
                    have hK : va_K (dC, dI) cls [(cl, .int), (ke, .int), (c_30, .long), (c_31, .long), (c_32, .int), (c_33, .byte), (c_34, .int)] s := hK
                    have hP : va_P (dC, dI) cls [(se, .inl (ke, 5, .inl fe)), (q, .inr (15, F_134)), (q_25, .inl (c_30, 111152, .inr (.inl y_136))), (q_26, .inl (c_31, 111152, .inr (.inl y_137))), (q_27, .inl (c_32, 111152, .inl y_138)), (q_28, .inl (c_33, 111152, .inl y_139)), (q_29, .inl (c_34, 262144, .inl y_140)), (lv, .inl (cl, 6, .inl y_141))] H := hP
                    have hD : va_D A [(se, .inl (ke, 5, .inl fe)), (q, .inr (15, F_134)), (q_25, .inl (c_30, 111152, .inr (.inl y_136))), (q_26, .inl (c_31, 111152, .inr (.inl y_137))), (q_27, .inl (c_32, 111152, .inl y_138)), (q_28, .inl (c_33, 111152, .inl y_139)), (q_29, .inl (c_34, 262144, .inl y_140)), (lv, .inl (cl, 6, .inl y_141))] := hD
                    obtain ⟨w_133, K_143, K_144, K_145, K_146, K_147, K_148, K_149, K_150, K_151, K_152, K_153, K_154⟩ := w_133
                    obtain ⟨a1, a2, a3, a4, a5, a6⟩ := w_133
                    have hV4 : LV 5 y_142 y_136 y_137 y_138 := a1
                    have hmL4 : q_135 = y_142 5 := a2
                    have htb4 := a3
                    have hf4 : ∀ j, j ≤ 5 → y_141 j = nI (y_142 j) := a4
                    have hs4 : ∀ j, j < y_142 4 → y_136 j ≠ goal := by
                      intro j hj
                      have h9 : y_142 4 = y_117 4 := a5 4 (Nat.le_refl _)
                      rw [h9] at hj
                      rw [a6 j hj]
                      exact hno3 j hj
                    refine lv_aload_n hx hb dX15_shortest_52 rfl (lv_at hl 4 rfl) ?_
                    refine va_get (D := (dC, dI)) (ci := 15) (v := .ref lv) (C := RX15) (T := TX15) (N := 163) hx hb ht uX15 hown hK hP 1 rfl rfl 147 (by decide) (ht _ k_11_95) (fun _ h9 => h9) K_151 dX15_shortest_53 ?_
                    refine lv_iload hx hb dX15_shortest_56 (lv_at hl 0 rfl) ?_
                    refine va_iald hx hb hK hP 7 0 rfl rfl (by unfold vp_in; decide) dX15_shortest_58 ?_
                    refine tk_i (y := y_141 4) (by first | rfl | decide) ?_
                    refine tk_i (y := (nI (y_142 4))) (hf4 4 (by decide)) ?_
                    refine lv_istore (lv' := [(5, .int (nI (y_142 4))), (4, .int 4), (3, .int (nI mm)), (1, .long goal), (0, .ref q)]) hx hb dX15_shortest_59 hl (by decide) rfl (fun ls hl => ?_)
                    have hbg4 := (LV_big hV4 (by decide) 5 (by decide)).1
                    refine lp_rule (fun H locs ls => W p l e _ s m _ below meth c H locs _ _ _ (F0 m 61 ls [])) (fun (z : Nat) H locs ls => match z with | k => va_P (dC, dI) cls [(se, .inl (ke, 5, .inl fe)), (q, .inr (15, F_134)), (q_25, .inl (c_30, 111152, .inr (.inl y_136))), (q_26, .inl (c_31, 111152, .inr (.inl y_137))), (q_27, .inl (c_32, 111152, .inl y_138)), (q_28, .inl (c_33, 111152, .inl y_139)), (q_29, .inl (c_34, 262144, .inl y_140)), (lv, .inl (cl, 6, .inl y_141))] H ∧ va_D A [(se, .inl (ke, 5, .inl fe)), (q, .inr (15, F_134)), (q_25, .inl (c_30, 111152, .inr (.inl y_136))), (q_26, .inl (c_31, 111152, .inr (.inl y_137))), (q_27, .inl (c_32, 111152, .inl y_138)), (q_28, .inl (c_33, 111152, .inl y_139)), (q_29, .inl (c_34, 262144, .inl y_140)), (lv, .inl (cl, 6, .inl y_141))] ∧ va_S A s.heap H locs ∧ lv_has ls 6 [(5, .int (nI k)), (4, .int 4), (3, .int (nI mm)), (1, .long goal), (0, .ref q)] ∧ True ∧ y_142 4 ≤ k ∧ k ≤ y_142 5 ∧ ∀ j, j < k → y_136 j ≠ goal) (fun (z : Nat) => match z with | k => y_142 5 - k) ?_ ((y_142 4)) H locs ls ⟨hP, hD, hS, lv_sub hl [0, 1, 2, 3, 4] rfl, trivial, (Nat.le_refl _), (hV4.2.1 4 (by decide)).1, hs4⟩
                    intro z H locs ls hI ih61
                    obtain ⟨k, rfl⟩ : ∃ y, y = z := ⟨_, rfl⟩
                    obtain ⟨hP, hD, hS, hl, -, hk1, hk2, hnk⟩ := hI
                    have hP : va_P (dC, dI) cls [(se, .inl (ke, 5, .inl fe)), (q, .inr (15, F_134)), (q_25, .inl (c_30, 111152, .inr (.inl y_136))), (q_26, .inl (c_31, 111152, .inr (.inl y_137))), (q_27, .inl (c_32, 111152, .inl y_138)), (q_28, .inl (c_33, 111152, .inl y_139)), (q_29, .inl (c_34, 262144, .inl y_140)), (lv, .inl (cl, 6, .inl y_141))] H := hP
                    have hD : va_D A [(se, .inl (ke, 5, .inl fe)), (q, .inr (15, F_134)), (q_25, .inl (c_30, 111152, .inr (.inl y_136))), (q_26, .inl (c_31, 111152, .inr (.inl y_137))), (q_27, .inl (c_32, 111152, .inl y_138)), (q_28, .inl (c_33, 111152, .inl y_139)), (q_29, .inl (c_34, 262144, .inl y_140)), (lv, .inl (cl, 6, .inl y_141))] := hD
                    have hl : lv_has ls 6 [(5, .int (nI k)), (4, .int 4), (3, .int (nI mm)), (1, .long goal), (0, .ref q)] := hl
                    refine lv_iload hx hb dX15_shortest_61 (lv_at hl 0 rfl) ?_
                    refine lv_aload_n hx hb dX15_shortest_63 rfl (lv_at hl 4 rfl) ?_
                    refine va_get (D := (dC, dI)) (ci := 15) (v := .ref lv) (C := RX15) (T := TX15) (N := 163) hx hb ht uX15 hown hK hP 1 rfl rfl 147 (by decide) (ht _ k_11_95) (fun _ h9 => h9) K_151 dX15_shortest_64 ?_
                    refine lv_iload hx hb dX15_shortest_67 (lv_at hl 1 rfl) ?_
                    refine lv_iconst (v := 1) hx hb dX15_shortest_69 (by decide) ?_
                    refine lv_iadd hx hb dX15_shortest_70 ?_
                    refine tk_i (y := 5) (by decide) ?_
                    refine va_iald hx hb hK hP 7 0 rfl rfl (by unfold vp_in; decide) dX15_shortest_71 ?_
                    refine tk_i (y := y_141 5) (by first | rfl | decide) ?_
                    refine tk_i (y := (nI (y_142 5))) (hf4 5 (by decide)) ?_
                    refine lv_icmp_ge (tgt := 103) hx hb dX15_shortest_72 (by decide) (fun b_155 => ?_) (fun b_155 => ?_)
                    · have hke : k = y_142 5 := ge_of hk2 (by omega) b_155
                      have hno4 := hnk
                      rw [hke] at hno4
                      have hl5 : ∀ k, k < 5 → ¬ Gn goal k := no_step hl4 (LV_no hV4 (by decide) hno4)
                      refine lv_iinc (v := 5) (lv' := [(4, .int 5), (5, .int (nI k)), (3, .int (nI mm)), (1, .long goal), (0, .ref q)]) hx hb dX15_shortest_103 hl (k := 1) rfl (by decide) (by decide) rfl (fun ls hl => ?_)
                      refine lv_goto (tgt := 27) hx hb dX15_shortest_106 (by decide) ?_
                      refine lv_iload hx hb dX15_shortest_27 (lv_at hl 0 rfl) ?_
                      refine lv_iload_n hx hb dX15_shortest_29 rfl (lv_at hl 2 rfl) ?_
                      refine lv_icmp_gt (tgt := 109) hx hb dX15_shortest_30 (by decide) (fun b_156 => ?_) (fun b_156 => ?_)
                      · refine lv_iload_n hx hb dX15_shortest_109 rfl (lv_at hl 2 rfl) ?_
                        refine lv_iconst (v := 5) hx hb dX15_shortest_110 (by decide) ?_
                        refine lv_icmp_ne (tgt := 122) hx hb dX15_shortest_111 (by decide) (fun _ => ?_) (fun c0 => absurd c0 (by have z0 := Int32.le_iff_toInt_le.mp (Int32.not_lt.mp hm0); have z1 := Int32.le_iff_toInt_le.mp hm5; have z2 := Int32.le_iff_toInt_le.mp (Int32.not_lt.mp b_56); have z3 := Int32.le_iff_toInt_le.mp (Int32.not_lt.mp b_81); have z4 := Int32.le_iff_toInt_le.mp (Int32.not_lt.mp b_106); have z5 := Int32.le_iff_toInt_le.mp (Int32.not_lt.mp b_131); have z6 := Int32.lt_iff_toInt_lt.mp b_156; have y0 : (0 : Int32).toInt = 0 := (by decide); have y1 : (1 : Int32).toInt = 1 := (by decide); have y2 : (2 : Int32).toInt = 2 := (by decide); have y3 : (3 : Int32).toInt = 3 := (by decide); have y4 : (4 : Int32).toInt = 4 := (by decide); have y5 : (5 : Int32).toInt = 5 := (by decide); exact fun h => absurd (Int32.toInt_inj.mpr h) (by omega)))
                        refine lv_iconst (v := (-1)) hx hb dX15_shortest_122 (by decide) ?_
                        refine lv_istore (lv' := [(4, .int (-1)), (5, .int (nI k)), (3, .int (nI mm)), (1, .long goal), (0, .ref q)]) hx hb dX15_shortest_123 hl (by decide) rfl (fun ls hl => ?_)
                        refine lv_iload hx hb dX15_shortest_125 (lv_at hl 0 rfl) ?_
                        refine lv_if_ge (tgt := 135) hx hb dX15_shortest_127 (by decide) (fun c0 => absurd c0 (by decide)) (fun _ => ?_)
                        refine lv_bipush (v := 100) hx hb dX15_shortest_130 (by decide) ?_
                        refine lv_goto (tgt := 150) hx hb dX15_shortest_132 (by decide) ?_
                        refine W.widen (k := 8) (n := 1755328) (by omega) (by omega) ?_
                        exact W.iret (v := 100) hx hb hr (fun t ht9 hW => ⟨⟨100, (), rfl, (Or.inl ⟨mm, hm, rfl, Or.inr ⟨rfl, fun k hk => hl5 k (by have := (show ∀ m, m < 6 → nI m < (5 : Int32) → m < 5 by decide) mm (by omega) b_156; omega)⟩⟩), by rw [ht9]; exact hP.sub [] rfl, va_K.moved hW.alike (hK.sub [] rfl), hD.sub [] (by decide) rfl⟩, hS.F ht9⟩) hS.2.2 dX15_shortest_150
                      · refine lv_iload hx hb dX15_shortest_33 (lv_at hl 0 rfl) ?_
                        refine lv_iconst (v := 5) hx hb dX15_shortest_35 (by decide) ?_
                        refine lv_icmp_ge (tgt := 109) hx hb dX15_shortest_36 (by decide) (fun _ => ?_) (fun c0 => absurd c0 (by decide))
                        refine lv_iload_n hx hb dX15_shortest_109 rfl (lv_at hl 2 rfl) ?_
                        refine lv_iconst (v := 5) hx hb dX15_shortest_110 (by decide) ?_
                        refine lv_icmp_ne (tgt := 122) hx hb dX15_shortest_111 (by decide) (fun c0 => absurd c0 (by have z0 := Int32.le_iff_toInt_le.mp (Int32.not_lt.mp hm0); have z1 := Int32.le_iff_toInt_le.mp hm5; have z2 := Int32.le_iff_toInt_le.mp (Int32.not_lt.mp b_56); have z3 := Int32.le_iff_toInt_le.mp (Int32.not_lt.mp b_81); have z4 := Int32.le_iff_toInt_le.mp (Int32.not_lt.mp b_106); have z5 := Int32.le_iff_toInt_le.mp (Int32.not_lt.mp b_131); have z6 := Int32.le_iff_toInt_le.mp (Int32.not_lt.mp b_156); have y0 : (0 : Int32).toInt = 0 := (by decide); have y1 : (1 : Int32).toInt = 1 := (by decide); have y2 : (2 : Int32).toInt = 2 := (by decide); have y3 : (3 : Int32).toInt = 3 := (by decide); have y4 : (4 : Int32).toInt = 4 := (by decide); have y5 : (5 : Int32).toInt = 5 := (by decide); exact Classical.not_not.mpr (Int32.toInt_inj.mp (by omega)))) (fun _ => ?_)
                        refine lv_aload_n hx hb dX15_shortest_114 rfl (lv_at hl 4 rfl) ?_
                        refine lv_lload_n hx hb dX15_shortest_115 rfl (lv_at hl 3 rfl) ?_
                        refine ca_i (wr := [(se, .inl (ke, 5, .inl fe)), (q_27, .inl (c_32, 111152, .inl y_138)), (q_28, .inl (c_33, 111152, .inl y_139)), (q_29, .inl (c_34, 262144, .inl y_140))]) (va_runV (As := [.long goal]) (rest := []) ⟨hx, hb, hml, hown, ht⟩ (r_lastOf l dC dI H.size q F_134 q_25 q_26 q_27 q_28 lv se c_30 c_31 cl y_141 (y_142 4) (y_142 5) y_136 y_137 goal K_143 K_144 K_145 K_146 K_147 K_148 K_151 K_153 K_154 (hf4 4 (by decide)) (hf4 5 (by decide)) (hV4.2.1 4 (by decide)).1 (LV_big hV4 (by decide) 5 (by decide)).1) (cwV 1 ht (gdV k_16_32 k_16_29 k_16_31 ks_237 k_1_17) rfl rfl rfl (by decide +kernel) ⟨Nat.le_of_ble_eq_true rfl, Nat.le_of_ble_eq_true rfl⟩) ⟨pcw_blind, va_recv hK hP (ci := 15) (q0 := 1) rfl rfl, pcw_at hP hD hK [1, 2, 3, 7] [2, 3, 0] (by decide) rfl rfl rfl⟩ rfl rfl hl.1 rfl (lv_room (Nat.le_of_ble_eq_true rfl)) dX15_shortest_116 ⟨Nat.le_of_ble_eq_true rfl, Nat.le_of_ble_eq_true rfl⟩) hP hD hK hS hA [1, 2, 3, 7] [0, 4, 5, 6] rfl rfl (by decide) (by decide) (fun r_157 u H locs w_158 hK hP hD hS => ?_)
                        obtain ⟨F_159, rfl⟩ : ∃ z, z = u := ⟨_, rfl⟩
                        have hK : va_K (dC, dI) cls [(cl, .int), (ke, .int), (c_30, .long), (c_31, .long), (c_32, .int), (c_33, .byte), (c_34, .int)] s := hK
                        have hP : va_P (dC, dI) cls [(se, .inl (ke, 5, .inl fe)), (q_27, .inl (c_32, 111152, .inl y_138)), (q_28, .inl (c_33, 111152, .inl y_139)), (q_29, .inl (c_34, 262144, .inl y_140)), (q, .inr (15, F_159))] H := hP
                        have hD : va_D A [(se, .inl (ke, 5, .inl fe)), (q_27, .inl (c_32, 111152, .inl y_138)), (q_28, .inl (c_33, 111152, .inl y_139)), (q_29, .inl (c_34, 262144, .inl y_140)), (q, .inr (15, F_159))] := hD
                        refine W.widen (k := 8) (n := 1755328) (by omega) (by omega) ?_
                        obtain ⟨w_158, K_160, K_161, K_162, K_163⟩ := w_158
                        rcases w_158 with ⟨k6, x6, rfl, c1, c2, c3, c4⟩ | ⟨rfl, hn5⟩
                        · refine lv_goto (tgt := 123) hx hb dX15_shortest_119 (by decide) ?_
                          refine lv_istore (lv' := [(4, .int (nI (32 * k6 + x6))), (5, .int (nI k)), (3, .int (nI mm)), (1, .long goal), (0, .ref q)]) hx hb dX15_shortest_123 hl (by decide) rfl (fun ls hl => ?_)
                          refine lv_iload hx hb dX15_shortest_125 (lv_at hl 0 rfl) ?_
                          refine lv_if_ge (tgt := 135) hx hb dX15_shortest_127 (by decide) (fun _ => ?_) (fun c0 => absurd ((nI_pos' (by omega))) c0)
                          refine lv_aload_n hx hb dX15_shortest_135 rfl (lv_at hl 4 rfl) ?_
                          refine lv_iconst (v := 5) hx hb dX15_shortest_136 (by decide) ?_
                          refine lv_iload hx hb dX15_shortest_137 (lv_at hl 0 rfl) ?_
                          refine lv_bipush (v := 32) hx hb dX15_shortest_139 (by decide) ?_
                          refine lv_idiv hx hb dX15_shortest_141 (by decide) ?_
                          refine tk_i (y := (nI k6)) (d32 (by omega) (by omega)) ?_
                          refine lv_iload hx hb dX15_shortest_142 (lv_at hl 0 rfl) ?_
                          refine lv_bipush (v := 32) hx hb dX15_shortest_144 (by decide) ?_
                          refine lv_irem hx hb dX15_shortest_146 (by decide) ?_
                          refine tk_i (y := (nI x6)) (r32 (by omega) (by omega)) ?_
                          refine ca_i (wr := [(q_29, .inl (c_34, 262144, .inl y_140))]) (va_runV (As := [.int 5, .int (nI k6), .int (nI x6)]) (rest := []) ⟨hx, hb, hml, hown, ht⟩ (r_tellRow_5 l dC dI H.size q F_159 q_27 q_28 se c_32 c_33 ke y_138 y_139 fe k6 (nI x6) y_142 y_136 y_137 K_160 K_161 K_162 K_163 hV4 c1 c2) (cwV 3 ht (gdV k_16_28 k_16_25 k_16_27 ks_236 k_1_17) rfl rfl rfl (by decide +kernel) ⟨Nat.le_of_ble_eq_true rfl, Nat.le_of_ble_eq_true rfl⟩) ⟨pcw_blind, va_recv hK hP (ci := 15) (q0 := 4) rfl rfl, pcw_at hP hD hK [4, 1, 2, 0] [4, 5, 1] (by decide) rfl rfl rfl⟩ rfl rfl hl.1 rfl (lv_room (Nat.le_of_ble_eq_true rfl)) dX15_shortest_147 ⟨Nat.le_of_ble_eq_true rfl, Nat.le_of_ble_eq_true rfl⟩) hP hD hK hS hA [4, 1, 2, 0] [3] rfl rfl (by decide) (by decide) (fun r_164 u H locs w_165 hK hP hD hS => ?_)
                          have hK : va_K (dC, dI) cls [(cl, .int), (ke, .int), (c_30, .long), (c_31, .long), (c_32, .int), (c_33, .byte), (c_34, .int)] s := hK
                          have hP : va_P (dC, dI) cls [(q_29, .inl (c_34, 262144, .inl y_140))] H := hP
                          have hD : va_D A [(q_29, .inl (c_34, 262144, .inl y_140))] := hD
                          obtain rfl : r_164 = 5 := w_165
                          exact W.iret (v := 5) hx hb hr (fun t ht9 hW => ⟨⟨5, (), rfl, (Or.inl ⟨mm, hm, rfl, Or.inl ⟨5, (show ∀ m, m < 6 → ¬ nI m < (5 : Int32) → 5 ≤ m by decide) mm (by omega) b_156, rfl, LV_last_yes hV4 c1 c2 c3 c4, hl5⟩⟩), by rw [ht9]; exact hP.sub [] rfl, va_K.moved hW.alike (hK.sub [] rfl), hD.sub [] (by decide) rfl⟩, hS.F ht9⟩) hS.2.2 dX15_shortest_150
                        · have hl6 : ∀ k, k < 6 → ¬ Gn goal k := no_step hl5 (LV_last_no hV4 hno4 hn5)
                          refine lv_goto (tgt := 123) hx hb dX15_shortest_119 (by decide) ?_
                          refine lv_istore (lv' := [(4, .int (-1)), (5, .int (nI k)), (3, .int (nI mm)), (1, .long goal), (0, .ref q)]) hx hb dX15_shortest_123 hl (by decide) rfl (fun ls hl => ?_)
                          refine lv_iload hx hb dX15_shortest_125 (lv_at hl 0 rfl) ?_
                          refine lv_if_ge (tgt := 135) hx hb dX15_shortest_127 (by decide) (fun c0 => absurd c0 (by decide)) (fun _ => ?_)
                          refine lv_bipush (v := 100) hx hb dX15_shortest_130 (by decide) ?_
                          refine lv_goto (tgt := 150) hx hb dX15_shortest_132 (by decide) ?_
                          exact W.iret (v := 100) hx hb hr (fun t ht9 hW => ⟨⟨100, (), rfl, (Or.inl ⟨mm, hm, rfl, Or.inr ⟨rfl, fun k hk => hl6 k (by omega)⟩⟩), by rw [ht9]; exact hP.sub [] rfl, va_K.moved hW.alike (hK.sub [] rfl), hD.sub [] (by decide) rfl⟩, hS.F ht9⟩) hS.2.2 dX15_shortest_150
                    · have hkl : k < y_142 5 := nI_lej (by omega) (by omega) b_155
                      refine lv_aload_n hx hb dX15_shortest_75 rfl (lv_at hl 4 rfl) ?_
                      refine va_get (D := (dC, dI)) (ci := 15) (v := .ref q_25) (C := RX15) (T := TX15) (N := 163) hx hb ht uX15 hown hK hP 1 rfl rfl 141 (by decide) (ht _ k_11_89) (fun _ h9 => h9) K_145 dX15_shortest_76 ?_
                      refine lv_iload hx hb dX15_shortest_79 (lv_at hl 0 rfl) ?_
                      refine va_lald hx hb hK hP 2 2 rfl rfl (vp_in_nI (by omega) (by decide)) dX15_shortest_81 ?_
                      refine tk_l (y := (y_136 k)) (by rw [nI_clamp (by omega)]) ?_
                      refine lv_lload_n hx hb dX15_shortest_82 rfl (lv_at hl 3 rfl) ?_
                      refine W.lcmp hx hb dX15_shortest_83 ?_
                      refine lv_if_ne (tgt := 97) hx hb dX15_shortest_84 (by decide) (fun b_166 => ?_) (fun b_166 => ?_)
                      · refine lv_iinc (v := (nI (k + 1))) (lv' := [(5, .int (nI (k + 1))), (4, .int 4), (3, .int (nI mm)), (1, .long goal), (0, .ref q)]) hx hb dX15_shortest_97 hl (k := 0) rfl (nI_1 k) (by decide) rfl (fun ls hl => ?_)
                        refine lv_goto (tgt := 61) hx hb dX15_shortest_100 (by decide) ?_
                        exact ih61 (k + 1) H locs ls (show y_142 5 - (k + 1) < y_142 5 - k by omega) ⟨hP.sub [0, 1, 2, 3, 4, 5, 6, 7] rfl, hD.sub [0, 1, 2, 3, 4, 5, 6, 7] (by decide) rfl, hS, lv_sub hl [0, 1, 2, 3, 4] rfl, trivial, (by omega), (by omega), (all_step (P := fun j => y_136 j ≠ goal) hnk (fun h9 => b_166 ((lg_cmp_eq _ _).mpr h9)))⟩
                      · refine lv_aload_n hx hb dX15_shortest_87 rfl (lv_at hl 4 rfl) ?_
                        refine lv_iload hx hb dX15_shortest_88 (lv_at hl 1 rfl) ?_
                        refine lv_iload hx hb dX15_shortest_90 (lv_at hl 0 rfl) ?_
                        refine lv_iconst (v := 0) hx hb dX15_shortest_92 (by decide) ?_
                        refine ca_i (wr := [(q_25, .inl (c_30, 111152, .inr (.inl y_136))), (q_26, .inl (c_31, 111152, .inr (.inl y_137))), (q_29, .inl (c_34, 262144, .inl y_140)), (lv, .inl (cl, 6, .inl y_141))]) (va_runV (As := [.int 4, .int (nI k), .int 0]) (rest := []) ⟨hx, hb, hml, hown, ht⟩ (r_tellRow_4 l dC dI H.size q F_134 q_27 q_28 se c_32 c_33 ke y_138 y_139 fe k 0 y_142 y_136 y_137 K_143 K_144 K_147 K_148 hV4 hk1 hkl) (cwV 3 ht (gdV k_16_28 k_16_25 k_16_27 ks_236 k_1_17) rfl rfl rfl (by decide +kernel) ⟨Nat.le_of_ble_eq_true rfl, Nat.le_of_ble_eq_true rfl⟩) ⟨pcw_blind, va_recv hK hP (ci := 15) (q0 := 1) rfl rfl, pcw_at hP hD hK [1, 4, 5, 0] [4, 5, 1] (by decide) rfl rfl rfl⟩ rfl rfl hl.1 rfl (lv_room (Nat.le_of_ble_eq_true rfl)) dX15_shortest_93 ⟨Nat.le_of_ble_eq_true rfl, Nat.le_of_ble_eq_true rfl⟩) hP hD hK hS hA [1, 4, 5, 0] [2, 3, 6, 7] rfl rfl (by decide) (by decide) (fun r_167 u H locs w_168 hK hP hD hS => ?_)
                        have hK : va_K (dC, dI) cls [(cl, .int), (ke, .int), (c_30, .long), (c_31, .long), (c_32, .int), (c_33, .byte), (c_34, .int)] s := hK
                        have hP : va_P (dC, dI) cls [(q_25, .inl (c_30, 111152, .inr (.inl y_136))), (q_26, .inl (c_31, 111152, .inr (.inl y_137))), (q_29, .inl (c_34, 262144, .inl y_140)), (lv, .inl (cl, 6, .inl y_141))] H := hP
                        have hD : va_D A [(q_25, .inl (c_30, 111152, .inr (.inl y_136))), (q_26, .inl (c_31, 111152, .inr (.inl y_137))), (q_29, .inl (c_34, 262144, .inl y_140)), (lv, .inl (cl, 6, .inl y_141))] := hD
                        obtain rfl : r_167 = 4 := w_168
                        refine W.widen (k := 8) (n := 1755328) (by omega) (by omega) ?_
                        exact W.iret (v := 4) hx hb hr (fun t ht9 hW => ⟨⟨4, (), rfl, (Or.inl ⟨mm, hm, rfl, Or.inl ⟨4, (show ∀ m, m < 6 → ¬ nI m < (4 : Int32) → 4 ≤ m by decide) mm (by omega) b_131, rfl, LV_yes hV4 (by decide) hk1 hkl ((lg_cmp_eq _ _).mp b_166), hl4⟩⟩), by rw [ht9]; exact hP.sub [] rfl, va_K.moved hW.alike (hK.sub [] rfl), hD.sub [] (by decide) rfl⟩, hS.F ht9⟩) hS.2.2 dX15_shortest_96
                · have hkl : k < y_117 4 := nI_lej (by omega) (by omega) b_130
                  refine lv_aload_n hx hb dX15_shortest_75 rfl (lv_at hl 4 rfl) ?_
                  refine va_get (D := (dC, dI)) (ci := 15) (v := .ref q_25) (C := RX15) (T := TX15) (N := 163) hx hb ht uX15 hown hK hP 1 rfl rfl 141 (by decide) (ht _ k_11_89) (fun _ h9 => h9) K_120 dX15_shortest_76 ?_
                  refine lv_iload hx hb dX15_shortest_79 (lv_at hl 0 rfl) ?_
                  refine va_lald hx hb hK hP 2 2 rfl rfl (vp_in_nI (by omega) (by decide)) dX15_shortest_81 ?_
                  refine tk_l (y := (y_111 k)) (by rw [nI_clamp (by omega)]) ?_
                  refine lv_lload_n hx hb dX15_shortest_82 rfl (lv_at hl 3 rfl) ?_
                  refine W.lcmp hx hb dX15_shortest_83 ?_
                  refine lv_if_ne (tgt := 97) hx hb dX15_shortest_84 (by decide) (fun b_169 => ?_) (fun b_169 => ?_)
                  · refine lv_iinc (v := (nI (k + 1))) (lv' := [(5, .int (nI (k + 1))), (4, .int 3), (3, .int (nI mm)), (1, .long goal), (0, .ref q)]) hx hb dX15_shortest_97 hl (k := 0) rfl (nI_1 k) (by decide) rfl (fun ls hl => ?_)
                    refine lv_goto (tgt := 61) hx hb dX15_shortest_100 (by decide) ?_
                    exact ih61 (k + 1) H locs ls (show y_117 4 - (k + 1) < y_117 4 - k by omega) ⟨hP.sub [0, 1, 2, 3, 4, 5, 6, 7] rfl, hD.sub [0, 1, 2, 3, 4, 5, 6, 7] (by decide) rfl, hS, lv_sub hl [0, 1, 2, 3, 4] rfl, trivial, (by omega), (by omega), (all_step (P := fun j => y_111 j ≠ goal) hnk (fun h9 => b_169 ((lg_cmp_eq _ _).mpr h9)))⟩
                  · refine lv_aload_n hx hb dX15_shortest_87 rfl (lv_at hl 4 rfl) ?_
                    refine lv_iload hx hb dX15_shortest_88 (lv_at hl 1 rfl) ?_
                    refine lv_iload hx hb dX15_shortest_90 (lv_at hl 0 rfl) ?_
                    refine lv_iconst (v := 0) hx hb dX15_shortest_92 (by decide) ?_
                    refine ca_i (wr := [(q_25, .inl (c_30, 111152, .inr (.inl y_111))), (q_26, .inl (c_31, 111152, .inr (.inl y_112))), (q_29, .inl (c_34, 262144, .inl y_115)), (lv, .inl (cl, 6, .inl y_116))]) (va_runV (As := [.int 3, .int (nI k), .int 0]) (rest := []) ⟨hx, hb, hml, hown, ht⟩ (r_tellRow_3 l dC dI H.size q F_109 q_27 q_28 se c_32 c_33 ke y_113 y_114 fe k 0 y_117 y_111 y_112 K_118 K_119 K_122 K_123 hV3 hk1 hkl) (cwV 3 ht (gdV k_16_28 k_16_25 k_16_27 ks_236 k_1_17) rfl rfl rfl (by decide +kernel) ⟨Nat.le_of_ble_eq_true rfl, Nat.le_of_ble_eq_true rfl⟩) ⟨pcw_blind, va_recv hK hP (ci := 15) (q0 := 1) rfl rfl, pcw_at hP hD hK [1, 4, 5, 0] [4, 5, 1] (by decide) rfl rfl rfl⟩ rfl rfl hl.1 rfl (lv_room (Nat.le_of_ble_eq_true rfl)) dX15_shortest_93 ⟨Nat.le_of_ble_eq_true rfl, Nat.le_of_ble_eq_true rfl⟩) hP hD hK hS hA [1, 4, 5, 0] [2, 3, 6, 7] rfl rfl (by decide) (by decide) (fun r_170 u H locs w_171 hK hP hD hS => ?_)
                    have hK : va_K (dC, dI) cls [(cl, .int), (ke, .int), (c_30, .long), (c_31, .long), (c_32, .int), (c_33, .byte), (c_34, .int)] s := hK
                    have hP : va_P (dC, dI) cls [(q_25, .inl (c_30, 111152, .inr (.inl y_111))), (q_26, .inl (c_31, 111152, .inr (.inl y_112))), (q_29, .inl (c_34, 262144, .inl y_115)), (lv, .inl (cl, 6, .inl y_116))] H := hP
                    have hD : va_D A [(q_25, .inl (c_30, 111152, .inr (.inl y_111))), (q_26, .inl (c_31, 111152, .inr (.inl y_112))), (q_29, .inl (c_34, 262144, .inl y_115)), (lv, .inl (cl, 6, .inl y_116))] := hD
                    obtain rfl : r_170 = 3 := w_171
                    refine W.widen (k := 8) (n := 1755328) (by omega) (by omega) ?_
                    exact W.iret (v := 3) hx hb hr (fun t ht9 hW => ⟨⟨3, (), rfl, (Or.inl ⟨mm, hm, rfl, Or.inl ⟨3, (show ∀ m, m < 6 → ¬ nI m < (3 : Int32) → 3 ≤ m by decide) mm (by omega) b_106, rfl, LV_yes hV3 (by decide) hk1 hkl ((lg_cmp_eq _ _).mp b_169), hl3⟩⟩), by rw [ht9]; exact hP.sub [] rfl, va_K.moved hW.alike (hK.sub [] rfl), hD.sub [] (by decide) rfl⟩, hS.F ht9⟩) hS.2.2 dX15_shortest_96
            · have hkl : k < y_92 3 := nI_lej (by omega) (by omega) b_105
              refine lv_aload_n hx hb dX15_shortest_75 rfl (lv_at hl 4 rfl) ?_
              refine va_get (D := (dC, dI)) (ci := 15) (v := .ref q_25) (C := RX15) (T := TX15) (N := 163) hx hb ht uX15 hown hK hP 1 rfl rfl 141 (by decide) (ht _ k_11_89) (fun _ h9 => h9) K_95 dX15_shortest_76 ?_
              refine lv_iload hx hb dX15_shortest_79 (lv_at hl 0 rfl) ?_
              refine va_lald hx hb hK hP 2 2 rfl rfl (vp_in_nI (by omega) (by decide)) dX15_shortest_81 ?_
              refine tk_l (y := (y_86 k)) (by rw [nI_clamp (by omega)]) ?_
              refine lv_lload_n hx hb dX15_shortest_82 rfl (lv_at hl 3 rfl) ?_
              refine W.lcmp hx hb dX15_shortest_83 ?_
              refine lv_if_ne (tgt := 97) hx hb dX15_shortest_84 (by decide) (fun b_172 => ?_) (fun b_172 => ?_)
              · refine lv_iinc (v := (nI (k + 1))) (lv' := [(5, .int (nI (k + 1))), (4, .int 2), (3, .int (nI mm)), (1, .long goal), (0, .ref q)]) hx hb dX15_shortest_97 hl (k := 0) rfl (nI_1 k) (by decide) rfl (fun ls hl => ?_)
                refine lv_goto (tgt := 61) hx hb dX15_shortest_100 (by decide) ?_
                exact ih61 (k + 1) H locs ls (show y_92 3 - (k + 1) < y_92 3 - k by omega) ⟨hP.sub [0, 1, 2, 3, 4, 5, 6, 7] rfl, hD.sub [0, 1, 2, 3, 4, 5, 6, 7] (by decide) rfl, hS, lv_sub hl [0, 1, 2, 3, 4] rfl, trivial, (by omega), (by omega), (all_step (P := fun j => y_86 j ≠ goal) hnk (fun h9 => b_172 ((lg_cmp_eq _ _).mpr h9)))⟩
              · refine lv_aload_n hx hb dX15_shortest_87 rfl (lv_at hl 4 rfl) ?_
                refine lv_iload hx hb dX15_shortest_88 (lv_at hl 1 rfl) ?_
                refine lv_iload hx hb dX15_shortest_90 (lv_at hl 0 rfl) ?_
                refine lv_iconst (v := 0) hx hb dX15_shortest_92 (by decide) ?_
                refine ca_i (wr := [(q_25, .inl (c_30, 111152, .inr (.inl y_86))), (q_26, .inl (c_31, 111152, .inr (.inl y_87))), (q_29, .inl (c_34, 262144, .inl y_90)), (lv, .inl (cl, 6, .inl y_91))]) (va_runV (As := [.int 2, .int (nI k), .int 0]) (rest := []) ⟨hx, hb, hml, hown, ht⟩ (r_tellRow_2 l dC dI H.size q F_84 q_27 q_28 se c_32 c_33 ke y_88 y_89 fe k 0 y_92 y_86 y_87 K_93 K_94 K_97 K_98 hV2 hk1 hkl) (cwV 3 ht (gdV k_16_28 k_16_25 k_16_27 ks_236 k_1_17) rfl rfl rfl (by decide +kernel) ⟨Nat.le_of_ble_eq_true rfl, Nat.le_of_ble_eq_true rfl⟩) ⟨pcw_blind, va_recv hK hP (ci := 15) (q0 := 1) rfl rfl, pcw_at hP hD hK [1, 4, 5, 0] [4, 5, 1] (by decide) rfl rfl rfl⟩ rfl rfl hl.1 rfl (lv_room (Nat.le_of_ble_eq_true rfl)) dX15_shortest_93 ⟨Nat.le_of_ble_eq_true rfl, Nat.le_of_ble_eq_true rfl⟩) hP hD hK hS hA [1, 4, 5, 0] [2, 3, 6, 7] rfl rfl (by decide) (by decide) (fun r_173 u H locs w_174 hK hP hD hS => ?_)
                have hK : va_K (dC, dI) cls [(cl, .int), (ke, .int), (c_30, .long), (c_31, .long), (c_32, .int), (c_33, .byte), (c_34, .int)] s := hK
                have hP : va_P (dC, dI) cls [(q_25, .inl (c_30, 111152, .inr (.inl y_86))), (q_26, .inl (c_31, 111152, .inr (.inl y_87))), (q_29, .inl (c_34, 262144, .inl y_90)), (lv, .inl (cl, 6, .inl y_91))] H := hP
                have hD : va_D A [(q_25, .inl (c_30, 111152, .inr (.inl y_86))), (q_26, .inl (c_31, 111152, .inr (.inl y_87))), (q_29, .inl (c_34, 262144, .inl y_90)), (lv, .inl (cl, 6, .inl y_91))] := hD
                obtain rfl : r_173 = 2 := w_174
                refine W.widen (k := 8) (n := 1755328) (by omega) (by omega) ?_
                exact W.iret (v := 2) hx hb hr (fun t ht9 hW => ⟨⟨2, (), rfl, (Or.inl ⟨mm, hm, rfl, Or.inl ⟨2, (show ∀ m, m < 6 → ¬ nI m < (2 : Int32) → 2 ≤ m by decide) mm (by omega) b_81, rfl, LV_yes hV2 (by decide) hk1 hkl ((lg_cmp_eq _ _).mp b_172), hl2⟩⟩), by rw [ht9]; exact hP.sub [] rfl, va_K.moved hW.alike (hK.sub [] rfl), hD.sub [] (by decide) rfl⟩, hS.F ht9⟩) hS.2.2 dX15_shortest_96
        · have hkl : k < y_67 2 := nI_lej (by omega) (by omega) b_80
          refine lv_aload_n hx hb dX15_shortest_75 rfl (lv_at hl 4 rfl) ?_
          refine va_get (D := (dC, dI)) (ci := 15) (v := .ref q_25) (C := RX15) (T := TX15) (N := 163) hx hb ht uX15 hown hK hP 1 rfl rfl 141 (by decide) (ht _ k_11_89) (fun _ h9 => h9) K_70 dX15_shortest_76 ?_
          refine lv_iload hx hb dX15_shortest_79 (lv_at hl 0 rfl) ?_
          refine va_lald hx hb hK hP 2 2 rfl rfl (vp_in_nI (by omega) (by decide)) dX15_shortest_81 ?_
          refine tk_l (y := (y_61 k)) (by rw [nI_clamp (by omega)]) ?_
          refine lv_lload_n hx hb dX15_shortest_82 rfl (lv_at hl 3 rfl) ?_
          refine W.lcmp hx hb dX15_shortest_83 ?_
          refine lv_if_ne (tgt := 97) hx hb dX15_shortest_84 (by decide) (fun b_175 => ?_) (fun b_175 => ?_)
          · refine lv_iinc (v := (nI (k + 1))) (lv' := [(5, .int (nI (k + 1))), (4, .int 1), (3, .int (nI mm)), (1, .long goal), (0, .ref q)]) hx hb dX15_shortest_97 hl (k := 0) rfl (nI_1 k) (by decide) rfl (fun ls hl => ?_)
            refine lv_goto (tgt := 61) hx hb dX15_shortest_100 (by decide) ?_
            exact ih61 (k + 1) H locs ls (show y_67 2 - (k + 1) < y_67 2 - k by omega) ⟨hP.sub [0, 1, 2, 3, 4, 5, 6, 7] rfl, hD.sub [0, 1, 2, 3, 4, 5, 6, 7] (by decide) rfl, hS, lv_sub hl [0, 1, 2, 3, 4] rfl, trivial, (by omega), (by omega), (all_step (P := fun j => y_61 j ≠ goal) hnk (fun h9 => b_175 ((lg_cmp_eq _ _).mpr h9)))⟩
          · refine lv_aload_n hx hb dX15_shortest_87 rfl (lv_at hl 4 rfl) ?_
            refine lv_iload hx hb dX15_shortest_88 (lv_at hl 1 rfl) ?_
            refine lv_iload hx hb dX15_shortest_90 (lv_at hl 0 rfl) ?_
            refine lv_iconst (v := 0) hx hb dX15_shortest_92 (by decide) ?_
            refine ca_i (wr := [(q_25, .inl (c_30, 111152, .inr (.inl y_61))), (q_26, .inl (c_31, 111152, .inr (.inl y_62))), (q_29, .inl (c_34, 262144, .inl y_65)), (lv, .inl (cl, 6, .inl y_66))]) (va_runV (As := [.int 1, .int (nI k), .int 0]) (rest := []) ⟨hx, hb, hml, hown, ht⟩ (r_tellRow_1 l dC dI H.size q F_59 q_27 q_28 se c_32 c_33 ke y_63 y_64 fe k 0 y_67 y_61 y_62 K_68 K_69 K_72 K_73 hV1 hk1 hkl) (cwV 3 ht (gdV k_16_28 k_16_25 k_16_27 ks_236 k_1_17) rfl rfl rfl (by decide +kernel) ⟨Nat.le_of_ble_eq_true rfl, Nat.le_of_ble_eq_true rfl⟩) ⟨pcw_blind, va_recv hK hP (ci := 15) (q0 := 1) rfl rfl, pcw_at hP hD hK [1, 4, 5, 0] [4, 5, 1] (by decide) rfl rfl rfl⟩ rfl rfl hl.1 rfl (lv_room (Nat.le_of_ble_eq_true rfl)) dX15_shortest_93 ⟨Nat.le_of_ble_eq_true rfl, Nat.le_of_ble_eq_true rfl⟩) hP hD hK hS hA [1, 4, 5, 0] [2, 3, 6, 7] rfl rfl (by decide) (by decide) (fun r_176 u H locs w_177 hK hP hD hS => ?_)
            have hK : va_K (dC, dI) cls [(cl, .int), (ke, .int), (c_30, .long), (c_31, .long), (c_32, .int), (c_33, .byte), (c_34, .int)] s := hK
            have hP : va_P (dC, dI) cls [(q_25, .inl (c_30, 111152, .inr (.inl y_61))), (q_26, .inl (c_31, 111152, .inr (.inl y_62))), (q_29, .inl (c_34, 262144, .inl y_65)), (lv, .inl (cl, 6, .inl y_66))] H := hP
            have hD : va_D A [(q_25, .inl (c_30, 111152, .inr (.inl y_61))), (q_26, .inl (c_31, 111152, .inr (.inl y_62))), (q_29, .inl (c_34, 262144, .inl y_65)), (lv, .inl (cl, 6, .inl y_66))] := hD
            obtain rfl : r_176 = 1 := w_177
            refine W.widen (k := 8) (n := 1755328) (by omega) (by omega) ?_
            exact W.iret (v := 1) hx hb hr (fun t ht9 hW => ⟨⟨1, (), rfl, (Or.inl ⟨mm, hm, rfl, Or.inl ⟨1, (show ∀ m, m < 6 → ¬ nI m < (1 : Int32) → 1 ≤ m by decide) mm (by omega) b_56, rfl, LV_yes hV1 (by decide) hk1 hkl ((lg_cmp_eq _ _).mp b_175), hl1⟩⟩), by rw [ht9]; exact hP.sub [] rfl, va_K.moved hW.alike (hK.sub [] rfl), hD.sub [] (by decide) rfl⟩, hS.F ht9⟩) hS.2.2 dX15_shortest_96
    · have hkl : k < y_42 1 := nI_lej (by omega) (by omega) b_55
      refine lv_aload_n hx hb dX15_shortest_75 rfl (lv_at hl 4 rfl) ?_
      refine va_get (D := (dC, dI)) (ci := 15) (v := .ref q_25) (C := RX15) (T := TX15) (N := 163) hx hb ht uX15 hown hK hP 1 rfl rfl 141 (by decide) (ht _ k_11_89) (fun _ h9 => h9) K_45 dX15_shortest_76 ?_
      refine lv_iload hx hb dX15_shortest_79 (lv_at hl 0 rfl) ?_
      refine va_lald hx hb hK hP 2 2 rfl rfl (vp_in_nI (by omega) (by decide)) dX15_shortest_81 ?_
      refine tk_l (y := (y_36 k)) (by rw [nI_clamp (by omega)]) ?_
      refine lv_lload_n hx hb dX15_shortest_82 rfl (lv_at hl 3 rfl) ?_
      refine W.lcmp hx hb dX15_shortest_83 ?_
      refine lv_if_ne (tgt := 97) hx hb dX15_shortest_84 (by decide) (fun b_178 => ?_) (fun b_178 => ?_)
      · refine lv_iinc (v := (nI (k + 1))) (lv' := [(5, .int (nI (k + 1))), (4, .int 0), (3, .int (nI mm)), (1, .long goal), (0, .ref q)]) hx hb dX15_shortest_97 hl (k := 0) rfl (nI_1 k) (by decide) rfl (fun ls hl => ?_)
        refine lv_goto (tgt := 61) hx hb dX15_shortest_100 (by decide) ?_
        exact ih61 (k + 1) H locs ls (show y_42 1 - (k + 1) < y_42 1 - k by omega) ⟨hP.sub [0, 1, 2, 3, 4, 5, 6, 7] rfl, hD.sub [0, 1, 2, 3, 4, 5, 6, 7] (by decide) rfl, hS, lv_sub hl [0, 1, 2, 3, 4] rfl, trivial, (by omega), (by omega), (all_step (P := fun j => y_36 j ≠ goal) hnk (fun h9 => b_178 ((lg_cmp_eq _ _).mpr h9)))⟩
      · refine lv_aload_n hx hb dX15_shortest_87 rfl (lv_at hl 4 rfl) ?_
        refine lv_iload hx hb dX15_shortest_88 (lv_at hl 1 rfl) ?_
        refine lv_iload hx hb dX15_shortest_90 (lv_at hl 0 rfl) ?_
        refine lv_iconst (v := 0) hx hb dX15_shortest_92 (by decide) ?_
        refine ca_i (wr := [(q_25, .inl (c_30, 111152, .inr (.inl y_36))), (q_26, .inl (c_31, 111152, .inr (.inl y_37))), (q_29, .inl (c_34, 262144, .inl y_40)), (lv, .inl (cl, 6, .inl y_41))]) (va_runV (As := [.int 0, .int (nI k), .int 0]) (rest := []) ⟨hx, hb, hml, hown, ht⟩ (r_tellRow_0 l dC dI H.size q F_24 q_27 q_28 se c_32 c_33 ke y_38 y_39 fe k 0 y_42 y_36 y_37 K_43 K_44 K_47 K_48 hV0 hk1 hkl) (cwV 3 ht (gdV k_16_28 k_16_25 k_16_27 ks_236 k_1_17) rfl rfl rfl (by decide +kernel) ⟨Nat.le_of_ble_eq_true rfl, Nat.le_of_ble_eq_true rfl⟩) ⟨pcw_blind, va_recv hK hP (ci := 15) (q0 := 1) rfl rfl, pcw_at hP hD hK [1, 4, 5, 0] [4, 5, 1] (by decide) rfl rfl rfl⟩ rfl rfl hl.1 rfl (lv_room (Nat.le_of_ble_eq_true rfl)) dX15_shortest_93 ⟨Nat.le_of_ble_eq_true rfl, Nat.le_of_ble_eq_true rfl⟩) hP hD hK hS hA [1, 4, 5, 0] [2, 3, 6, 7] rfl rfl (by decide) (by decide) (fun r_179 u H locs w_180 hK hP hD hS => ?_)
        have hK : va_K (dC, dI) cls [(cl, .int), (ke, .int), (c_30, .long), (c_31, .long), (c_32, .int), (c_33, .byte), (c_34, .int)] s := hK
        have hP : va_P (dC, dI) cls [(q_25, .inl (c_30, 111152, .inr (.inl y_36))), (q_26, .inl (c_31, 111152, .inr (.inl y_37))), (q_29, .inl (c_34, 262144, .inl y_40)), (lv, .inl (cl, 6, .inl y_41))] H := hP
        have hD : va_D A [(q_25, .inl (c_30, 111152, .inr (.inl y_36))), (q_26, .inl (c_31, 111152, .inr (.inl y_37))), (q_29, .inl (c_34, 262144, .inl y_40)), (lv, .inl (cl, 6, .inl y_41))] := hD
        obtain rfl : r_179 = 0 := w_180
        refine W.widen (k := 8) (n := 1755328) (by omega) (by omega) ?_
        exact W.iret (v := 0) hx hb hr (fun t ht9 hW => ⟨⟨0, (), rfl, (Or.inl ⟨mm, hm, rfl, Or.inl ⟨0, Nat.zero_le _, rfl, LV_yes hV0 (by decide) hk1 hkl ((lg_cmp_eq _ _).mp b_178), hl0⟩⟩), by rw [ht9]; exact hP.sub [] rfl, va_K.moved hW.alike (hK.sub [] rfl), hD.sub [] (by decide) rfl⟩, hS.F ht9⟩) hS.2.2 dX15_shortest_96
  · rcases in_no (p := p1) (lo := 0) (hi := 5) ex_18 (by decide) (by decide) n_21 with n_21c | n_21c
    · refine lv_if_ne (tgt := 24) hx hb dX15_shortest_19 (by decide) (fun c0 => absurd c0 (by decide)) (fun _ => ?_)
      refine lv_iconst (v := (-1)) hx hb dX15_shortest_22 (by decide) ?_
      refine W.widen (k := 8) (n := 1755328) (by omega) (by omega) ?_
      exact W.iret (v := (-1)) hx hb hr (fun t ht9 hW => ⟨⟨(-1), (), rfl, (Or.inr ⟨Or.inl n_21c, rfl⟩), by rw [ht9]; exact hP.sub [] rfl, va_K.moved hW.alike (hK.sub [] rfl), hD.sub [] (by decide) rfl⟩, hS.F ht9⟩) hS.2.2 dX15_shortest_23
    · refine lv_if_ne (tgt := 24) hx hb dX15_shortest_19 (by decide) (fun c0 => absurd c0 (by decide)) (fun _ => ?_)
      refine lv_iconst (v := (-1)) hx hb dX15_shortest_22 (by decide) ?_
      refine W.widen (k := 8) (n := 1755328) (by omega) (by omega) ?_
      exact W.iret (v := (-1)) hx hb hr (fun t ht9 hW => ⟨⟨(-1), (), rfl, (Or.inr ⟨Or.inr n_21c, rfl⟩), by rw [ht9]; exact hP.sub [] rfl, va_K.moved hW.alike (hK.sub [] rfl), hD.sub [] (by decide) rfl⟩, hS.F ht9⟩) hS.2.2 dX15_shortest_23
