theorem dX15_learn__0 : decode cX15_learn_ 0 = .ok (.lconst 0, 1) := by decide +kernel
theorem dX15_learn__1 : decode cX15_learn_ 1 = .ok (.lstore_n 2, 1) := by decide +kernel
theorem dX15_learn__2 : decode cX15_learn_ 2 = .ok (.aload_n 0, 1) := by decide +kernel
theorem k_10_213 : Jvm.Cond.fieldLink "FinderHouseModel" (418 : Nat) "FinderHouseModel" "textSize" "I" ∈ tb := tb10 213 (by decide +kernel) (by decide +kernel)
theorem dX15_learn__3 : decode cX15_learn_ 3 = .ok (.getfield 418, 3) := by decide +kernel
theorem dX15_learn__6 : decode cX15_learn_ 6 = .ok (.i2l, 1) := by decide +kernel
theorem dX15_learn__7 : decode cX15_learn_ 7 = .ok (.lconst 1, 1) := by decide +kernel
theorem k_15_21 : Jvm.Cond.constantLong "FinderHouseModel" (971 : Nat) (8 : Int64) ∈ tb := tb15 21 (by decide +kernel) (by decide +kernel)
theorem dX15_learn__8 : decode cX15_learn_ 8 = .ok (.ldc2_w 971, 3) := by decide +kernel
theorem dX15_learn__11 : decode cX15_learn_ 11 = .ok (.invokestatic 623, 3) := by decide +kernel
theorem dX15_learn__14 : decode cX15_learn_ 14 = .ok (.istore 4, 2) := by decide +kernel
theorem dX15_learn__16 : decode cX15_learn_ 16 = .ok (.iconst 0, 1) := by decide +kernel
theorem dX15_learn__17 : decode cX15_learn_ 17 = .ok (.istore 5, 2) := by decide +kernel
theorem dX15_learn__19 : decode cX15_learn_ 19 = .ok (.iload 5, 2) := by decide +kernel
theorem dX15_learn__21 : decode cX15_learn_ 21 = .ok (.aload_n 0, 1) := by decide +kernel
theorem dX15_learn__22 : decode cX15_learn_ 22 = .ok (.getfield 418, 3) := by decide +kernel
theorem dX15_learn__25 : decode cX15_learn_ 25 = .ok (.if_icmp .ge 64, 3) := by decide +kernel
theorem dX15_learn__89 : decode cX15_learn_ 89 = .ok (.iload 4, 2) := by decide +kernel
theorem dX15_learn__91 : decode cX15_learn_ 91 = .ok (.ifCond .eq 18, 3) := by decide +kernel
theorem dX15_learn__109 : decode cX15_learn_ 109 = .ok (.iconst (-1), 1) := by decide +kernel
theorem dX15_learn__110 : decode cX15_learn_ 110 = .ok (.ireturn, 1) := by decide +kernel
theorem dX15_takeTape_0 : decode cX15_takeTape 0 = .ok (.aload_n 0, 1) := by decide +kernel
theorem dX15_takeTape_1 : decode cX15_takeTape 1 = .ok (.iconst 0, 1) := by decide +kernel
theorem dX15_takeTape_2 : decode cX15_takeTape 2 = .ok (.putfield 773, 3) := by decide +kernel
theorem dX15_takeTape_5 : decode cX15_takeTape 5 = .ok (.iconst 0, 1) := by decide +kernel
theorem dX15_takeTape_6 : decode cX15_takeTape 6 = .ok (.istore_n 1, 1) := by decide +kernel
theorem dX15_takeTape_7 : decode cX15_takeTape 7 = .ok (.iload_n 1, 1) := by decide +kernel
theorem dX15_takeTape_8 : decode cX15_takeTape 8 = .ok (.aload_n 0, 1) := by decide +kernel
theorem dX15_takeTape_9 : decode cX15_takeTape 9 = .ok (.getfield 776, 3) := by decide +kernel
theorem dX15_takeTape_12 : decode cX15_takeTape 12 = .ok (.if_icmp .ge 21, 3) := by decide +kernel
theorem dX15_takeTape_33 : decode cX15_takeTape 33 = .ok (.aload_n 0, 1) := by decide +kernel
theorem dX15_takeTape_34 : decode cX15_takeTape 34 = .ok (.aload_n 0, 1) := by decide +kernel
theorem dX15_takeTape_35 : decode cX15_takeTape 35 = .ok (.getfield 776, 3) := by decide +kernel
theorem dX15_takeTape_38 : decode cX15_takeTape 38 = .ok (.putfield 418, 3) := by decide +kernel
theorem dX15_takeTape_41 : decode cX15_takeTape 41 = .ok (.aload_n 0, 1) := by decide +kernel
theorem dX15_takeTape_42 : decode cX15_takeTape 42 = .ok (.iconst 0, 1) := by decide +kernel
theorem dX15_takeTape_43 : decode cX15_takeTape 43 = .ok (.putfield 776, 3) := by decide +kernel
theorem dX15_takeTape_46 : decode cX15_takeTape 46 = .ok (.return_, 1) := by decide +kernel
theorem dX15_learn_0 : decode cX15_learn 0 = .ok (.aload_n 0, 1) := by decide +kernel
theorem dX15_learn_1 : decode cX15_learn 1 = .ok (.invokevirtual 785, 3) := by decide +kernel
theorem dX15_learn_4 : decode cX15_learn 4 = .ok (.ifCond .eq 6, 3) := by decide +kernel
theorem dX15_learn_10 : decode cX15_learn 10 = .ok (.aload_n 0, 1) := by decide +kernel
theorem k_12_237 : Jvm.Cond.code ({ cls := "FinderHouseModel", name := "takeTape", desc := "()V" } : Jvm.MethodName) prog_14_method_93_code (2 : Nat) (Option.none : Option Jvm.ClassFile.FieldType) ∈ tb := tb12 237 (by decide +kernel) (by decide +kernel)
theorem k_12_234 : Jvm.Cond.methodLink "FinderHouseModel" (806 : Nat) ({ cls := "FinderHouseModel", name := "takeTape", desc := "()V" } : Jvm.MethodName) ∈ tb := tb12 234 (by decide +kernel) (by decide +kernel)
theorem k_12_236 : Jvm.Cond.instanceMethod ({ cls := "FinderHouseModel", name := "takeTape", desc := "()V" } : Jvm.MethodName) ∈ tb := tb12 236 (by decide +kernel) (by decide +kernel)
theorem ks_113 : Jvm.Cond.selects "FinderHouseModel" ({ cls := "FinderHouseModel", name := "takeTape", desc := "()V" } : Jvm.MethodName) ({ cls := "FinderHouseModel", name := "takeTape", desc := "()V" } : Jvm.MethodName) ∈ tb := tbp 113 (by decide +kernel) (by decide +kernel)
theorem dX15_learn_11 : decode cX15_learn 11 = .ok (.invokevirtual 806, 3) := by decide +kernel
theorem dX15_learn_14 : decode cX15_learn 14 = .ok (.aload_n 0, 1) := by decide +kernel
theorem dX15_learn_15 : decode cX15_learn 15 = .ok (.iconst 1, 1) := by decide +kernel
theorem k_15_20 : Jvm.Cond.code ({ cls := "FinderHouseModel", name := "learn", desc := "(Z)I" } : Jvm.MethodName) prog_14_method_139_code (7 : Nat) (Option.some Jvm.ClassFile.FieldType.int) ∈ tb := tb15 20 (by decide +kernel) (by decide +kernel)
theorem k_15_17 : Jvm.Cond.methodLink "FinderHouseModel" (967 : Nat) ({ cls := "FinderHouseModel", name := "learn", desc := "(Z)I" } : Jvm.MethodName) ∈ tb := tb15 17 (by decide +kernel) (by decide +kernel)
theorem k_15_19 : Jvm.Cond.instanceMethod ({ cls := "FinderHouseModel", name := "learn", desc := "(Z)I" } : Jvm.MethodName) ∈ tb := tb15 19 (by decide +kernel) (by decide +kernel)
theorem ks_200 : Jvm.Cond.selects "FinderHouseModel" ({ cls := "FinderHouseModel", name := "learn", desc := "(Z)I" } : Jvm.MethodName) ({ cls := "FinderHouseModel", name := "learn", desc := "(Z)I" } : Jvm.MethodName) ∈ tb := tbp 200 (by decide +kernel) (by decide +kernel)
theorem dX15_learn_16 : decode cX15_learn 16 = .ok (.invokevirtual 967, 3) := by decide +kernel
theorem dX15_learn_19 : decode cX15_learn 19 = .ok (.ireturn, 1) := by decide +kernel
theorem dX15_example__0 : decode cX15_example_ 0 = .ok (.aload_n 0, 1) := by decide +kernel
theorem dX15_example__1 : decode cX15_example_ 1 = .ok (.getfield 418, 3) := by decide +kernel
theorem dX15_example__4 : decode cX15_example_ 4 = .ok (.iload_n 1, 1) := by decide +kernel
theorem dX15_example__5 : decode cX15_example_ 5 = .ok (.isub, 1) := by decide +kernel
theorem dX15_example__6 : decode cX15_example_ 6 = .ok (.istore 4, 2) := by decide +kernel
theorem dX15_example__8 : decode cX15_example_ 8 = .ok (.iload_n 2, 1) := by decide +kernel
theorem dX15_example__9 : decode cX15_example_ 9 = .ok (.i2l, 1) := by decide +kernel
theorem dX15_example__10 : decode cX15_example_ 10 = .ok (.lconst 0, 1) := by decide +kernel
theorem k_15_122 : Jvm.Cond.constantLong "FinderHouseModel" (1125 : Nat) (10 : Int64) ∈ tb := tb15 122 (by decide +kernel) (by decide +kernel)
theorem dX15_example__11 : decode cX15_example_ 11 = .ok (.ldc2_w 1125, 3) := by decide +kernel
theorem dX15_example__14 : decode cX15_example_ 14 = .ok (.invokestatic 623, 3) := by decide +kernel
theorem dX15_example__17 : decode cX15_example_ 17 = .ok (.ifCond .eq 36, 3) := by decide +kernel
theorem dX15_example__20 : decode cX15_example_ 20 = .ok (.iload_n 2, 1) := by decide +kernel
theorem dX15_example__21 : decode cX15_example_ 21 = .ok (.iload 4, 2) := by decide +kernel
theorem dX15_example__23 : decode cX15_example_ 23 = .ok (.if_icmp .gt 30, 3) := by decide +kernel
theorem dX15_example__53 : decode cX15_example_ 53 = .ok (.iconst (-1), 1) := by decide +kernel
theorem dX15_example__54 : decode cX15_example_ 54 = .ok (.ireturn, 1) := by decide +kernel
theorem dX15_example__26 : decode cX15_example_ 26 = .ok (.iload 4, 2) := by decide +kernel
theorem dX15_example__28 : decode cX15_example_ 28 = .ok (.iload_n 2, 1) := by decide +kernel
theorem dX15_example__29 : decode cX15_example_ 29 = .ok (.isub, 1) := by decide +kernel
theorem dX15_example__30 : decode cX15_example_ 30 = .ok (.i2l, 1) := by decide +kernel
theorem dX15_example__31 : decode cX15_example_ 31 = .ok (.lconst 1, 1) := by decide +kernel
theorem dX15_example__32 : decode cX15_example_ 32 = .ok (.ldc2_w 1125, 3) := by decide +kernel
theorem dX15_example__35 : decode cX15_example_ 35 = .ok (.invokestatic 623, 3) := by decide +kernel
theorem dX15_example__38 : decode cX15_example_ 38 = .ok (.ifCond .eq 15, 3) := by decide +kernel
theorem dX15_example_0 : decode cX15_example 0 = .ok (.aload_n 0, 1) := by decide +kernel
theorem dX15_example_1 : decode cX15_example 1 = .ok (.invokevirtual 785, 3) := by decide +kernel
theorem dX15_example_4 : decode cX15_example 4 = .ok (.ifCond .eq 6, 3) := by decide +kernel
theorem dX15_example_10 : decode cX15_example 10 = .ok (.aload_n 0, 1) := by decide +kernel
theorem dX15_example_11 : decode cX15_example 11 = .ok (.invokevirtual 806, 3) := by decide +kernel
theorem dX15_example_14 : decode cX15_example 14 = .ok (.aload_n 0, 1) := by decide +kernel
theorem dX15_example_15 : decode cX15_example 15 = .ok (.iconst 0, 1) := by decide +kernel
theorem dX15_example_16 : decode cX15_example 16 = .ok (.iload_n 1, 1) := by decide +kernel
theorem dX15_example_17 : decode cX15_example 17 = .ok (.iconst 1, 1) := by decide +kernel
theorem k_15_121 : Jvm.Cond.code ({ cls := "FinderHouseModel", name := "example", desc := "(IIZ)I" } : Jvm.MethodName) prog_14_method_167_code (7 : Nat) (Option.some Jvm.ClassFile.FieldType.int) ∈ tb := tb15 121 (by decide +kernel) (by decide +kernel)
theorem k_15_118 : Jvm.Cond.methodLink "FinderHouseModel" (1121 : Nat) ({ cls := "FinderHouseModel", name := "example", desc := "(IIZ)I" } : Jvm.MethodName) ∈ tb := tb15 118 (by decide +kernel) (by decide +kernel)
theorem k_15_120 : Jvm.Cond.instanceMethod ({ cls := "FinderHouseModel", name := "example", desc := "(IIZ)I" } : Jvm.MethodName) ∈ tb := tb15 120 (by decide +kernel) (by decide +kernel)
theorem ks_216 : Jvm.Cond.selects "FinderHouseModel" ({ cls := "FinderHouseModel", name := "example", desc := "(IIZ)I" } : Jvm.MethodName) ({ cls := "FinderHouseModel", name := "example", desc := "(IIZ)I" } : Jvm.MethodName) ∈ tb := tbp 216 (by decide +kernel) (by decide +kernel)
theorem dX15_example_18 : decode cX15_example 18 = .ok (.invokevirtual 1121, 3) := by decide +kernel
theorem dX15_example_21 : decode cX15_example 21 = .ok (.ireturn, 1) := by decide +kernel
theorem dX15_isWordText_0 : decode cX15_isWordText 0 = .ok (.iconst 1, 1) := by decide +kernel
theorem dX15_isWordText_1 : decode cX15_isWordText 1 = .ok (.istore_n 3, 1) := by decide +kernel
theorem dX15_isWordText_2 : decode cX15_isWordText 2 = .ok (.iload_n 1, 1) := by decide +kernel
theorem dX15_isWordText_3 : decode cX15_isWordText 3 = .ok (.istore 4, 2) := by decide +kernel
theorem dX15_isWordText_5 : decode cX15_isWordText 5 = .ok (.iload 4, 2) := by decide +kernel
theorem dX15_isWordText_7 : decode cX15_isWordText 7 = .ok (.iload_n 2, 1) := by decide +kernel
theorem dX15_isWordText_8 : decode cX15_isWordText 8 = .ok (.if_icmp .ge 32, 3) := by decide +kernel
theorem dX15_isWordText_40 : decode cX15_isWordText 40 = .ok (.iload_n 3, 1) := by decide +kernel
theorem dX15_isWordText_41 : decode cX15_isWordText 41 = .ok (.ireturn, 1) := by decide +kernel
theorem dX15_apply_0 : decode cX15_apply 0 = .ok (.aload_n 0, 1) := by decide +kernel
theorem dX15_apply_1 : decode cX15_apply 1 = .ok (.invokevirtual 785, 3) := by decide +kernel
theorem dX15_apply_4 : decode cX15_apply 4 = .ok (.ifCond .eq 6, 3) := by decide +kernel
theorem dX15_apply_10 : decode cX15_apply 10 = .ok (.aload_n 0, 1) := by decide +kernel
theorem dX15_apply_11 : decode cX15_apply 11 = .ok (.invokevirtual 806, 3) := by decide +kernel
theorem dX15_apply_14 : decode cX15_apply 14 = .ok (.aload_n 0, 1) := by decide +kernel
theorem dX15_apply_15 : decode cX15_apply 15 = .ok (.getfield 418, 3) := by decide +kernel
theorem dX15_apply_18 : decode cX15_apply 18 = .ok (.bipush 10, 2) := by decide +kernel
theorem dX15_apply_20 : decode cX15_apply 20 = .ok (.if_icmp .gt 15, 3) := by decide +kernel
theorem dX15_apply_23 : decode cX15_apply 23 = .ok (.aload_n 0, 1) := by decide +kernel
theorem dX15_apply_24 : decode cX15_apply 24 = .ok (.iconst 0, 1) := by decide +kernel
theorem dX15_apply_25 : decode cX15_apply 25 = .ok (.aload_n 0, 1) := by decide +kernel
theorem dX15_apply_26 : decode cX15_apply 26 = .ok (.getfield 418, 3) := by decide +kernel
theorem k_15_126 : Jvm.Cond.code ({ cls := "FinderHouseModel", name := "isWordText", desc := "(II)Z" } : Jvm.MethodName) prog_14_method_165_code (5 : Nat) (Option.some Jvm.ClassFile.FieldType.boolean) ∈ tb := tb15 126 (by decide +kernel) (by decide +kernel)
theorem k_15_123 : Jvm.Cond.methodLink "FinderHouseModel" (1127 : Nat) ({ cls := "FinderHouseModel", name := "isWordText", desc := "(II)Z" } : Jvm.MethodName) ∈ tb := tb15 123 (by decide +kernel) (by decide +kernel)
theorem k_15_125 : Jvm.Cond.instanceMethod ({ cls := "FinderHouseModel", name := "isWordText", desc := "(II)Z" } : Jvm.MethodName) ∈ tb := tb15 125 (by decide +kernel) (by decide +kernel)
theorem ks_217 : Jvm.Cond.selects "FinderHouseModel" ({ cls := "FinderHouseModel", name := "isWordText", desc := "(II)Z" } : Jvm.MethodName) ({ cls := "FinderHouseModel", name := "isWordText", desc := "(II)Z" } : Jvm.MethodName) ∈ tb := tbp 217 (by decide +kernel) (by decide +kernel)
theorem dX15_apply_29 : decode cX15_apply 29 = .ok (.invokevirtual 1127, 3) := by decide +kernel
theorem dX15_apply_32 : decode cX15_apply 32 = .ok (.ifCond .ne 5, 3) := by decide +kernel
theorem dX15_apply_37 : decode cX15_apply 37 = .ok (.aload_n 0, 1) := by decide +kernel
theorem dX15_apply_38 : decode cX15_apply 38 = .ok (.getfield 1136, 3) := by decide +kernel
theorem dX15_apply_41 : decode cX15_apply 41 = .ok (.ifCond .ne 6, 3) := by decide +kernel
theorem dX15_apply_44 : decode cX15_apply 44 = .ok (.bipush (-2), 2) := by decide +kernel
theorem dX15_apply_46 : decode cX15_apply 46 = .ok (.ireturn, 1) := by decide +kernel
set_option maxHeartbeats 4000000 in
set_option maxRecDepth 100000 in
theorem r_learn_ (l : Launch) (dC : Nat → ClassId) (dI : Nat → Nat → Nat) (sz : Nat) (q : Nat) (fs : List Value) (L_fs : fs.length = 163) (K25_fs : fs[25]? = some (.int 0)) : Met l yX15_learn_ (Cond.code yX15_learn_ cX15_learn_ 7 (some .int) :: tb) ({ frames := 1, cells := 0, slots := 0, locals := 25 }) (pcw [.ref q, .int 1] (dC, dI) [(q, .inr (15, fs))] [] sz) (va_Qi (fun (r : Int32) => (fun (_ : Unit) => r = -1)) (bw (dC, dI) (va_A [(q, .inr (15, fs))] sz) (fun (_ : Unit) => []) (fun (_ : Unit) => [])) (va_A [(q, .inr (15, fs))] sz)) 0 0 (va_A [(q, .inr (15, fs))] sz) := by
  refine Met.ofW (cc := cX15_learn_) (maxL := 7) (ret := (some .int)) (by decide) rfl ?_
  intro p e s m args below meth c s₁ B hml hv
  obtain ⟨rfl, hsz, hP, hK, hD0⟩ := hv
  have hx := B.exec
  have hb := B.bytes
  have hr := B.returns
  have hts := atoms_spec (ws := Cond.code yX15_learn_ cX15_learn_ 7 (some .int) :: tb) B.pre
  have ht : ∀ w ∈ tb, w.before _ s = true := fun w h => hts w (List.mem_cons_of_mem _ h)
  have hown : s.vm.findClass RX15 = some m.cls := findClass_of_methodNamed B.named
  have hlocks := B.notSynchronized
  subst hsz
  have hD := hD0.self (sz := s.heap.size)
  generalize hAe : va_A [(q, .inr (15, fs))] s.heap.size = A at hD ⊢
  have hA : ∀ q : Nat, s.heap.size ≤ q → A q := fun q h => by rw [← hAe]; exact Or.inr h
  have hS : va_S A s.heap s.heap [] := va_S.rf
  have hl := lv_entry ([.ref q, .int 1]) (n := 7) (Nat.le_of_ble_eq_true rfl)
  rw [lg_entry_eq]
  generalize (lg_sl ([.ref q, .int 1]) ++ List.replicate (7 - (lg_sl ([.ref q, .int 1])).length) Slot.unset).toArray = ls at hl ⊢
  have hl : lv_has ls 7 [(0, .ref q), (1, .int 1)] := hl
  have hP : va_P (dC, dI) cls [(q, .inr (15, fs))] s.heap := hP
  refine lv_lconst (v := 0) hx hb dX15_learn__0 (by decide) ?_
  refine lv_lstore_n (lv' := [(2, .long 0), (0, .ref q), (1, .int 1)]) hx hb dX15_learn__1 rfl hl (by decide) rfl (fun ls hl => ?_)
  refine lv_aload_n hx hb dX15_learn__2 rfl (lv_at hl 1 rfl) ?_
  refine va_get (D := (dC, dI)) (ci := 15) (v := .int 0) (C := RX15) (T := TX15) (N := 163) hx hb ht uX15 hown hK hP 0 rfl rfl 25 (by decide) (ht _ k_10_213) (fun _ h9 => h9) K25_fs dX15_learn__3 ?_
  refine lv_i2l (v := 0) hx hb dX15_learn__6 (by decide) ?_
  refine lv_lconst (v := 1) hx hb dX15_learn__7 (by decide) ?_
  refine lv_ldc2 (v := 8) hx hb hown (ht _ k_15_21) dX15_learn__8 ?_
  refine ca_i (wr := [(q, .inr (15, fs))]) (va_runS (As := [.long 0, .long 1, .long 8]) (rest := []) ⟨hx, hb, hml, hown, ht⟩ (r_in l dC dI s.heap.size 0 1 8  ) (cwS 3 ht (gdS k_12_216 k_12_214 k_12_215 k_1_17) rfl rfl rfl (by decide +kernel) ⟨Nat.le_of_ble_eq_true rfl, Nat.le_of_ble_eq_true rfl⟩) ⟨pcw_blind, pcw_at hP hD hK [] [] (by decide) rfl rfl rfl⟩ rfl rfl hl.1 rfl (lv_room (Nat.le_of_ble_eq_true rfl)) dX15_learn__11 ⟨Nat.le_of_ble_eq_true rfl, Nat.le_of_ble_eq_true rfl⟩) hP hD hK hS hA [] [0] rfl rfl (by decide) (by decide) (fun r_1 u H locs w_2 hK hP hD hS => ?_)
  have hK : va_K (dC, dI) cls [] s := hK
  have hP : va_P (dC, dI) cls [(q, .inr (15, fs))] H := hP
  have hD : va_D A [(q, .inr (15, fs))] := hD
  rcases w_2 with ⟨rfl, n_3⟩ | ⟨rfl, n_3⟩
  · exact absurd n_3 (by decide)
  refine lv_istore (lv' := [(4, .int 0), (2, .long 0), (0, .ref q), (1, .int 1)]) hx hb dX15_learn__14 hl (by decide) rfl (fun ls hl => ?_)
  refine lv_iconst (v := 0) hx hb dX15_learn__16 (by decide) ?_
  refine lv_istore (lv' := [(5, .int 0), (4, .int 0), (2, .long 0), (0, .ref q), (1, .int 1)]) hx hb dX15_learn__17 hl (by decide) rfl (fun ls hl => ?_)
  refine lv_iload hx hb dX15_learn__19 (lv_at hl 0 rfl) ?_
  refine lv_aload_n hx hb dX15_learn__21 rfl (lv_at hl 3 rfl) ?_
  refine va_get (D := (dC, dI)) (ci := 15) (v := .int 0) (C := RX15) (T := TX15) (N := 163) hx hb ht uX15 hown hK hP 0 rfl rfl 25 (by decide) (ht _ k_10_213) (fun _ h9 => h9) K25_fs dX15_learn__22 ?_
  refine lv_icmp_ge (tgt := 89) hx hb dX15_learn__25 (by decide) (fun _ => ?_) (fun c0 => absurd c0 (by decide))
  refine lv_iload hx hb dX15_learn__89 (lv_at hl 1 rfl) ?_
  refine lv_if_eq (tgt := 109) hx hb dX15_learn__91 (by decide) (fun _ => ?_) (fun c0 => absurd c0 (by decide))
  refine lv_iconst (v := (-1)) hx hb dX15_learn__109 (by decide) ?_
  exact W.iret (v := (-1)) hx hb hr (fun t ht9 hW => ⟨⟨(-1), (), rfl, rfl, by rw [ht9]; exact hP.sub [] rfl, va_K.moved hW.alike (hK.sub [] rfl), hD.sub [] (by decide) rfl⟩, hS.F ht9⟩) hS.2.2 dX15_learn__110
set_option maxHeartbeats 4000000 in
set_option maxRecDepth 100000 in
theorem r_takeTape_learn (l : Launch) (dC : Nat → ClassId) (dI : Nat → Nat → Nat) (sz : Nat) (q : Nat) (fs : List Value) (L_fs : fs.length = 163) (K53_fs : fs[53]? = some (.int 0)) : Met l yX15_takeTape (Cond.code yX15_takeTape cX15_takeTape 2 none :: tb) ({ frames := 0, cells := 0, slots := 0, locals := 0 }) (pcw [.ref q] (dC, dI) [(q, .inr (15, fs))] [] sz) (va_Qv (fun (fs1 : List Value) => (True) ∧ (fs1.length = 163) ∧ (fs1[25]? = some (.int 0)) ∧ (fs1[51]? = some (.int 0)) ∧ (fs1[53]? = some (.int 0))) (bw (dC, dI) (va_A [(q, .inr (15, fs))] sz) (fun (fs1 : List Value) => [(q, .inr (15, fs1))]) (fun (fs1 : List Value) => [])) (va_A [(q, .inr (15, fs))] sz)) 0 0 (va_A [(q, .inr (15, fs))] sz) := by
  refine Met.ofW (cc := cX15_takeTape) (maxL := 2) (ret := none) (by decide) rfl ?_
  intro p e s m args below meth c s₁ B hml hv
  obtain ⟨rfl, hsz, hP, hK, hD0⟩ := hv
  have hx := B.exec
  have hb := B.bytes
  have hr := B.returns
  have hts := atoms_spec (ws := Cond.code yX15_takeTape cX15_takeTape 2 none :: tb) B.pre
  have ht : ∀ w ∈ tb, w.before _ s = true := fun w h => hts w (List.mem_cons_of_mem _ h)
  have hown : s.vm.findClass RX15 = some m.cls := findClass_of_methodNamed B.named
  have hlocks := B.notSynchronized
  subst hsz
  have hD := hD0.self (sz := s.heap.size)
  generalize hAe : va_A [(q, .inr (15, fs))] s.heap.size = A at hD ⊢
  have hA : ∀ q : Nat, s.heap.size ≤ q → A q := fun q h => by rw [← hAe]; exact Or.inr h
  have hS : va_S A s.heap s.heap [] := va_S.rf
  have hl := lv_entry ([.ref q]) (n := 2) (Nat.le_of_ble_eq_true rfl)
  rw [lg_entry_eq]
  generalize (lg_sl ([.ref q]) ++ List.replicate (2 - (lg_sl ([.ref q])).length) Slot.unset).toArray = ls at hl ⊢
  have hl : lv_has ls 2 [(0, .ref q)] := hl
  have hP : va_P (dC, dI) cls [(q, .inr (15, fs))] s.heap := hP
  refine lv_aload_n hx hb dX15_takeTape_0 rfl (lv_at hl 0 rfl) ?_
  refine lv_iconst (v := 0) hx hb dX15_takeTape_1 (by decide) ?_
  refine va_put (D := (dC, dI)) (ci := 15) (v := .int 0) (ty := .int) (C := RX15) (T := TX15) (N := 163) hx hb ht uX15 tyX15 tkX15 nmX15 hown hK hP hD hS 0 rfl rfl 51 (by decide) (ht _ k_10_239) (fun _ h9 => h9) rfl (by decide +kernel) rfl rfl (by rw [L_fs]; decide) dX15_takeTape_2 (fun H locs hP hD hS => ?_)
  obtain ⟨F_1, eF_1⟩ : ∃ g : List Value, g = fs.set 51 (.int 0) := ⟨_, rfl⟩
  rw [← eF_1] at hP hD
  have K53_F_1 : F_1[53]? = some (.int 0) := by rw [eF_1, List.getElem?_set_ne (by decide)]; exact K53_fs
  have K51_F_1 : F_1[51]? = some (.int 0) := by rw [eF_1]; exact List.getElem?_set_self (by rw [L_fs]; decide)
  have L_F_1 : F_1.length = 163 := by rw [eF_1, List.length_set]; exact L_fs
  have hP : va_P (dC, dI) cls [(q, .inr (15, F_1))] H := hP
  have hD : va_D A [(q, .inr (15, F_1))] := hD
  refine lv_iconst (v := 0) hx hb dX15_takeTape_5 (by decide) ?_
  refine lv_istore_n (lv' := [(1, .int 0), (0, .ref q)]) hx hb dX15_takeTape_6 rfl hl (by decide) rfl (fun ls hl => ?_)
  refine lv_iload_n hx hb dX15_takeTape_7 rfl (lv_at hl 0 rfl) ?_
  refine lv_aload_n hx hb dX15_takeTape_8 rfl (lv_at hl 1 rfl) ?_
  refine va_get (D := (dC, dI)) (ci := 15) (v := .int 0) (C := RX15) (T := TX15) (N := 163) hx hb ht uX15 hown hK hP 0 rfl rfl 53 (by decide) (ht _ k_11_1) (fun _ h9 => h9) K53_F_1 dX15_takeTape_9 ?_
  refine lv_icmp_ge (tgt := 33) hx hb dX15_takeTape_12 (by decide) (fun _ => ?_) (fun c0 => absurd c0 (by decide))
  refine lv_aload_n hx hb dX15_takeTape_33 rfl (lv_at hl 1 rfl) ?_
  refine lv_aload_n hx hb dX15_takeTape_34 rfl (lv_at hl 1 rfl) ?_
  refine va_get (D := (dC, dI)) (ci := 15) (v := .int 0) (C := RX15) (T := TX15) (N := 163) hx hb ht uX15 hown hK hP 0 rfl rfl 53 (by decide) (ht _ k_11_1) (fun _ h9 => h9) K53_F_1 dX15_takeTape_35 ?_
  refine va_put (D := (dC, dI)) (ci := 15) (v := .int 0) (ty := .int) (C := RX15) (T := TX15) (N := 163) hx hb ht uX15 tyX15 tkX15 nmX15 hown hK hP hD hS 0 rfl rfl 25 (by decide) (ht _ k_10_213) (fun _ h9 => h9) rfl (by decide +kernel) rfl rfl (by rw [L_F_1]; decide) dX15_takeTape_38 (fun H locs hP hD hS => ?_)
  obtain ⟨F_2, eF_2⟩ : ∃ g : List Value, g = F_1.set 25 (.int 0) := ⟨_, rfl⟩
  rw [← eF_2] at hP hD
  have K51_F_2 : F_2[51]? = some (.int 0) := by rw [eF_2, List.getElem?_set_ne (by decide)]; exact K51_F_1
  have K53_F_2 : F_2[53]? = some (.int 0) := by rw [eF_2, List.getElem?_set_ne (by decide)]; exact K53_F_1
  have K25_F_2 : F_2[25]? = some (.int 0) := by rw [eF_2]; exact List.getElem?_set_self (by rw [L_F_1]; decide)
  have L_F_2 : F_2.length = 163 := by rw [eF_2, List.length_set]; exact L_F_1
  have hP : va_P (dC, dI) cls [(q, .inr (15, F_2))] H := hP
  have hD : va_D A [(q, .inr (15, F_2))] := hD
  refine lv_aload_n hx hb dX15_takeTape_41 rfl (lv_at hl 1 rfl) ?_
  refine lv_iconst (v := 0) hx hb dX15_takeTape_42 (by decide) ?_
  refine va_put (D := (dC, dI)) (ci := 15) (v := .int 0) (ty := .int) (C := RX15) (T := TX15) (N := 163) hx hb ht uX15 tyX15 tkX15 nmX15 hown hK hP hD hS 0 rfl rfl 53 (by decide) (ht _ k_11_1) (fun _ h9 => h9) rfl (by decide +kernel) rfl rfl (by rw [L_F_2]; decide) dX15_takeTape_43 (fun H locs hP hD hS => ?_)
  obtain ⟨F_3, eF_3⟩ : ∃ g : List Value, g = F_2.set 53 (.int 0) := ⟨_, rfl⟩
  rw [← eF_3] at hP hD
  have K25_F_3 : F_3[25]? = some (.int 0) := by rw [eF_3, List.getElem?_set_ne (by decide)]; exact K25_F_2
  have K51_F_3 : F_3[51]? = some (.int 0) := by rw [eF_3, List.getElem?_set_ne (by decide)]; exact K51_F_2
  have K53_F_3 : F_3[53]? = some (.int 0) := by rw [eF_3]; exact List.getElem?_set_self (by rw [L_F_2]; decide)
  have L_F_3 : F_3.length = 163 := by rw [eF_3, List.length_set]; exact L_F_2
  have hP : va_P (dC, dI) cls [(q, .inr (15, F_3))] H := hP
  have hD : va_D A [(q, .inr (15, F_3))] := hD
  exact W.vret hx hb hr (fun t ht9 hW => ⟨⟨(F_3), rfl, ⟨trivial, L_F_3, K25_F_3, K51_F_3, K53_F_3⟩, by rw [ht9]; exact hP.sub [0] rfl, va_K.moved hW.alike (hK.sub [] rfl), hD.sub [0] (by decide) rfl⟩, hS.F ht9⟩) hS.2.2 dX15_takeTape_46
set_option maxHeartbeats 4000000 in
set_option maxRecDepth 100000 in
theorem r_isDown_learn (l : Launch) (dC : Nat → ClassId) (dI : Nat → Nat → Nat) (sz : Nat) (q : Nat) (fs : List Value) (L_fs : fs.length = 163) (K53_fs : fs[53]? = some (.int 0)) (K54_fs : fs[54]? = some (.int 0)) : Met l yX15_isDown (Cond.code yX15_isDown cX15_isDown 1 (some .boolean) :: tb) ({ frames := 0, cells := 0, slots := 0, locals := 0 }) (pcw [.ref q] (dC, dI) [(q, .inr (15, fs))] [] sz) (va_Qi (fun (r : Int32) => (fun (fs1 : List Value) => (r = 0) ∧ (fs1.length = 163) ∧ (fs1[51]? = some (.int 0)) ∧ (fs1[53]? = some (.int 0)) ∧ (fs1[54]? = some (.int 0)))) (bw (dC, dI) (va_A [(q, .inr (15, fs))] sz) (fun (fs1 : List Value) => [(q, .inr (15, fs1))]) (fun (fs1 : List Value) => [])) (va_A [(q, .inr (15, fs))] sz)) 0 0 (va_A [(q, .inr (15, fs))] sz) := by
  refine Met.ofW (cc := cX15_isDown) (maxL := 1) (ret := (some .boolean)) (by decide) rfl ?_
  intro p e s m args below meth c s₁ B hml hv
  obtain ⟨rfl, hsz, hP, hK, hD0⟩ := hv
  have hx := B.exec
  have hb := B.bytes
  have hr := B.returns
  have hts := atoms_spec (ws := Cond.code yX15_isDown cX15_isDown 1 (some .boolean) :: tb) B.pre
  have ht : ∀ w ∈ tb, w.before _ s = true := fun w h => hts w (List.mem_cons_of_mem _ h)
  have hown : s.vm.findClass RX15 = some m.cls := findClass_of_methodNamed B.named
  have hlocks := B.notSynchronized
  subst hsz
  have hD := hD0.self (sz := s.heap.size)
  generalize hAe : va_A [(q, .inr (15, fs))] s.heap.size = A at hD ⊢
  have hA : ∀ q : Nat, s.heap.size ≤ q → A q := fun q h => by rw [← hAe]; exact Or.inr h
  have hS : va_S A s.heap s.heap [] := va_S.rf
  have hl := lv_entry ([.ref q]) (n := 1) (Nat.le_of_ble_eq_true rfl)
  rw [lg_entry_eq]
  generalize (lg_sl ([.ref q]) ++ List.replicate (1 - (lg_sl ([.ref q])).length) Slot.unset).toArray = ls at hl ⊢
  have hl : lv_has ls 1 [(0, .ref q)] := hl
  have hP : va_P (dC, dI) cls [(q, .inr (15, fs))] s.heap := hP
  refine lv_aload_n hx hb dX15_isDown_0 rfl (lv_at hl 0 rfl) ?_
  refine lv_iconst (v := 0) hx hb dX15_isDown_1 (by decide) ?_
  refine va_put (D := (dC, dI)) (ci := 15) (v := .int 0) (ty := .int) (C := RX15) (T := TX15) (N := 163) hx hb ht uX15 tyX15 tkX15 nmX15 hown hK hP hD hS 0 rfl rfl 51 (by decide) (ht _ k_10_239) (fun _ h9 => h9) rfl (by decide +kernel) rfl rfl (by rw [L_fs]; decide) dX15_isDown_2 (fun H locs hP hD hS => ?_)
  obtain ⟨F_1, eF_1⟩ : ∃ g : List Value, g = fs.set 51 (.int 0) := ⟨_, rfl⟩
  rw [← eF_1] at hP hD
  have K53_F_1 : F_1[53]? = some (.int 0) := by rw [eF_1, List.getElem?_set_ne (by decide)]; exact K53_fs
  have K54_F_1 : F_1[54]? = some (.int 0) := by rw [eF_1, List.getElem?_set_ne (by decide)]; exact K54_fs
  have K51_F_1 : F_1[51]? = some (.int 0) := by rw [eF_1]; exact List.getElem?_set_self (by rw [L_fs]; decide)
  have L_F_1 : F_1.length = 163 := by rw [eF_1, List.length_set]; exact L_fs
  have hP : va_P (dC, dI) cls [(q, .inr (15, F_1))] H := hP
  have hD : va_D A [(q, .inr (15, F_1))] := hD
  refine lv_aload_n hx hb dX15_isDown_5 rfl (lv_at hl 0 rfl) ?_
  refine va_get (D := (dC, dI)) (ci := 15) (v := .int 0) (C := RX15) (T := TX15) (N := 163) hx hb ht uX15 hown hK hP 0 rfl rfl 54 (by decide) (ht _ k_11_2) (fun _ h9 => h9) K54_F_1 dX15_isDown_6 ?_
  exact W.zret (v := 0) hx hb hr rfl (fun t ht9 hW => ⟨⟨0, (F_1), rfl, ⟨rfl, L_F_1, K51_F_1, K53_F_1, K54_F_1⟩, by rw [ht9]; exact hP.sub [0] rfl, va_K.moved hW.alike (hK.sub [] rfl), hD.sub [0] (by decide) rfl⟩, hS.F ht9⟩) hS.2.2 dX15_isDown_9
set_option maxHeartbeats 4000000 in
set_option maxRecDepth 100000 in
theorem r_learn (l : Launch) (dC : Nat → ClassId) (dI : Nat → Nat → Nat) (sz : Nat) (q : Nat) (fs : List Value) (L_fs : fs.length = 163) (K53_fs : fs[53]? = some (.int 0)) (K54_fs : fs[54]? = some (.int 0)) : Met l yX15_learn (Cond.code yX15_learn cX15_learn 1 (some .int) :: tb) ({ frames := 2, cells := 0, slots := 0, locals := 51 }) (pcw [.ref q] (dC, dI) [(q, .inr (15, fs))] [] sz) (va_Qi (fun (r : Int32) => (fun (_ : Unit) => r = -1)) (bw (dC, dI) (va_A [(q, .inr (15, fs))] sz) (fun (_ : Unit) => []) (fun (_ : Unit) => [])) (va_A [(q, .inr (15, fs))] sz)) 0 0 (va_A [(q, .inr (15, fs))] sz) := by
  refine Met.ofW (cc := cX15_learn) (maxL := 1) (ret := (some .int)) (by decide) rfl ?_
  intro p e s m args below meth c s₁ B hml hv
  obtain ⟨rfl, hsz, hP, hK, hD0⟩ := hv
  have hx := B.exec
  have hb := B.bytes
  have hr := B.returns
  have hts := atoms_spec (ws := Cond.code yX15_learn cX15_learn 1 (some .int) :: tb) B.pre
  have ht : ∀ w ∈ tb, w.before _ s = true := fun w h => hts w (List.mem_cons_of_mem _ h)
  have hown : s.vm.findClass RX15 = some m.cls := findClass_of_methodNamed B.named
  have hlocks := B.notSynchronized
  subst hsz
  have hD := hD0.self (sz := s.heap.size)
  generalize hAe : va_A [(q, .inr (15, fs))] s.heap.size = A at hD ⊢
  have hA : ∀ q : Nat, s.heap.size ≤ q → A q := fun q h => by rw [← hAe]; exact Or.inr h
  have hS : va_S A s.heap s.heap [] := va_S.rf
  have hl := lv_entry ([.ref q]) (n := 1) (Nat.le_of_ble_eq_true rfl)
  rw [lg_entry_eq]
  generalize (lg_sl ([.ref q]) ++ List.replicate (1 - (lg_sl ([.ref q])).length) Slot.unset).toArray = ls at hl ⊢
  have hl : lv_has ls 1 [(0, .ref q)] := hl
  have hP : va_P (dC, dI) cls [(q, .inr (15, fs))] s.heap := hP
  refine lv_aload_n hx hb dX15_learn_0 rfl (lv_at hl 0 rfl) ?_
  refine ca_i (wr := []) (va_runV (As := []) (rest := []) ⟨hx, hb, hml, hown, ht⟩ (r_isDown_learn l dC dI s.heap.size q fs L_fs K53_fs K54_fs ) (cwV 0 ht (gdV k_12_228 k_12_225 k_12_227 ks_112 k_1_17) rfl rfl rfl (by decide +kernel) ⟨Nat.le_of_ble_eq_true rfl, Nat.le_of_ble_eq_true rfl⟩) ⟨pcw_blind, va_recv hK hP (ci := 15) (q0 := 0) rfl rfl, pcw_at hP hD hK [0] [] (by decide) rfl rfl rfl⟩ rfl rfl hl.1 rfl (lv_room (Nat.le_of_ble_eq_true rfl)) dX15_learn_1 ⟨Nat.le_of_ble_eq_true rfl, Nat.le_of_ble_eq_true rfl⟩) hP hD hK hS hA [0] [] rfl rfl (by decide) (by decide) (fun r_1 u H locs w_2 hK hP hD hS => ?_)
  obtain ⟨F_3, rfl⟩ : ∃ z, z = u := ⟨_, rfl⟩
  have hK : va_K (dC, dI) cls [] s := hK
  have hP : va_P (dC, dI) cls [(q, .inr (15, F_3))] H := hP
  have hD : va_D A [(q, .inr (15, F_3))] := hD
  obtain ⟨w_2, K_4, K_5, K_6, K_7⟩ := w_2
  obtain rfl : r_1 = 0 := w_2
  refine lv_if_eq (tgt := 10) hx hb dX15_learn_4 (by decide) (fun _ => ?_) (fun c0 => absurd c0 (by decide))
  refine lv_aload_n hx hb dX15_learn_10 rfl (lv_at hl 0 rfl) ?_
  refine ca_v (wr := []) (va_runV (As := []) (rest := []) ⟨hx, hb, hml, hown, ht⟩ (r_takeTape_learn l dC dI H.size q F_3 K_4 K_6 ) (cwV 0 ht (gdV k_12_237 k_12_234 k_12_236 ks_113 k_1_17) rfl rfl rfl (by decide +kernel) ⟨Nat.le_of_ble_eq_true rfl, Nat.le_of_ble_eq_true rfl⟩) ⟨pcw_blind, va_recv hK hP (ci := 15) (q0 := 0) rfl rfl, pcw_at hP hD hK [0] [] (by decide) rfl rfl rfl⟩ rfl rfl hl.1 rfl (lv_room (Nat.le_of_ble_eq_true rfl)) dX15_learn_11 ⟨Nat.le_of_ble_eq_true rfl, Nat.le_of_ble_eq_true rfl⟩) hP hD hK hS hA [0] [] rfl rfl (by decide) (by decide) (fun u H locs w_9 hK hP hD hS => ?_)
  obtain ⟨F_10, rfl⟩ : ∃ z, z = u := ⟨_, rfl⟩
  have hK : va_K (dC, dI) cls [] s := hK
  have hP : va_P (dC, dI) cls [(q, .inr (15, F_10))] H := hP
  have hD : va_D A [(q, .inr (15, F_10))] := hD
  obtain ⟨w_9, K_11, K_12, K_13, K_14⟩ := w_9
  refine lv_aload_n hx hb dX15_learn_14 rfl (lv_at hl 0 rfl) ?_
  refine lv_iconst (v := 1) hx hb dX15_learn_15 (by decide) ?_
  refine ca_i (wr := []) (va_runV (As := [.int 1]) (rest := []) ⟨hx, hb, hml, hown, ht⟩ (r_learn_ l dC dI H.size q F_10 K_11 K_12 ) (cwV 1 ht (gdV k_15_20 k_15_17 k_15_19 ks_200 k_1_17) rfl rfl rfl (by decide +kernel) ⟨Nat.le_of_ble_eq_true rfl, Nat.le_of_ble_eq_true rfl⟩) ⟨pcw_blind, va_recv hK hP (ci := 15) (q0 := 0) rfl rfl, pcw_at hP hD hK [0] [] (by decide) rfl rfl rfl⟩ rfl rfl hl.1 rfl (lv_room (Nat.le_of_ble_eq_true rfl)) dX15_learn_16 ⟨Nat.le_of_ble_eq_true rfl, Nat.le_of_ble_eq_true rfl⟩) hP hD hK hS hA [0] [] rfl rfl (by decide) (by decide) (fun r_15 u H locs w_16 hK hP hD hS => ?_)
  have hK : va_K (dC, dI) cls [] s := hK
  have hP : va_P (dC, dI) cls [] H := hP
  have hD : va_D A [] := hD
  obtain rfl : r_15 = (-1) := w_16
  exact W.iret (v := (-1)) hx hb hr (fun t ht9 hW => ⟨⟨(-1), (), rfl, rfl, by rw [ht9]; exact hP.sub [] rfl, va_K.moved hW.alike (hK.sub [] rfl), hD.sub [] (by decide) rfl⟩, hS.F ht9⟩) hS.2.2 dX15_learn_19
set_option maxHeartbeats 4000000 in
set_option maxRecDepth 100000 in
theorem r_example_ (l : Launch) (dC : Nat → ClassId) (dI : Nat → Nat → Nat) (sz : Nat) (q : Nat) (fs : List Value) (p0 : Int32) (L_fs : fs.length = 163) (K25_fs : fs[25]? = some (.int 0)) : Met l yX15_example_ (Cond.code yX15_example_ cX15_example_ 7 (some .int) :: tb) ({ frames := 1, cells := 0, slots := 0, locals := 25 }) (pcw [.ref q, .int 0, .int p0, .int 1] (dC, dI) [(q, .inr (15, fs))] [] sz) (va_Qi (fun (r : Int32) => (fun (_ : Unit) => r = -1)) (bw (dC, dI) (va_A [(q, .inr (15, fs))] sz) (fun (_ : Unit) => []) (fun (_ : Unit) => [])) (va_A [(q, .inr (15, fs))] sz)) 0 0 (va_A [(q, .inr (15, fs))] sz) := by
  refine Met.ofW (cc := cX15_example_) (maxL := 7) (ret := (some .int)) (by decide) rfl ?_
  intro p e s m args below meth c s₁ B hml hv
  obtain ⟨rfl, hsz, hP, hK, hD0⟩ := hv
  have hx := B.exec
  have hb := B.bytes
  have hr := B.returns
  have hts := atoms_spec (ws := Cond.code yX15_example_ cX15_example_ 7 (some .int) :: tb) B.pre
  have ht : ∀ w ∈ tb, w.before _ s = true := fun w h => hts w (List.mem_cons_of_mem _ h)
  have hown : s.vm.findClass RX15 = some m.cls := findClass_of_methodNamed B.named
  have hlocks := B.notSynchronized
  subst hsz
  have hD := hD0.self (sz := s.heap.size)
  generalize hAe : va_A [(q, .inr (15, fs))] s.heap.size = A at hD ⊢
  have hA : ∀ q : Nat, s.heap.size ≤ q → A q := fun q h => by rw [← hAe]; exact Or.inr h
  have hS : va_S A s.heap s.heap [] := va_S.rf
  have hl := lv_entry ([.ref q, .int 0, .int p0, .int 1]) (n := 7) (Nat.le_of_ble_eq_true rfl)
  rw [lg_entry_eq]
  generalize (lg_sl ([.ref q, .int 0, .int p0, .int 1]) ++ List.replicate (7 - (lg_sl ([.ref q, .int 0, .int p0, .int 1])).length) Slot.unset).toArray = ls at hl ⊢
  have hl : lv_has ls 7 [(0, .ref q), (1, .int 0), (2, .int p0), (3, .int 1)] := hl
  have hP : va_P (dC, dI) cls [(q, .inr (15, fs))] s.heap := hP
  refine lv_aload_n hx hb dX15_example__0 rfl (lv_at hl 0 rfl) ?_
  refine va_get (D := (dC, dI)) (ci := 15) (v := .int 0) (C := RX15) (T := TX15) (N := 163) hx hb ht uX15 hown hK hP 0 rfl rfl 25 (by decide) (ht _ k_10_213) (fun _ h9 => h9) K25_fs dX15_example__1 ?_
  refine lv_iload_n hx hb dX15_example__4 rfl (lv_at hl 1 rfl) ?_
  refine lv_isub hx hb dX15_example__5 ?_
  refine tk_i (y := 0) (by decide) ?_
  refine lv_istore (lv' := [(4, .int 0), (0, .ref q), (1, .int 0), (2, .int p0), (3, .int 1)]) hx hb dX15_example__6 hl (by decide) rfl (fun ls hl => ?_)
  refine lv_iload_n hx hb dX15_example__8 rfl (lv_at hl 3 rfl) ?_
  refine lv_i2l hx hb dX15_example__9 rfl ?_
  refine lv_topl (fun x_1 ex_1 => ?_)
  refine lv_lconst (v := 0) hx hb dX15_example__10 (by decide) ?_
  refine lv_ldc2 (v := 10) hx hb hown (ht _ k_15_122) dX15_example__11 ?_
  refine ca_i (wr := [(q, .inr (15, fs))]) (va_runS (As := [.long x_1, .long 0, .long 10]) (rest := []) ⟨hx, hb, hml, hown, ht⟩ (r_in l dC dI s.heap.size x_1 0 10  ) (cwS 3 ht (gdS k_12_216 k_12_214 k_12_215 k_1_17) rfl rfl rfl (by decide +kernel) ⟨Nat.le_of_ble_eq_true rfl, Nat.le_of_ble_eq_true rfl⟩) ⟨pcw_blind, pcw_at hP hD hK [] [] (by decide) rfl rfl rfl⟩ rfl rfl hl.1 rfl (lv_room (Nat.le_of_ble_eq_true rfl)) dX15_example__14 ⟨Nat.le_of_ble_eq_true rfl, Nat.le_of_ble_eq_true rfl⟩) hP hD hK hS hA [] [0] rfl rfl (by decide) (by decide) (fun r_2 u H locs w_3 hK hP hD hS => ?_)
  have hK : va_K (dC, dI) cls [] s := hK
  have hP : va_P (dC, dI) cls [(q, .inr (15, fs))] H := hP
  have hD : va_D A [(q, .inr (15, fs))] := hD
  rcases w_3 with ⟨rfl, n_4⟩ | ⟨rfl, n_4⟩
  · obtain ⟨n_4a, n_4b⟩ := in_yes (p := p0) (lo := 0) (hi := 10) ex_1 (by decide) (by decide) n_4
    refine lv_if_eq (tgt := 53) hx hb dX15_example__17 (by decide) (fun c0 => absurd c0 (by decide)) (fun _ => ?_)
    refine lv_iload_n hx hb dX15_example__20 rfl (lv_at hl 3 rfl) ?_
    refine lv_iload hx hb dX15_example__21 (lv_at hl 0 rfl) ?_
    refine lv_icmp_gt (tgt := 53) hx hb dX15_example__23 (by decide) (fun b_5 => ?_) (fun b_5 => ?_)
    · refine lv_iconst (v := (-1)) hx hb dX15_example__53 (by decide) ?_
      exact W.iret (v := (-1)) hx hb hr (fun t ht9 hW => ⟨⟨(-1), (), rfl, rfl, by rw [ht9]; exact hP.sub [] rfl, va_K.moved hW.alike (hK.sub [] rfl), hD.sub [] (by decide) rfl⟩, hS.F ht9⟩) hS.2.2 dX15_example__54
    · obtain rfl : p0 = 0 := (by have z0 := Int32.le_iff_toInt_le.mp (Int32.not_lt.mp n_4a); have z1 := Int32.le_iff_toInt_le.mp n_4b; have z2 := Int32.le_iff_toInt_le.mp (Int32.not_lt.mp b_5); have y0 : (0 : Int32).toInt = 0 := (by decide); have y1 : (10 : Int32).toInt = 10 := (by decide); exact Int32.toInt_inj.mp (by omega))
      refine lv_iload hx hb dX15_example__26 (lv_at hl 0 rfl) ?_
      refine lv_iload_n hx hb dX15_example__28 rfl (lv_at hl 3 rfl) ?_
      refine lv_isub hx hb dX15_example__29 ?_
      refine tk_i (y := 0) (by decide) ?_
      refine lv_i2l (v := 0) hx hb dX15_example__30 (by decide) ?_
      refine lv_lconst (v := 1) hx hb dX15_example__31 (by decide) ?_
      refine lv_ldc2 (v := 10) hx hb hown (ht _ k_15_122) dX15_example__32 ?_
      refine ca_i (wr := [(q, .inr (15, fs))]) (va_runS (As := [.long 0, .long 1, .long 10]) (rest := []) ⟨hx, hb, hml, hown, ht⟩ (r_in l dC dI H.size 0 1 10  ) (cwS 3 ht (gdS k_12_216 k_12_214 k_12_215 k_1_17) rfl rfl rfl (by decide +kernel) ⟨Nat.le_of_ble_eq_true rfl, Nat.le_of_ble_eq_true rfl⟩) ⟨pcw_blind, pcw_at hP hD hK [] [] (by decide) rfl rfl rfl⟩ rfl rfl hl.1 rfl (lv_room (Nat.le_of_ble_eq_true rfl)) dX15_example__35 ⟨Nat.le_of_ble_eq_true rfl, Nat.le_of_ble_eq_true rfl⟩) hP hD hK hS hA [] [0] rfl rfl (by decide) (by decide) (fun r_6 u H locs w_7 hK hP hD hS => ?_)
      have hK : va_K (dC, dI) cls [] s := hK
      have hP : va_P (dC, dI) cls [(q, .inr (15, fs))] H := hP
      have hD : va_D A [(q, .inr (15, fs))] := hD
      rcases w_7 with ⟨rfl, n_8⟩ | ⟨rfl, n_8⟩
      · exact absurd n_8 (by decide)
      refine lv_if_eq (tgt := 53) hx hb dX15_example__38 (by decide) (fun _ => ?_) (fun c0 => absurd c0 (by decide))
      refine lv_iconst (v := (-1)) hx hb dX15_example__53 (by decide) ?_
      exact W.iret (v := (-1)) hx hb hr (fun t ht9 hW => ⟨⟨(-1), (), rfl, rfl, by rw [ht9]; exact hP.sub [] rfl, va_K.moved hW.alike (hK.sub [] rfl), hD.sub [] (by decide) rfl⟩, hS.F ht9⟩) hS.2.2 dX15_example__54
  · rcases in_no (p := p0) (lo := 0) (hi := 10) ex_1 (by decide) (by decide) n_4 with n_4c | n_4c
    · refine lv_if_eq (tgt := 53) hx hb dX15_example__17 (by decide) (fun _ => ?_) (fun c0 => absurd c0 (by decide))
      refine lv_iconst (v := (-1)) hx hb dX15_example__53 (by decide) ?_
      exact W.iret (v := (-1)) hx hb hr (fun t ht9 hW => ⟨⟨(-1), (), rfl, rfl, by rw [ht9]; exact hP.sub [] rfl, va_K.moved hW.alike (hK.sub [] rfl), hD.sub [] (by decide) rfl⟩, hS.F ht9⟩) hS.2.2 dX15_example__54
    · refine lv_if_eq (tgt := 53) hx hb dX15_example__17 (by decide) (fun _ => ?_) (fun c0 => absurd c0 (by decide))
      refine lv_iconst (v := (-1)) hx hb dX15_example__53 (by decide) ?_
      exact W.iret (v := (-1)) hx hb hr (fun t ht9 hW => ⟨⟨(-1), (), rfl, rfl, by rw [ht9]; exact hP.sub [] rfl, va_K.moved hW.alike (hK.sub [] rfl), hD.sub [] (by decide) rfl⟩, hS.F ht9⟩) hS.2.2 dX15_example__54
set_option maxHeartbeats 4000000 in
set_option maxRecDepth 100000 in
theorem r_takeTape_example (l : Launch) (dC : Nat → ClassId) (dI : Nat → Nat → Nat) (sz : Nat) (q : Nat) (fs : List Value) (L_fs : fs.length = 163) (K53_fs : fs[53]? = some (.int 0)) : Met l yX15_takeTape (Cond.code yX15_takeTape cX15_takeTape 2 none :: tb) ({ frames := 0, cells := 0, slots := 0, locals := 0 }) (pcw [.ref q] (dC, dI) [(q, .inr (15, fs))] [] sz) (va_Qv (fun (fs1 : List Value) => (True) ∧ (fs1.length = 163) ∧ (fs1[25]? = some (.int 0)) ∧ (fs1[51]? = some (.int 0)) ∧ (fs1[53]? = some (.int 0))) (bw (dC, dI) (va_A [(q, .inr (15, fs))] sz) (fun (fs1 : List Value) => [(q, .inr (15, fs1))]) (fun (fs1 : List Value) => [])) (va_A [(q, .inr (15, fs))] sz)) 0 0 (va_A [(q, .inr (15, fs))] sz) := by
  refine Met.ofW (cc := cX15_takeTape) (maxL := 2) (ret := none) (by decide) rfl ?_
  intro p e s m args below meth c s₁ B hml hv
  obtain ⟨rfl, hsz, hP, hK, hD0⟩ := hv
  have hx := B.exec
  have hb := B.bytes
  have hr := B.returns
  have hts := atoms_spec (ws := Cond.code yX15_takeTape cX15_takeTape 2 none :: tb) B.pre
  have ht : ∀ w ∈ tb, w.before _ s = true := fun w h => hts w (List.mem_cons_of_mem _ h)
  have hown : s.vm.findClass RX15 = some m.cls := findClass_of_methodNamed B.named
  have hlocks := B.notSynchronized
  subst hsz
  have hD := hD0.self (sz := s.heap.size)
  generalize hAe : va_A [(q, .inr (15, fs))] s.heap.size = A at hD ⊢
  have hA : ∀ q : Nat, s.heap.size ≤ q → A q := fun q h => by rw [← hAe]; exact Or.inr h
  have hS : va_S A s.heap s.heap [] := va_S.rf
  have hl := lv_entry ([.ref q]) (n := 2) (Nat.le_of_ble_eq_true rfl)
  rw [lg_entry_eq]
  generalize (lg_sl ([.ref q]) ++ List.replicate (2 - (lg_sl ([.ref q])).length) Slot.unset).toArray = ls at hl ⊢
  have hl : lv_has ls 2 [(0, .ref q)] := hl
  have hP : va_P (dC, dI) cls [(q, .inr (15, fs))] s.heap := hP
  refine lv_aload_n hx hb dX15_takeTape_0 rfl (lv_at hl 0 rfl) ?_
  refine lv_iconst (v := 0) hx hb dX15_takeTape_1 (by decide) ?_
  refine va_put (D := (dC, dI)) (ci := 15) (v := .int 0) (ty := .int) (C := RX15) (T := TX15) (N := 163) hx hb ht uX15 tyX15 tkX15 nmX15 hown hK hP hD hS 0 rfl rfl 51 (by decide) (ht _ k_10_239) (fun _ h9 => h9) rfl (by decide +kernel) rfl rfl (by rw [L_fs]; decide) dX15_takeTape_2 (fun H locs hP hD hS => ?_)
  obtain ⟨F_1, eF_1⟩ : ∃ g : List Value, g = fs.set 51 (.int 0) := ⟨_, rfl⟩
  rw [← eF_1] at hP hD
  have K53_F_1 : F_1[53]? = some (.int 0) := by rw [eF_1, List.getElem?_set_ne (by decide)]; exact K53_fs
  have K51_F_1 : F_1[51]? = some (.int 0) := by rw [eF_1]; exact List.getElem?_set_self (by rw [L_fs]; decide)
  have L_F_1 : F_1.length = 163 := by rw [eF_1, List.length_set]; exact L_fs
  have hP : va_P (dC, dI) cls [(q, .inr (15, F_1))] H := hP
  have hD : va_D A [(q, .inr (15, F_1))] := hD
  refine lv_iconst (v := 0) hx hb dX15_takeTape_5 (by decide) ?_
  refine lv_istore_n (lv' := [(1, .int 0), (0, .ref q)]) hx hb dX15_takeTape_6 rfl hl (by decide) rfl (fun ls hl => ?_)
  refine lv_iload_n hx hb dX15_takeTape_7 rfl (lv_at hl 0 rfl) ?_
  refine lv_aload_n hx hb dX15_takeTape_8 rfl (lv_at hl 1 rfl) ?_
  refine va_get (D := (dC, dI)) (ci := 15) (v := .int 0) (C := RX15) (T := TX15) (N := 163) hx hb ht uX15 hown hK hP 0 rfl rfl 53 (by decide) (ht _ k_11_1) (fun _ h9 => h9) K53_F_1 dX15_takeTape_9 ?_
  refine lv_icmp_ge (tgt := 33) hx hb dX15_takeTape_12 (by decide) (fun _ => ?_) (fun c0 => absurd c0 (by decide))
  refine lv_aload_n hx hb dX15_takeTape_33 rfl (lv_at hl 1 rfl) ?_
  refine lv_aload_n hx hb dX15_takeTape_34 rfl (lv_at hl 1 rfl) ?_
  refine va_get (D := (dC, dI)) (ci := 15) (v := .int 0) (C := RX15) (T := TX15) (N := 163) hx hb ht uX15 hown hK hP 0 rfl rfl 53 (by decide) (ht _ k_11_1) (fun _ h9 => h9) K53_F_1 dX15_takeTape_35 ?_
  refine va_put (D := (dC, dI)) (ci := 15) (v := .int 0) (ty := .int) (C := RX15) (T := TX15) (N := 163) hx hb ht uX15 tyX15 tkX15 nmX15 hown hK hP hD hS 0 rfl rfl 25 (by decide) (ht _ k_10_213) (fun _ h9 => h9) rfl (by decide +kernel) rfl rfl (by rw [L_F_1]; decide) dX15_takeTape_38 (fun H locs hP hD hS => ?_)
  obtain ⟨F_2, eF_2⟩ : ∃ g : List Value, g = F_1.set 25 (.int 0) := ⟨_, rfl⟩
  rw [← eF_2] at hP hD
  have K51_F_2 : F_2[51]? = some (.int 0) := by rw [eF_2, List.getElem?_set_ne (by decide)]; exact K51_F_1
  have K53_F_2 : F_2[53]? = some (.int 0) := by rw [eF_2, List.getElem?_set_ne (by decide)]; exact K53_F_1
  have K25_F_2 : F_2[25]? = some (.int 0) := by rw [eF_2]; exact List.getElem?_set_self (by rw [L_F_1]; decide)
  have L_F_2 : F_2.length = 163 := by rw [eF_2, List.length_set]; exact L_F_1
  have hP : va_P (dC, dI) cls [(q, .inr (15, F_2))] H := hP
  have hD : va_D A [(q, .inr (15, F_2))] := hD
  refine lv_aload_n hx hb dX15_takeTape_41 rfl (lv_at hl 1 rfl) ?_
  refine lv_iconst (v := 0) hx hb dX15_takeTape_42 (by decide) ?_
  refine va_put (D := (dC, dI)) (ci := 15) (v := .int 0) (ty := .int) (C := RX15) (T := TX15) (N := 163) hx hb ht uX15 tyX15 tkX15 nmX15 hown hK hP hD hS 0 rfl rfl 53 (by decide) (ht _ k_11_1) (fun _ h9 => h9) rfl (by decide +kernel) rfl rfl (by rw [L_F_2]; decide) dX15_takeTape_43 (fun H locs hP hD hS => ?_)
  obtain ⟨F_3, eF_3⟩ : ∃ g : List Value, g = F_2.set 53 (.int 0) := ⟨_, rfl⟩
  rw [← eF_3] at hP hD
  have K25_F_3 : F_3[25]? = some (.int 0) := by rw [eF_3, List.getElem?_set_ne (by decide)]; exact K25_F_2
  have K51_F_3 : F_3[51]? = some (.int 0) := by rw [eF_3, List.getElem?_set_ne (by decide)]; exact K51_F_2
  have K53_F_3 : F_3[53]? = some (.int 0) := by rw [eF_3]; exact List.getElem?_set_self (by rw [L_F_2]; decide)
  have L_F_3 : F_3.length = 163 := by rw [eF_3, List.length_set]; exact L_F_2
  have hP : va_P (dC, dI) cls [(q, .inr (15, F_3))] H := hP
  have hD : va_D A [(q, .inr (15, F_3))] := hD
  exact W.vret hx hb hr (fun t ht9 hW => ⟨⟨(F_3), rfl, ⟨trivial, L_F_3, K25_F_3, K51_F_3, K53_F_3⟩, by rw [ht9]; exact hP.sub [0] rfl, va_K.moved hW.alike (hK.sub [] rfl), hD.sub [0] (by decide) rfl⟩, hS.F ht9⟩) hS.2.2 dX15_takeTape_46
set_option maxHeartbeats 4000000 in
set_option maxRecDepth 100000 in
theorem r_isDown_example (l : Launch) (dC : Nat → ClassId) (dI : Nat → Nat → Nat) (sz : Nat) (q : Nat) (fs : List Value) (L_fs : fs.length = 163) (K53_fs : fs[53]? = some (.int 0)) (K54_fs : fs[54]? = some (.int 0)) : Met l yX15_isDown (Cond.code yX15_isDown cX15_isDown 1 (some .boolean) :: tb) ({ frames := 0, cells := 0, slots := 0, locals := 0 }) (pcw [.ref q] (dC, dI) [(q, .inr (15, fs))] [] sz) (va_Qi (fun (r : Int32) => (fun (fs1 : List Value) => (r = 0) ∧ (fs1.length = 163) ∧ (fs1[51]? = some (.int 0)) ∧ (fs1[53]? = some (.int 0)) ∧ (fs1[54]? = some (.int 0)))) (bw (dC, dI) (va_A [(q, .inr (15, fs))] sz) (fun (fs1 : List Value) => [(q, .inr (15, fs1))]) (fun (fs1 : List Value) => [])) (va_A [(q, .inr (15, fs))] sz)) 0 0 (va_A [(q, .inr (15, fs))] sz) := by
  refine Met.ofW (cc := cX15_isDown) (maxL := 1) (ret := (some .boolean)) (by decide) rfl ?_
  intro p e s m args below meth c s₁ B hml hv
  obtain ⟨rfl, hsz, hP, hK, hD0⟩ := hv
  have hx := B.exec
  have hb := B.bytes
  have hr := B.returns
  have hts := atoms_spec (ws := Cond.code yX15_isDown cX15_isDown 1 (some .boolean) :: tb) B.pre
  have ht : ∀ w ∈ tb, w.before _ s = true := fun w h => hts w (List.mem_cons_of_mem _ h)
  have hown : s.vm.findClass RX15 = some m.cls := findClass_of_methodNamed B.named
  have hlocks := B.notSynchronized
  subst hsz
  have hD := hD0.self (sz := s.heap.size)
  generalize hAe : va_A [(q, .inr (15, fs))] s.heap.size = A at hD ⊢
  have hA : ∀ q : Nat, s.heap.size ≤ q → A q := fun q h => by rw [← hAe]; exact Or.inr h
  have hS : va_S A s.heap s.heap [] := va_S.rf
  have hl := lv_entry ([.ref q]) (n := 1) (Nat.le_of_ble_eq_true rfl)
  rw [lg_entry_eq]
  generalize (lg_sl ([.ref q]) ++ List.replicate (1 - (lg_sl ([.ref q])).length) Slot.unset).toArray = ls at hl ⊢
  have hl : lv_has ls 1 [(0, .ref q)] := hl
  have hP : va_P (dC, dI) cls [(q, .inr (15, fs))] s.heap := hP
  refine lv_aload_n hx hb dX15_isDown_0 rfl (lv_at hl 0 rfl) ?_
  refine lv_iconst (v := 0) hx hb dX15_isDown_1 (by decide) ?_
  refine va_put (D := (dC, dI)) (ci := 15) (v := .int 0) (ty := .int) (C := RX15) (T := TX15) (N := 163) hx hb ht uX15 tyX15 tkX15 nmX15 hown hK hP hD hS 0 rfl rfl 51 (by decide) (ht _ k_10_239) (fun _ h9 => h9) rfl (by decide +kernel) rfl rfl (by rw [L_fs]; decide) dX15_isDown_2 (fun H locs hP hD hS => ?_)
  obtain ⟨F_1, eF_1⟩ : ∃ g : List Value, g = fs.set 51 (.int 0) := ⟨_, rfl⟩
  rw [← eF_1] at hP hD
  have K53_F_1 : F_1[53]? = some (.int 0) := by rw [eF_1, List.getElem?_set_ne (by decide)]; exact K53_fs
  have K54_F_1 : F_1[54]? = some (.int 0) := by rw [eF_1, List.getElem?_set_ne (by decide)]; exact K54_fs
  have K51_F_1 : F_1[51]? = some (.int 0) := by rw [eF_1]; exact List.getElem?_set_self (by rw [L_fs]; decide)
  have L_F_1 : F_1.length = 163 := by rw [eF_1, List.length_set]; exact L_fs
  have hP : va_P (dC, dI) cls [(q, .inr (15, F_1))] H := hP
  have hD : va_D A [(q, .inr (15, F_1))] := hD
  refine lv_aload_n hx hb dX15_isDown_5 rfl (lv_at hl 0 rfl) ?_
  refine va_get (D := (dC, dI)) (ci := 15) (v := .int 0) (C := RX15) (T := TX15) (N := 163) hx hb ht uX15 hown hK hP 0 rfl rfl 54 (by decide) (ht _ k_11_2) (fun _ h9 => h9) K54_F_1 dX15_isDown_6 ?_
  exact W.zret (v := 0) hx hb hr rfl (fun t ht9 hW => ⟨⟨0, (F_1), rfl, ⟨rfl, L_F_1, K51_F_1, K53_F_1, K54_F_1⟩, by rw [ht9]; exact hP.sub [0] rfl, va_K.moved hW.alike (hK.sub [] rfl), hD.sub [0] (by decide) rfl⟩, hS.F ht9⟩) hS.2.2 dX15_isDown_9
set_option maxHeartbeats 4000000 in
set_option maxRecDepth 100000 in
theorem r_example (l : Launch) (dC : Nat → ClassId) (dI : Nat → Nat → Nat) (sz : Nat) (q : Nat) (fs : List Value) (p0 : Int32) (L_fs : fs.length = 163) (K53_fs : fs[53]? = some (.int 0)) (K54_fs : fs[54]? = some (.int 0)) : Met l yX15_example (Cond.code yX15_example cX15_example 2 (some .int) :: tb) ({ frames := 2, cells := 0, slots := 0, locals := 51 }) (pcw [.ref q, .int p0] (dC, dI) [(q, .inr (15, fs))] [] sz) (va_Qi (fun (r : Int32) => (fun (_ : Unit) => r = -1)) (bw (dC, dI) (va_A [(q, .inr (15, fs))] sz) (fun (_ : Unit) => []) (fun (_ : Unit) => [])) (va_A [(q, .inr (15, fs))] sz)) 0 0 (va_A [(q, .inr (15, fs))] sz) := by
  refine Met.ofW (cc := cX15_example) (maxL := 2) (ret := (some .int)) (by decide) rfl ?_
  intro p e s m args below meth c s₁ B hml hv
  obtain ⟨rfl, hsz, hP, hK, hD0⟩ := hv
  have hx := B.exec
  have hb := B.bytes
  have hr := B.returns
  have hts := atoms_spec (ws := Cond.code yX15_example cX15_example 2 (some .int) :: tb) B.pre
  have ht : ∀ w ∈ tb, w.before _ s = true := fun w h => hts w (List.mem_cons_of_mem _ h)
  have hown : s.vm.findClass RX15 = some m.cls := findClass_of_methodNamed B.named
  have hlocks := B.notSynchronized
  subst hsz
  have hD := hD0.self (sz := s.heap.size)
  generalize hAe : va_A [(q, .inr (15, fs))] s.heap.size = A at hD ⊢
  have hA : ∀ q : Nat, s.heap.size ≤ q → A q := fun q h => by rw [← hAe]; exact Or.inr h
  have hS : va_S A s.heap s.heap [] := va_S.rf
  have hl := lv_entry ([.ref q, .int p0]) (n := 2) (Nat.le_of_ble_eq_true rfl)
  rw [lg_entry_eq]
  generalize (lg_sl ([.ref q, .int p0]) ++ List.replicate (2 - (lg_sl ([.ref q, .int p0])).length) Slot.unset).toArray = ls at hl ⊢
  have hl : lv_has ls 2 [(0, .ref q), (1, .int p0)] := hl
  have hP : va_P (dC, dI) cls [(q, .inr (15, fs))] s.heap := hP
  refine lv_aload_n hx hb dX15_example_0 rfl (lv_at hl 0 rfl) ?_
  refine ca_i (wr := []) (va_runV (As := []) (rest := []) ⟨hx, hb, hml, hown, ht⟩ (r_isDown_learn l dC dI s.heap.size q fs L_fs K53_fs K54_fs ) (cwV 0 ht (gdV k_12_228 k_12_225 k_12_227 ks_112 k_1_17) rfl rfl rfl (by decide +kernel) ⟨Nat.le_of_ble_eq_true rfl, Nat.le_of_ble_eq_true rfl⟩) ⟨pcw_blind, va_recv hK hP (ci := 15) (q0 := 0) rfl rfl, pcw_at hP hD hK [0] [] (by decide) rfl rfl rfl⟩ rfl rfl hl.1 rfl (lv_room (Nat.le_of_ble_eq_true rfl)) dX15_example_1 ⟨Nat.le_of_ble_eq_true rfl, Nat.le_of_ble_eq_true rfl⟩) hP hD hK hS hA [0] [] rfl rfl (by decide) (by decide) (fun r_1 u H locs w_2 hK hP hD hS => ?_)
  obtain ⟨F_3, rfl⟩ : ∃ z, z = u := ⟨_, rfl⟩
  have hK : va_K (dC, dI) cls [] s := hK
  have hP : va_P (dC, dI) cls [(q, .inr (15, F_3))] H := hP
  have hD : va_D A [(q, .inr (15, F_3))] := hD
  obtain ⟨w_2, K_4, K_5, K_6, K_7⟩ := w_2
  obtain rfl : r_1 = 0 := w_2
  refine lv_if_eq (tgt := 10) hx hb dX15_example_4 (by decide) (fun _ => ?_) (fun c0 => absurd c0 (by decide))
  refine lv_aload_n hx hb dX15_example_10 rfl (lv_at hl 0 rfl) ?_
  refine ca_v (wr := []) (va_runV (As := []) (rest := []) ⟨hx, hb, hml, hown, ht⟩ (r_takeTape_learn l dC dI H.size q F_3 K_4 K_6 ) (cwV 0 ht (gdV k_12_237 k_12_234 k_12_236 ks_113 k_1_17) rfl rfl rfl (by decide +kernel) ⟨Nat.le_of_ble_eq_true rfl, Nat.le_of_ble_eq_true rfl⟩) ⟨pcw_blind, va_recv hK hP (ci := 15) (q0 := 0) rfl rfl, pcw_at hP hD hK [0] [] (by decide) rfl rfl rfl⟩ rfl rfl hl.1 rfl (lv_room (Nat.le_of_ble_eq_true rfl)) dX15_example_11 ⟨Nat.le_of_ble_eq_true rfl, Nat.le_of_ble_eq_true rfl⟩) hP hD hK hS hA [0] [] rfl rfl (by decide) (by decide) (fun u H locs w_9 hK hP hD hS => ?_)
  obtain ⟨F_10, rfl⟩ : ∃ z, z = u := ⟨_, rfl⟩
  have hK : va_K (dC, dI) cls [] s := hK
  have hP : va_P (dC, dI) cls [(q, .inr (15, F_10))] H := hP
  have hD : va_D A [(q, .inr (15, F_10))] := hD
  obtain ⟨w_9, K_11, K_12, K_13, K_14⟩ := w_9
  refine lv_aload_n hx hb dX15_example_14 rfl (lv_at hl 0 rfl) ?_
  refine lv_iconst (v := 0) hx hb dX15_example_15 (by decide) ?_
  refine lv_iload_n hx hb dX15_example_16 rfl (lv_at hl 1 rfl) ?_
  refine lv_iconst (v := 1) hx hb dX15_example_17 (by decide) ?_
  refine ca_i (wr := []) (va_runV (As := [.int 0, .int p0, .int 1]) (rest := []) ⟨hx, hb, hml, hown, ht⟩ (r_example_ l dC dI H.size q F_10 p0 K_11 K_12 ) (cwV 3 ht (gdV k_15_121 k_15_118 k_15_120 ks_216 k_1_17) rfl rfl rfl (by decide +kernel) ⟨Nat.le_of_ble_eq_true rfl, Nat.le_of_ble_eq_true rfl⟩) ⟨pcw_blind, va_recv hK hP (ci := 15) (q0 := 0) rfl rfl, pcw_at hP hD hK [0] [] (by decide) rfl rfl rfl⟩ rfl rfl hl.1 rfl (lv_room (Nat.le_of_ble_eq_true rfl)) dX15_example_18 ⟨Nat.le_of_ble_eq_true rfl, Nat.le_of_ble_eq_true rfl⟩) hP hD hK hS hA [0] [] rfl rfl (by decide) (by decide) (fun r_15 u H locs w_16 hK hP hD hS => ?_)
  have hK : va_K (dC, dI) cls [] s := hK
  have hP : va_P (dC, dI) cls [] H := hP
  have hD : va_D A [] := hD
  obtain rfl : r_15 = (-1) := w_16
  exact W.iret (v := (-1)) hx hb hr (fun t ht9 hW => ⟨⟨(-1), (), rfl, rfl, by rw [ht9]; exact hP.sub [] rfl, va_K.moved hW.alike (hK.sub [] rfl), hD.sub [] (by decide) rfl⟩, hS.F ht9⟩) hS.2.2 dX15_example_21
set_option maxHeartbeats 4000000 in
set_option maxRecDepth 100000 in
theorem r_isWordText (l : Launch) (dC : Nat → ClassId) (dI : Nat → Nat → Nat) (sz : Nat) (q : Nat) (fs : List Value) (L_fs : fs.length = 163) : Met l yX15_isWordText (Cond.code yX15_isWordText cX15_isWordText 5 (some .boolean) :: tb) ({ frames := 0, cells := 0, slots := 0, locals := 0 }) (pcw [.ref q, .int 0, .int 0] (dC, dI) [(q, .inr (15, fs))] [] sz) (va_Qi (fun (r : Int32) => (fun (_ : Unit) => r = 1)) (bw (dC, dI) (va_A [(q, .inr (15, fs))] sz) (fun (_ : Unit) => [(q, .inr (15, fs))]) (fun (_ : Unit) => [])) (va_A [(q, .inr (15, fs))] sz)) 0 0 (va_A [(q, .inr (15, fs))] sz) := by
  refine Met.ofW (cc := cX15_isWordText) (maxL := 5) (ret := (some .boolean)) (by decide) rfl ?_
  intro p e s m args below meth c s₁ B hml hv
  obtain ⟨rfl, hsz, hP, hK, hD0⟩ := hv
  have hx := B.exec
  have hb := B.bytes
  have hr := B.returns
  have hts := atoms_spec (ws := Cond.code yX15_isWordText cX15_isWordText 5 (some .boolean) :: tb) B.pre
  have ht : ∀ w ∈ tb, w.before _ s = true := fun w h => hts w (List.mem_cons_of_mem _ h)
  have hown : s.vm.findClass RX15 = some m.cls := findClass_of_methodNamed B.named
  have hlocks := B.notSynchronized
  subst hsz
  have hD := hD0.self (sz := s.heap.size)
  generalize hAe : va_A [(q, .inr (15, fs))] s.heap.size = A at hD ⊢
  have hA : ∀ q : Nat, s.heap.size ≤ q → A q := fun q h => by rw [← hAe]; exact Or.inr h
  have hS : va_S A s.heap s.heap [] := va_S.rf
  have hl := lv_entry ([.ref q, .int 0, .int 0]) (n := 5) (Nat.le_of_ble_eq_true rfl)
  rw [lg_entry_eq]
  generalize (lg_sl ([.ref q, .int 0, .int 0]) ++ List.replicate (5 - (lg_sl ([.ref q, .int 0, .int 0])).length) Slot.unset).toArray = ls at hl ⊢
  have hl : lv_has ls 5 [(0, .ref q), (1, .int 0), (2, .int 0)] := hl
  have hP : va_P (dC, dI) cls [(q, .inr (15, fs))] s.heap := hP
  refine lv_iconst (v := 1) hx hb dX15_isWordText_0 (by decide) ?_
  refine lv_istore_n (lv' := [(3, .int 1), (0, .ref q), (1, .int 0), (2, .int 0)]) hx hb dX15_isWordText_1 rfl hl (by decide) rfl (fun ls hl => ?_)
  refine lv_iload_n hx hb dX15_isWordText_2 rfl (lv_at hl 2 rfl) ?_
  refine lv_istore (lv' := [(4, .int 0), (3, .int 1), (0, .ref q), (1, .int 0), (2, .int 0)]) hx hb dX15_isWordText_3 hl (by decide) rfl (fun ls hl => ?_)
  refine lv_iload hx hb dX15_isWordText_5 (lv_at hl 0 rfl) ?_
  refine lv_iload_n hx hb dX15_isWordText_7 rfl (lv_at hl 4 rfl) ?_
  refine lv_icmp_ge (tgt := 40) hx hb dX15_isWordText_8 (by decide) (fun _ => ?_) (fun c0 => absurd c0 (by decide))
  refine lv_iload_n hx hb dX15_isWordText_40 rfl (lv_at hl 1 rfl) ?_
  exact W.zret (v := 1) hx hb hr rfl (fun t ht9 hW => ⟨⟨1, (), rfl, rfl, by rw [ht9]; exact hP.sub [0] rfl, va_K.moved hW.alike (hK.sub [] rfl), hD.sub [0] (by decide) rfl⟩, hS.F ht9⟩) hS.2.2 dX15_isWordText_41
set_option maxHeartbeats 4000000 in
set_option maxRecDepth 100000 in
theorem r_takeTape_apply (l : Launch) (dC : Nat → ClassId) (dI : Nat → Nat → Nat) (sz : Nat) (q : Nat) (fs : List Value) (L_fs : fs.length = 163) (K53_fs : fs[53]? = some (.int 0)) (K125_fs : fs[125]? = some (.int 0)) : Met l yX15_takeTape (Cond.code yX15_takeTape cX15_takeTape 2 none :: tb) ({ frames := 0, cells := 0, slots := 0, locals := 0 }) (pcw [.ref q] (dC, dI) [(q, .inr (15, fs))] [] sz) (va_Qv (fun (fs1 : List Value) => (True) ∧ (fs1.length = 163) ∧ (fs1[25]? = some (.int 0)) ∧ (fs1[51]? = some (.int 0)) ∧ (fs1[53]? = some (.int 0)) ∧ (fs1[125]? = some (.int 0))) (bw (dC, dI) (va_A [(q, .inr (15, fs))] sz) (fun (fs1 : List Value) => [(q, .inr (15, fs1))]) (fun (fs1 : List Value) => [])) (va_A [(q, .inr (15, fs))] sz)) 0 0 (va_A [(q, .inr (15, fs))] sz) := by
  refine Met.ofW (cc := cX15_takeTape) (maxL := 2) (ret := none) (by decide) rfl ?_
  intro p e s m args below meth c s₁ B hml hv
  obtain ⟨rfl, hsz, hP, hK, hD0⟩ := hv
  have hx := B.exec
  have hb := B.bytes
  have hr := B.returns
  have hts := atoms_spec (ws := Cond.code yX15_takeTape cX15_takeTape 2 none :: tb) B.pre
  have ht : ∀ w ∈ tb, w.before _ s = true := fun w h => hts w (List.mem_cons_of_mem _ h)
  have hown : s.vm.findClass RX15 = some m.cls := findClass_of_methodNamed B.named
  have hlocks := B.notSynchronized
  subst hsz
  have hD := hD0.self (sz := s.heap.size)
  generalize hAe : va_A [(q, .inr (15, fs))] s.heap.size = A at hD ⊢
  have hA : ∀ q : Nat, s.heap.size ≤ q → A q := fun q h => by rw [← hAe]; exact Or.inr h
  have hS : va_S A s.heap s.heap [] := va_S.rf
  have hl := lv_entry ([.ref q]) (n := 2) (Nat.le_of_ble_eq_true rfl)
  rw [lg_entry_eq]
  generalize (lg_sl ([.ref q]) ++ List.replicate (2 - (lg_sl ([.ref q])).length) Slot.unset).toArray = ls at hl ⊢
  have hl : lv_has ls 2 [(0, .ref q)] := hl
  have hP : va_P (dC, dI) cls [(q, .inr (15, fs))] s.heap := hP
  refine lv_aload_n hx hb dX15_takeTape_0 rfl (lv_at hl 0 rfl) ?_
  refine lv_iconst (v := 0) hx hb dX15_takeTape_1 (by decide) ?_
  refine va_put (D := (dC, dI)) (ci := 15) (v := .int 0) (ty := .int) (C := RX15) (T := TX15) (N := 163) hx hb ht uX15 tyX15 tkX15 nmX15 hown hK hP hD hS 0 rfl rfl 51 (by decide) (ht _ k_10_239) (fun _ h9 => h9) rfl (by decide +kernel) rfl rfl (by rw [L_fs]; decide) dX15_takeTape_2 (fun H locs hP hD hS => ?_)
  obtain ⟨F_1, eF_1⟩ : ∃ g : List Value, g = fs.set 51 (.int 0) := ⟨_, rfl⟩
  rw [← eF_1] at hP hD
  have K53_F_1 : F_1[53]? = some (.int 0) := by rw [eF_1, List.getElem?_set_ne (by decide)]; exact K53_fs
  have K125_F_1 : F_1[125]? = some (.int 0) := by rw [eF_1, List.getElem?_set_ne (by decide)]; exact K125_fs
  have K51_F_1 : F_1[51]? = some (.int 0) := by rw [eF_1]; exact List.getElem?_set_self (by rw [L_fs]; decide)
  have L_F_1 : F_1.length = 163 := by rw [eF_1, List.length_set]; exact L_fs
  have hP : va_P (dC, dI) cls [(q, .inr (15, F_1))] H := hP
  have hD : va_D A [(q, .inr (15, F_1))] := hD
  refine lv_iconst (v := 0) hx hb dX15_takeTape_5 (by decide) ?_
  refine lv_istore_n (lv' := [(1, .int 0), (0, .ref q)]) hx hb dX15_takeTape_6 rfl hl (by decide) rfl (fun ls hl => ?_)
  refine lv_iload_n hx hb dX15_takeTape_7 rfl (lv_at hl 0 rfl) ?_
  refine lv_aload_n hx hb dX15_takeTape_8 rfl (lv_at hl 1 rfl) ?_
  refine va_get (D := (dC, dI)) (ci := 15) (v := .int 0) (C := RX15) (T := TX15) (N := 163) hx hb ht uX15 hown hK hP 0 rfl rfl 53 (by decide) (ht _ k_11_1) (fun _ h9 => h9) K53_F_1 dX15_takeTape_9 ?_
  refine lv_icmp_ge (tgt := 33) hx hb dX15_takeTape_12 (by decide) (fun _ => ?_) (fun c0 => absurd c0 (by decide))
  refine lv_aload_n hx hb dX15_takeTape_33 rfl (lv_at hl 1 rfl) ?_
  refine lv_aload_n hx hb dX15_takeTape_34 rfl (lv_at hl 1 rfl) ?_
  refine va_get (D := (dC, dI)) (ci := 15) (v := .int 0) (C := RX15) (T := TX15) (N := 163) hx hb ht uX15 hown hK hP 0 rfl rfl 53 (by decide) (ht _ k_11_1) (fun _ h9 => h9) K53_F_1 dX15_takeTape_35 ?_
  refine va_put (D := (dC, dI)) (ci := 15) (v := .int 0) (ty := .int) (C := RX15) (T := TX15) (N := 163) hx hb ht uX15 tyX15 tkX15 nmX15 hown hK hP hD hS 0 rfl rfl 25 (by decide) (ht _ k_10_213) (fun _ h9 => h9) rfl (by decide +kernel) rfl rfl (by rw [L_F_1]; decide) dX15_takeTape_38 (fun H locs hP hD hS => ?_)
  obtain ⟨F_2, eF_2⟩ : ∃ g : List Value, g = F_1.set 25 (.int 0) := ⟨_, rfl⟩
  rw [← eF_2] at hP hD
  have K51_F_2 : F_2[51]? = some (.int 0) := by rw [eF_2, List.getElem?_set_ne (by decide)]; exact K51_F_1
  have K53_F_2 : F_2[53]? = some (.int 0) := by rw [eF_2, List.getElem?_set_ne (by decide)]; exact K53_F_1
  have K125_F_2 : F_2[125]? = some (.int 0) := by rw [eF_2, List.getElem?_set_ne (by decide)]; exact K125_F_1
  have K25_F_2 : F_2[25]? = some (.int 0) := by rw [eF_2]; exact List.getElem?_set_self (by rw [L_F_1]; decide)
  have L_F_2 : F_2.length = 163 := by rw [eF_2, List.length_set]; exact L_F_1
  have hP : va_P (dC, dI) cls [(q, .inr (15, F_2))] H := hP
  have hD : va_D A [(q, .inr (15, F_2))] := hD
  refine lv_aload_n hx hb dX15_takeTape_41 rfl (lv_at hl 1 rfl) ?_
  refine lv_iconst (v := 0) hx hb dX15_takeTape_42 (by decide) ?_
  refine va_put (D := (dC, dI)) (ci := 15) (v := .int 0) (ty := .int) (C := RX15) (T := TX15) (N := 163) hx hb ht uX15 tyX15 tkX15 nmX15 hown hK hP hD hS 0 rfl rfl 53 (by decide) (ht _ k_11_1) (fun _ h9 => h9) rfl (by decide +kernel) rfl rfl (by rw [L_F_2]; decide) dX15_takeTape_43 (fun H locs hP hD hS => ?_)
  obtain ⟨F_3, eF_3⟩ : ∃ g : List Value, g = F_2.set 53 (.int 0) := ⟨_, rfl⟩
  rw [← eF_3] at hP hD
  have K25_F_3 : F_3[25]? = some (.int 0) := by rw [eF_3, List.getElem?_set_ne (by decide)]; exact K25_F_2
  have K51_F_3 : F_3[51]? = some (.int 0) := by rw [eF_3, List.getElem?_set_ne (by decide)]; exact K51_F_2
  have K125_F_3 : F_3[125]? = some (.int 0) := by rw [eF_3, List.getElem?_set_ne (by decide)]; exact K125_F_2
  have K53_F_3 : F_3[53]? = some (.int 0) := by rw [eF_3]; exact List.getElem?_set_self (by rw [L_F_2]; decide)
  have L_F_3 : F_3.length = 163 := by rw [eF_3, List.length_set]; exact L_F_2
  have hP : va_P (dC, dI) cls [(q, .inr (15, F_3))] H := hP
  have hD : va_D A [(q, .inr (15, F_3))] := hD
  exact W.vret hx hb hr (fun t ht9 hW => ⟨⟨(F_3), rfl, ⟨trivial, L_F_3, K25_F_3, K51_F_3, K53_F_3, K125_F_3⟩, by rw [ht9]; exact hP.sub [0] rfl, va_K.moved hW.alike (hK.sub [] rfl), hD.sub [0] (by decide) rfl⟩, hS.F ht9⟩) hS.2.2 dX15_takeTape_46
set_option maxHeartbeats 4000000 in
set_option maxRecDepth 100000 in
theorem r_isDown_apply (l : Launch) (dC : Nat → ClassId) (dI : Nat → Nat → Nat) (sz : Nat) (q : Nat) (fs : List Value) (L_fs : fs.length = 163) (K53_fs : fs[53]? = some (.int 0)) (K54_fs : fs[54]? = some (.int 0)) (K125_fs : fs[125]? = some (.int 0)) : Met l yX15_isDown (Cond.code yX15_isDown cX15_isDown 1 (some .boolean) :: tb) ({ frames := 0, cells := 0, slots := 0, locals := 0 }) (pcw [.ref q] (dC, dI) [(q, .inr (15, fs))] [] sz) (va_Qi (fun (r : Int32) => (fun (fs1 : List Value) => (r = 0) ∧ (fs1.length = 163) ∧ (fs1[51]? = some (.int 0)) ∧ (fs1[53]? = some (.int 0)) ∧ (fs1[54]? = some (.int 0)) ∧ (fs1[125]? = some (.int 0)))) (bw (dC, dI) (va_A [(q, .inr (15, fs))] sz) (fun (fs1 : List Value) => [(q, .inr (15, fs1))]) (fun (fs1 : List Value) => [])) (va_A [(q, .inr (15, fs))] sz)) 0 0 (va_A [(q, .inr (15, fs))] sz) := by
  refine Met.ofW (cc := cX15_isDown) (maxL := 1) (ret := (some .boolean)) (by decide) rfl ?_
  intro p e s m args below meth c s₁ B hml hv
  obtain ⟨rfl, hsz, hP, hK, hD0⟩ := hv
  have hx := B.exec
  have hb := B.bytes
  have hr := B.returns
  have hts := atoms_spec (ws := Cond.code yX15_isDown cX15_isDown 1 (some .boolean) :: tb) B.pre
  have ht : ∀ w ∈ tb, w.before _ s = true := fun w h => hts w (List.mem_cons_of_mem _ h)
  have hown : s.vm.findClass RX15 = some m.cls := findClass_of_methodNamed B.named
  have hlocks := B.notSynchronized
  subst hsz
  have hD := hD0.self (sz := s.heap.size)
  generalize hAe : va_A [(q, .inr (15, fs))] s.heap.size = A at hD ⊢
  have hA : ∀ q : Nat, s.heap.size ≤ q → A q := fun q h => by rw [← hAe]; exact Or.inr h
  have hS : va_S A s.heap s.heap [] := va_S.rf
  have hl := lv_entry ([.ref q]) (n := 1) (Nat.le_of_ble_eq_true rfl)
  rw [lg_entry_eq]
  generalize (lg_sl ([.ref q]) ++ List.replicate (1 - (lg_sl ([.ref q])).length) Slot.unset).toArray = ls at hl ⊢
  have hl : lv_has ls 1 [(0, .ref q)] := hl
  have hP : va_P (dC, dI) cls [(q, .inr (15, fs))] s.heap := hP
  refine lv_aload_n hx hb dX15_isDown_0 rfl (lv_at hl 0 rfl) ?_
  refine lv_iconst (v := 0) hx hb dX15_isDown_1 (by decide) ?_
  refine va_put (D := (dC, dI)) (ci := 15) (v := .int 0) (ty := .int) (C := RX15) (T := TX15) (N := 163) hx hb ht uX15 tyX15 tkX15 nmX15 hown hK hP hD hS 0 rfl rfl 51 (by decide) (ht _ k_10_239) (fun _ h9 => h9) rfl (by decide +kernel) rfl rfl (by rw [L_fs]; decide) dX15_isDown_2 (fun H locs hP hD hS => ?_)
  obtain ⟨F_1, eF_1⟩ : ∃ g : List Value, g = fs.set 51 (.int 0) := ⟨_, rfl⟩
  rw [← eF_1] at hP hD
  have K53_F_1 : F_1[53]? = some (.int 0) := by rw [eF_1, List.getElem?_set_ne (by decide)]; exact K53_fs
  have K54_F_1 : F_1[54]? = some (.int 0) := by rw [eF_1, List.getElem?_set_ne (by decide)]; exact K54_fs
  have K125_F_1 : F_1[125]? = some (.int 0) := by rw [eF_1, List.getElem?_set_ne (by decide)]; exact K125_fs
  have K51_F_1 : F_1[51]? = some (.int 0) := by rw [eF_1]; exact List.getElem?_set_self (by rw [L_fs]; decide)
  have L_F_1 : F_1.length = 163 := by rw [eF_1, List.length_set]; exact L_fs
  have hP : va_P (dC, dI) cls [(q, .inr (15, F_1))] H := hP
  have hD : va_D A [(q, .inr (15, F_1))] := hD
  refine lv_aload_n hx hb dX15_isDown_5 rfl (lv_at hl 0 rfl) ?_
  refine va_get (D := (dC, dI)) (ci := 15) (v := .int 0) (C := RX15) (T := TX15) (N := 163) hx hb ht uX15 hown hK hP 0 rfl rfl 54 (by decide) (ht _ k_11_2) (fun _ h9 => h9) K54_F_1 dX15_isDown_6 ?_
  exact W.zret (v := 0) hx hb hr rfl (fun t ht9 hW => ⟨⟨0, (F_1), rfl, ⟨rfl, L_F_1, K51_F_1, K53_F_1, K54_F_1, K125_F_1⟩, by rw [ht9]; exact hP.sub [0] rfl, va_K.moved hW.alike (hK.sub [] rfl), hD.sub [0] (by decide) rfl⟩, hS.F ht9⟩) hS.2.2 dX15_isDown_9
set_option maxHeartbeats 4000000 in
set_option maxRecDepth 100000 in
theorem r_apply (l : Launch) (dC : Nat → ClassId) (dI : Nat → Nat → Nat) (sz : Nat) (q : Nat) (fs : List Value) (L_fs : fs.length = 163) (K53_fs : fs[53]? = some (.int 0)) (K54_fs : fs[54]? = some (.int 0)) (K125_fs : fs[125]? = some (.int 0)) : Met l yX15_apply (Cond.code yX15_apply cX15_apply 5 (some .int) :: tb) ({ frames := 1, cells := 0, slots := 0, locals := 24 }) (pcw [.ref q] (dC, dI) [(q, .inr (15, fs))] [] sz) (va_Qi (fun (r : Int32) => (fun (_ : Unit) => r = -2)) (bw (dC, dI) (va_A [(q, .inr (15, fs))] sz) (fun (_ : Unit) => []) (fun (_ : Unit) => [])) (va_A [(q, .inr (15, fs))] sz)) 0 0 (va_A [(q, .inr (15, fs))] sz) := by
  refine Met.ofW (cc := cX15_apply) (maxL := 5) (ret := (some .int)) (by decide) rfl ?_
  intro p e s m args below meth c s₁ B hml hv
  obtain ⟨rfl, hsz, hP, hK, hD0⟩ := hv
  have hx := B.exec
  have hb := B.bytes
  have hr := B.returns
  have hts := atoms_spec (ws := Cond.code yX15_apply cX15_apply 5 (some .int) :: tb) B.pre
  have ht : ∀ w ∈ tb, w.before _ s = true := fun w h => hts w (List.mem_cons_of_mem _ h)
  have hown : s.vm.findClass RX15 = some m.cls := findClass_of_methodNamed B.named
  have hlocks := B.notSynchronized
  subst hsz
  have hD := hD0.self (sz := s.heap.size)
  generalize hAe : va_A [(q, .inr (15, fs))] s.heap.size = A at hD ⊢
  have hA : ∀ q : Nat, s.heap.size ≤ q → A q := fun q h => by rw [← hAe]; exact Or.inr h
  have hS : va_S A s.heap s.heap [] := va_S.rf
  have hl := lv_entry ([.ref q]) (n := 5) (Nat.le_of_ble_eq_true rfl)
  rw [lg_entry_eq]
  generalize (lg_sl ([.ref q]) ++ List.replicate (5 - (lg_sl ([.ref q])).length) Slot.unset).toArray = ls at hl ⊢
  have hl : lv_has ls 5 [(0, .ref q)] := hl
  have hP : va_P (dC, dI) cls [(q, .inr (15, fs))] s.heap := hP
  refine lv_aload_n hx hb dX15_apply_0 rfl (lv_at hl 0 rfl) ?_
  refine ca_i (wr := []) (va_runV (As := []) (rest := []) ⟨hx, hb, hml, hown, ht⟩ (r_isDown_apply l dC dI s.heap.size q fs L_fs K53_fs K54_fs K125_fs ) (cwV 0 ht (gdV k_12_228 k_12_225 k_12_227 ks_112 k_1_17) rfl rfl rfl (by decide +kernel) ⟨Nat.le_of_ble_eq_true rfl, Nat.le_of_ble_eq_true rfl⟩) ⟨pcw_blind, va_recv hK hP (ci := 15) (q0 := 0) rfl rfl, pcw_at hP hD hK [0] [] (by decide) rfl rfl rfl⟩ rfl rfl hl.1 rfl (lv_room (Nat.le_of_ble_eq_true rfl)) dX15_apply_1 ⟨Nat.le_of_ble_eq_true rfl, Nat.le_of_ble_eq_true rfl⟩) hP hD hK hS hA [0] [] rfl rfl (by decide) (by decide) (fun r_1 u H locs w_2 hK hP hD hS => ?_)
  obtain ⟨F_3, rfl⟩ : ∃ z, z = u := ⟨_, rfl⟩
  have hK : va_K (dC, dI) cls [] s := hK
  have hP : va_P (dC, dI) cls [(q, .inr (15, F_3))] H := hP
  have hD : va_D A [(q, .inr (15, F_3))] := hD
  obtain ⟨w_2, K_4, K_5, K_6, K_7, K_8⟩ := w_2
  obtain rfl : r_1 = 0 := w_2
  refine lv_if_eq (tgt := 10) hx hb dX15_apply_4 (by decide) (fun _ => ?_) (fun c0 => absurd c0 (by decide))
  refine lv_aload_n hx hb dX15_apply_10 rfl (lv_at hl 0 rfl) ?_
  refine ca_v (wr := []) (va_runV (As := []) (rest := []) ⟨hx, hb, hml, hown, ht⟩ (r_takeTape_apply l dC dI H.size q F_3 K_4 K_6 K_8 ) (cwV 0 ht (gdV k_12_237 k_12_234 k_12_236 ks_113 k_1_17) rfl rfl rfl (by decide +kernel) ⟨Nat.le_of_ble_eq_true rfl, Nat.le_of_ble_eq_true rfl⟩) ⟨pcw_blind, va_recv hK hP (ci := 15) (q0 := 0) rfl rfl, pcw_at hP hD hK [0] [] (by decide) rfl rfl rfl⟩ rfl rfl hl.1 rfl (lv_room (Nat.le_of_ble_eq_true rfl)) dX15_apply_11 ⟨Nat.le_of_ble_eq_true rfl, Nat.le_of_ble_eq_true rfl⟩) hP hD hK hS hA [0] [] rfl rfl (by decide) (by decide) (fun u H locs w_10 hK hP hD hS => ?_)
  obtain ⟨F_11, rfl⟩ : ∃ z, z = u := ⟨_, rfl⟩
  have hK : va_K (dC, dI) cls [] s := hK
  have hP : va_P (dC, dI) cls [(q, .inr (15, F_11))] H := hP
  have hD : va_D A [(q, .inr (15, F_11))] := hD
  obtain ⟨w_10, K_12, K_13, K_14, K_15, K_16⟩ := w_10
  refine lv_aload_n hx hb dX15_apply_14 rfl (lv_at hl 0 rfl) ?_
  refine va_get (D := (dC, dI)) (ci := 15) (v := .int 0) (C := RX15) (T := TX15) (N := 163) hx hb ht uX15 hown hK hP 0 rfl rfl 25 (by decide) (ht _ k_10_213) (fun _ h9 => h9) K_13 dX15_apply_15 ?_
  refine lv_bipush (v := 10) hx hb dX15_apply_18 (by decide) ?_
  refine lv_icmp_gt (tgt := 35) hx hb dX15_apply_20 (by decide) (fun c0 => absurd c0 (by decide)) (fun _ => ?_)
  refine lv_aload_n hx hb dX15_apply_23 rfl (lv_at hl 0 rfl) ?_
  refine lv_iconst (v := 0) hx hb dX15_apply_24 (by decide) ?_
  refine lv_aload_n hx hb dX15_apply_25 rfl (lv_at hl 0 rfl) ?_
  refine va_get (D := (dC, dI)) (ci := 15) (v := .int 0) (C := RX15) (T := TX15) (N := 163) hx hb ht uX15 hown hK hP 0 rfl rfl 25 (by decide) (ht _ k_10_213) (fun _ h9 => h9) K_13 dX15_apply_26 ?_
  refine ca_i (wr := []) (va_runV (As := [.int 0, .int 0]) (rest := []) ⟨hx, hb, hml, hown, ht⟩ (r_isWordText l dC dI H.size q F_11 K_12 ) (cwV 2 ht (gdV k_15_126 k_15_123 k_15_125 ks_217 k_1_17) rfl rfl rfl (by decide +kernel) ⟨Nat.le_of_ble_eq_true rfl, Nat.le_of_ble_eq_true rfl⟩) ⟨pcw_blind, va_recv hK hP (ci := 15) (q0 := 0) rfl rfl, pcw_at hP hD hK [0] [] (by decide) rfl rfl rfl⟩ rfl rfl hl.1 rfl (lv_room (Nat.le_of_ble_eq_true rfl)) dX15_apply_29 ⟨Nat.le_of_ble_eq_true rfl, Nat.le_of_ble_eq_true rfl⟩) hP hD hK hS hA [0] [] rfl rfl (by decide) (by decide) (fun r_17 u H locs w_18 hK hP hD hS => ?_)
  have hK : va_K (dC, dI) cls [] s := hK
  have hP : va_P (dC, dI) cls [(q, .inr (15, F_11))] H := hP
  have hD : va_D A [(q, .inr (15, F_11))] := hD
  obtain rfl : r_17 = 1 := w_18
  refine lv_if_ne (tgt := 37) hx hb dX15_apply_32 (by decide) (fun _ => ?_) (fun c0 => absurd c0 (by decide))
  refine lv_aload_n hx hb dX15_apply_37 rfl (lv_at hl 0 rfl) ?_
  refine va_get (D := (dC, dI)) (ci := 15) (v := .int 0) (C := RX15) (T := TX15) (N := 163) hx hb ht uX15 hown hK hP 0 rfl rfl 125 (by decide) (ht _ k_11_73) (fun _ h9 => h9) K_16 dX15_apply_38 ?_
  refine lv_if_ne (tgt := 47) hx hb dX15_apply_41 (by decide) (fun c0 => absurd c0 (by decide)) (fun _ => ?_)
  refine lv_bipush (v := (-2)) hx hb dX15_apply_44 (by decide) ?_
  exact W.iret (v := (-2)) hx hb hr (fun t ht9 hW => ⟨⟨(-2), (), rfl, rfl, by rw [ht9]; exact hP.sub [] rfl, va_K.moved hW.alike (hK.sub [] rfl), hD.sub [] (by decide) rfl⟩, hS.F ht9⟩) hS.2.2 dX15_apply_46
