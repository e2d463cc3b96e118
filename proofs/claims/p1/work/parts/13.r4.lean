theorem dX15_fits_0 : decode cX15_fits 0 = .ok (.iconst 0, 1) := by decide +kernel
theorem dX15_fits_1 : decode cX15_fits 1 = .ok (.istore_n 2, 1) := by decide +kernel
theorem dX15_fits_2 : decode cX15_fits 2 = .ok (.iload_n 2, 1) := by decide +kernel
theorem dX15_fits_3 : decode cX15_fits 3 = .ok (.iload_n 1, 1) := by decide +kernel
theorem dX15_fits_4 : decode cX15_fits 4 = .ok (.if_icmp .ge 16, 3) := by decide +kernel
theorem dX15_fits_7 : decode cX15_fits 7 = .ok (.aload_n 0, 1) := by decide +kernel
theorem k_11_81 : Jvm.Cond.fieldLink "FinderHouseModel" (277 : Nat) "FinderHouseModel" "must" "[I" ∈ tb := tb11 81 (by decide +kernel) (by decide +kernel)
theorem dX15_fits_8 : decode cX15_fits 8 = .ok (.getfield 277, 3) := by decide +kernel
theorem dX15_fits_11 : decode cX15_fits 11 = .ok (.iload_n 2, 1) := by decide +kernel
theorem dX15_fits_12 : decode cX15_fits 12 = .ok (.iconst 0, 1) := by decide +kernel
theorem dX15_fits_13 : decode cX15_fits 13 = .ok (.iastore, 1) := by decide +kernel
theorem dX15_fits_14 : decode cX15_fits 14 = .ok (.iinc 2 1, 3) := by decide +kernel
theorem dX15_fits_17 : decode cX15_fits 17 = .ok (.goto (-15), 3) := by decide +kernel
theorem dX15_fits_20 : decode cX15_fits 20 = .ok (.iconst 0, 1) := by decide +kernel
theorem dX15_fits_21 : decode cX15_fits 21 = .ok (.istore_n 2, 1) := by decide +kernel
theorem dX15_fits_22 : decode cX15_fits 22 = .ok (.iload_n 2, 1) := by decide +kernel
theorem dX15_fits_23 : decode cX15_fits 23 = .ok (.aload_n 0, 1) := by decide +kernel
theorem dX15_fits_24 : decode cX15_fits 24 = .ok (.getfield 794, 3) := by decide +kernel
theorem dX15_fits_27 : decode cX15_fits 27 = .ok (.if_icmp .ge 98, 3) := by decide +kernel
theorem dX15_fits_125 : decode cX15_fits 125 = .ok (.iconst 1, 1) := by decide +kernel
theorem dX15_fits_126 : decode cX15_fits 126 = .ok (.ireturn, 1) := by decide +kernel
theorem dX15_tryMachine_0 : decode cX15_tryMachine 0 = .ok (.aload_n 0, 1) := by decide +kernel
theorem dX15_tryMachine_1 : decode cX15_tryMachine 1 = .ok (.iload_n 1, 1) := by decide +kernel
theorem k_15_228 : Jvm.Cond.code ({ cls := "FinderHouseModel", name := "fits", desc := "(I)Z" } : Jvm.MethodName) prog_14_method_177_code (5 : Nat) (Option.some Jvm.ClassFile.FieldType.boolean) ∈ tb := tb15 228 (by decide +kernel) (by decide +kernel)
theorem k_15_225 : Jvm.Cond.methodLink "FinderHouseModel" (1150 : Nat) ({ cls := "FinderHouseModel", name := "fits", desc := "(I)Z" } : Jvm.MethodName) ∈ tb := tb15 225 (by decide +kernel) (by decide +kernel)
theorem k_15_227 : Jvm.Cond.instanceMethod ({ cls := "FinderHouseModel", name := "fits", desc := "(I)Z" } : Jvm.MethodName) ∈ tb := tb15 227 (by decide +kernel) (by decide +kernel)
theorem ks_233 : Jvm.Cond.selects "FinderHouseModel" ({ cls := "FinderHouseModel", name := "fits", desc := "(I)Z" } : Jvm.MethodName) ({ cls := "FinderHouseModel", name := "fits", desc := "(I)Z" } : Jvm.MethodName) ∈ tb := tbp 233 (by decide +kernel) (by decide +kernel)
theorem dX15_tryMachine_2 : decode cX15_tryMachine 2 = .ok (.invokevirtual 1150, 3) := by decide +kernel
theorem dX15_tryMachine_5 : decode cX15_tryMachine 5 = .ok (.ifCond .ne 5, 3) := by decide +kernel
theorem dX15_tryMachine_10 : decode cX15_tryMachine 10 = .ok (.iload_n 2, 1) := by decide +kernel
theorem dX15_tryMachine_11 : decode cX15_tryMachine 11 = .ok (.iconst 2, 1) := by decide +kernel
theorem dX15_tryMachine_12 : decode cX15_tryMachine 12 = .ok (.iload_n 1, 1) := by decide +kernel
theorem dX15_tryMachine_13 : decode cX15_tryMachine 13 = .ok (.imul, 1) := by decide +kernel
theorem dX15_tryMachine_14 : decode cX15_tryMachine 14 = .ok (.if_icmp .ne 14, 3) := by decide +kernel
theorem dX15_tryMachine_17 : decode cX15_tryMachine 17 = .ok (.iload_n 3, 1) := by decide +kernel
theorem dX15_tryMachine_18 : decode cX15_tryMachine 18 = .ok (.iload_n 1, 1) := by decide +kernel
theorem dX15_tryMachine_19 : decode cX15_tryMachine 19 = .ok (.if_icmp .ne 7, 3) := by decide +kernel
theorem dX15_tryMachine_22 : decode cX15_tryMachine 22 = .ok (.iconst 1, 1) := by decide +kernel
theorem dX15_tryMachine_23 : decode cX15_tryMachine 23 = .ok (.goto 4, 3) := by decide +kernel
theorem dX15_tryMachine_27 : decode cX15_tryMachine 27 = .ok (.ireturn, 1) := by decide +kernel
theorem dX15_tryMachine_28 : decode cX15_tryMachine 28 = .ok (.iload_n 2, 1) := by decide +kernel
theorem dX15_tryMachine_29 : decode cX15_tryMachine 29 = .ok (.iconst 2, 1) := by decide +kernel
theorem dX15_tryMachine_30 : decode cX15_tryMachine 30 = .ok (.idiv, 1) := by decide +kernel
theorem dX15_tryMachine_31 : decode cX15_tryMachine 31 = .ok (.iload_n 3, 1) := by decide +kernel
theorem dX15_tryMachine_32 : decode cX15_tryMachine 32 = .ok (.if_icmp .lt 5, 3) := by decide +kernel
theorem dX15_tryMachine_37 : decode cX15_tryMachine 37 = .ok (.iconst 0, 1) := by decide +kernel
theorem dX15_tryMachine_38 : decode cX15_tryMachine 38 = .ok (.istore 4, 2) := by decide +kernel
theorem dX15_tryMachine_40 : decode cX15_tryMachine 40 = .ok (.iload 4, 2) := by decide +kernel
theorem dX15_tryMachine_42 : decode cX15_tryMachine 42 = .ok (.iload_n 3, 1) := by decide +kernel
theorem dX15_tryMachine_43 : decode cX15_tryMachine 43 = .ok (.if_icmp .gt 49, 3) := by decide +kernel
theorem dX15_tryMachine_46 : decode cX15_tryMachine 46 = .ok (.iload 4, 2) := by decide +kernel
theorem dX15_tryMachine_48 : decode cX15_tryMachine 48 = .ok (.iload_n 1, 1) := by decide +kernel
theorem dX15_tryMachine_49 : decode cX15_tryMachine 49 = .ok (.if_icmp .ge 43, 3) := by decide +kernel
theorem dX15_tryMachine_52 : decode cX15_tryMachine 52 = .ok (.aload_n 0, 1) := by decide +kernel
theorem k_11_80 : Jvm.Cond.fieldLink "FinderHouseModel" (274 : Nat) "FinderHouseModel" "tries" "[I" ∈ tb := tb11 80 (by decide +kernel) (by decide +kernel)
theorem dX15_tryMachine_53 : decode cX15_tryMachine 53 = .ok (.getfield 274, 3) := by decide +kernel
theorem dX15_tryMachine_56 : decode cX15_tryMachine 56 = .ok (.iload_n 2, 1) := by decide +kernel
theorem dX15_tryMachine_57 : decode cX15_tryMachine 57 = .ok (.iload 4, 2) := by decide +kernel
theorem dX15_tryMachine_59 : decode cX15_tryMachine 59 = .ok (.iastore, 1) := by decide +kernel
theorem dX15_tryMachine_60 : decode cX15_tryMachine 60 = .ok (.aload_n 0, 1) := by decide +kernel
theorem dX15_tryMachine_61 : decode cX15_tryMachine 61 = .ok (.iload_n 1, 1) := by decide +kernel
theorem dX15_tryMachine_62 : decode cX15_tryMachine 62 = .ok (.iload_n 2, 1) := by decide +kernel
theorem dX15_tryMachine_63 : decode cX15_tryMachine 63 = .ok (.iconst 1, 1) := by decide +kernel
theorem dX15_tryMachine_64 : decode cX15_tryMachine 64 = .ok (.iadd, 1) := by decide +kernel
theorem dX15_tryMachine_65 : decode cX15_tryMachine 65 = .ok (.iload 4, 2) := by decide +kernel
theorem dX15_tryMachine_67 : decode cX15_tryMachine 67 = .ok (.iload_n 3, 1) := by decide +kernel
theorem dX15_tryMachine_68 : decode cX15_tryMachine 68 = .ok (.if_icmp .ne 9, 3) := by decide +kernel
theorem dX15_tryMachine_77 : decode cX15_tryMachine 77 = .ok (.iload_n 3, 1) := by decide +kernel
theorem k_15_224 : Jvm.Cond.code ({ cls := "FinderHouseModel", name := "tryMachine", desc := "(III)Z" } : Jvm.MethodName) prog_14_method_178_code (5 : Nat) (Option.some Jvm.ClassFile.FieldType.boolean) ∈ tb := tb15 224 (by decide +kernel) (by decide +kernel)
theorem k_15_221 : Jvm.Cond.methodLink "FinderHouseModel" (1153 : Nat) ({ cls := "FinderHouseModel", name := "tryMachine", desc := "(III)Z" } : Jvm.MethodName) ∈ tb := tb15 221 (by decide +kernel) (by decide +kernel)
theorem k_15_223 : Jvm.Cond.instanceMethod ({ cls := "FinderHouseModel", name := "tryMachine", desc := "(III)Z" } : Jvm.MethodName) ∈ tb := tb15 223 (by decide +kernel) (by decide +kernel)
theorem ks_232 : Jvm.Cond.selects "FinderHouseModel" ({ cls := "FinderHouseModel", name := "tryMachine", desc := "(III)Z" } : Jvm.MethodName) ({ cls := "FinderHouseModel", name := "tryMachine", desc := "(III)Z" } : Jvm.MethodName) ∈ tb := tbp 232 (by decide +kernel) (by decide +kernel)
theorem dX15_tryMachine_78 : decode cX15_tryMachine 78 = .ok (.invokevirtual 1153, 3) := by decide +kernel
theorem dX15_tryMachine_81 : decode cX15_tryMachine 81 = .ok (.ifCond .eq 5, 3) := by decide +kernel
theorem dX15_tryMachine_84 : decode cX15_tryMachine 84 = .ok (.iconst 1, 1) := by decide +kernel
theorem dX15_tryMachine_85 : decode cX15_tryMachine 85 = .ok (.ireturn, 1) := by decide +kernel
theorem dX15_machine_0 : decode cX15_machine 0 = .ok (.aload_n 0, 1) := by decide +kernel
theorem dX15_machine_1 : decode cX15_machine 1 = .ok (.invokevirtual 785, 3) := by decide +kernel
theorem dX15_machine_4 : decode cX15_machine 4 = .ok (.ifCond .eq 6, 3) := by decide +kernel
theorem dX15_machine_10 : decode cX15_machine 10 = .ok (.iconst 1, 1) := by decide +kernel
theorem dX15_machine_11 : decode cX15_machine 11 = .ok (.istore_n 1, 1) := by decide +kernel
theorem dX15_machine_12 : decode cX15_machine 12 = .ok (.iload_n 1, 1) := by decide +kernel
theorem dX15_machine_13 : decode cX15_machine 13 = .ok (.bipush 6, 2) := by decide +kernel
theorem dX15_machine_15 : decode cX15_machine 15 = .ok (.if_icmp .ge 117, 3) := by decide +kernel
theorem dX15_machine_18 : decode cX15_machine 18 = .ok (.iconst 0, 1) := by decide +kernel
theorem dX15_machine_19 : decode cX15_machine 19 = .ok (.istore_n 2, 1) := by decide +kernel
theorem dX15_machine_20 : decode cX15_machine 20 = .ok (.iload_n 2, 1) := by decide +kernel
theorem dX15_machine_21 : decode cX15_machine 21 = .ok (.bipush 10, 2) := by decide +kernel
theorem dX15_machine_23 : decode cX15_machine 23 = .ok (.if_icmp .ge 16, 3) := by decide +kernel
theorem dX15_machine_26 : decode cX15_machine 26 = .ok (.aload_n 0, 1) := by decide +kernel
theorem dX15_machine_27 : decode cX15_machine 27 = .ok (.getfield 274, 3) := by decide +kernel
theorem dX15_machine_30 : decode cX15_machine 30 = .ok (.iload_n 2, 1) := by decide +kernel
theorem dX15_machine_31 : decode cX15_machine 31 = .ok (.iconst (-1), 1) := by decide +kernel
theorem dX15_machine_32 : decode cX15_machine 32 = .ok (.iastore, 1) := by decide +kernel
theorem dX15_machine_33 : decode cX15_machine 33 = .ok (.iinc 2 1, 3) := by decide +kernel
theorem dX15_machine_36 : decode cX15_machine 36 = .ok (.goto (-16), 3) := by decide +kernel
theorem dX15_machine_39 : decode cX15_machine 39 = .ok (.aload_n 0, 1) := by decide +kernel
theorem dX15_machine_40 : decode cX15_machine 40 = .ok (.iload_n 1, 1) := by decide +kernel
theorem dX15_machine_41 : decode cX15_machine 41 = .ok (.iconst 0, 1) := by decide +kernel
theorem dX15_machine_42 : decode cX15_machine 42 = .ok (.iconst 1, 1) := by decide +kernel
theorem dX15_machine_43 : decode cX15_machine 43 = .ok (.invokevirtual 1153, 3) := by decide +kernel
theorem dX15_machine_46 : decode cX15_machine 46 = .ok (.ifCond .ne 6, 3) := by decide +kernel
theorem dX15_machine_52 : decode cX15_machine 52 = .ok (.aload_n 0, 1) := by decide +kernel
theorem dX15_machine_53 : decode cX15_machine 53 = .ok (.iload_n 1, 1) := by decide +kernel
theorem dX15_machine_54 : decode cX15_machine 54 = .ok (.invokevirtual 1150, 3) := by decide +kernel
theorem dX15_machine_57 : decode cX15_machine 57 = .ok (.istore_n 2, 1) := by decide +kernel
theorem dX15_machine_58 : decode cX15_machine 58 = .ok (.iconst 0, 1) := by decide +kernel
theorem dX15_machine_59 : decode cX15_machine 59 = .ok (.istore_n 3, 1) := by decide +kernel
theorem dX15_machine_60 : decode cX15_machine 60 = .ok (.iload_n 3, 1) := by decide +kernel
theorem dX15_machine_61 : decode cX15_machine 61 = .ok (.iconst 2, 1) := by decide +kernel
theorem dX15_machine_62 : decode cX15_machine 62 = .ok (.iload_n 1, 1) := by decide +kernel
theorem dX15_machine_63 : decode cX15_machine 63 = .ok (.imul, 1) := by decide +kernel
theorem dX15_machine_64 : decode cX15_machine 64 = .ok (.if_icmp .ge 21, 3) := by decide +kernel
theorem dX15_machine_67 : decode cX15_machine 67 = .ok (.aload_n 0, 1) := by decide +kernel
theorem k_11_83 : Jvm.Cond.fieldLink "FinderHouseModel" (280 : Nat) "FinderHouseModel" "machine" "[I" ∈ tb := tb11 83 (by decide +kernel) (by decide +kernel)
theorem dX15_machine_68 : decode cX15_machine 68 = .ok (.getfield 280, 3) := by decide +kernel
theorem dX15_machine_71 : decode cX15_machine 71 = .ok (.iload_n 3, 1) := by decide +kernel
theorem dX15_machine_72 : decode cX15_machine 72 = .ok (.aload_n 0, 1) := by decide +kernel
theorem dX15_machine_73 : decode cX15_machine 73 = .ok (.getfield 274, 3) := by decide +kernel
theorem dX15_machine_76 : decode cX15_machine 76 = .ok (.iload_n 3, 1) := by decide +kernel
theorem dX15_machine_77 : decode cX15_machine 77 = .ok (.iaload, 1) := by decide +kernel
theorem dX15_machine_78 : decode cX15_machine 78 = .ok (.iastore, 1) := by decide +kernel
theorem dX15_machine_79 : decode cX15_machine 79 = .ok (.iinc 3 1, 3) := by decide +kernel
theorem dX15_machine_82 : decode cX15_machine 82 = .ok (.goto (-22), 3) := by decide +kernel
theorem dX15_machine_85 : decode cX15_machine 85 = .ok (.iconst 0, 1) := by decide +kernel
theorem dX15_machine_86 : decode cX15_machine 86 = .ok (.istore_n 3, 1) := by decide +kernel
theorem dX15_machine_87 : decode cX15_machine 87 = .ok (.iload_n 3, 1) := by decide +kernel
theorem dX15_machine_88 : decode cX15_machine 88 = .ok (.iload_n 1, 1) := by decide +kernel
theorem dX15_machine_89 : decode cX15_machine 89 = .ok (.if_icmp .ge 30, 3) := by decide +kernel
theorem dX15_machine_92 : decode cX15_machine 92 = .ok (.aload_n 0, 1) := by decide +kernel
theorem k_11_84 : Jvm.Cond.fieldLink "FinderHouseModel" (283 : Nat) "FinderHouseModel" "good" "[Z" ∈ tb := tb11 84 (by decide +kernel) (by decide +kernel)
theorem dX15_machine_93 : decode cX15_machine 93 = .ok (.getfield 283, 3) := by decide +kernel
theorem dX15_machine_96 : decode cX15_machine 96 = .ok (.iload_n 3, 1) := by decide +kernel
theorem dX15_machine_97 : decode cX15_machine 97 = .ok (.aload_n 0, 1) := by decide +kernel
theorem dX15_machine_98 : decode cX15_machine 98 = .ok (.getfield 277, 3) := by decide +kernel
theorem dX15_machine_101 : decode cX15_machine 101 = .ok (.iload_n 3, 1) := by decide +kernel
theorem dX15_machine_102 : decode cX15_machine 102 = .ok (.iaload, 1) := by decide +kernel
theorem dX15_machine_103 : decode cX15_machine 103 = .ok (.iconst 1, 1) := by decide +kernel
theorem dX15_machine_104 : decode cX15_machine 104 = .ok (.if_icmp .ne 7, 3) := by decide +kernel
theorem dX15_machine_111 : decode cX15_machine 111 = .ok (.iconst 0, 1) := by decide +kernel
theorem dX15_machine_112 : decode cX15_machine 112 = .ok (.bastore, 1) := by decide +kernel
theorem dX15_machine_113 : decode cX15_machine 113 = .ok (.iinc 3 1, 3) := by decide +kernel
theorem dX15_machine_116 : decode cX15_machine 116 = .ok (.goto (-29), 3) := by decide +kernel
theorem dX15_machine_119 : decode cX15_machine 119 = .ok (.aload_n 0, 1) := by decide +kernel
theorem dX15_machine_120 : decode cX15_machine 120 = .ok (.iload_n 1, 1) := by decide +kernel
theorem dX15_machine_121 : decode cX15_machine 121 = .ok (.putfield 1156, 3) := by decide +kernel
theorem dX15_machine_124 : decode cX15_machine 124 = .ok (.iload_n 1, 1) := by decide +kernel
theorem dX15_machine_125 : decode cX15_machine 125 = .ok (.ireturn, 1) := by decide +kernel
theorem dX15_machine_107 : decode cX15_machine 107 = .ok (.iconst 1, 1) := by decide +kernel
theorem dX15_machine_108 : decode cX15_machine 108 = .ok (.goto 4, 3) := by decide +kernel
set_option maxHeartbeats 4000000 in
set_option maxRecDepth 100000 in
theorem r_fits (l : Launch) (dC : Nat → ClassId) (dI : Nat → Nat → Nat) (sz : Nat) (q : Nat) (fs : List Value) (tr : Nat) (mu : Nat) (mc : Nat) (go : Nat) (c2 : ClassId) (f2 : Nat → Int32) (L_fs : fs.length = 163) (K128_fs : fs[128]? = some (.int 0)) (K132_fs : fs[132]? = some (.ref tr)) (K133_fs : fs[133]? = some (.ref mu)) (K135_fs : fs[135]? = some (.ref mc)) (K136_fs : fs[136]? = some (.ref go)) : Met l yX15_fits (Cond.code yX15_fits cX15_fits 5 (some .boolean) :: tb) ({ frames := 0, cells := 0, slots := 0, locals := 0 }) (pcw [.ref q, .int 1] (dC, dI) [(q, .inr (15, fs)), (mu, .inl (c2, 5, .inl f2))] [(c2, .int)] sz) (va_Qi (fun (r : Int32) => (fun (h2 : Nat → Int32) => r = 1)) (bw (dC, dI) (va_A [(q, .inr (15, fs)), (mu, .inl (c2, 5, .inl f2))] sz) (fun (h2 : Nat → Int32) => [(q, .inr (15, fs)), (mu, .inl (c2, 5, .inl h2))]) (fun (h2 : Nat → Int32) => [(c2, .int)])) (va_A [(q, .inr (15, fs)), (mu, .inl (c2, 5, .inl f2))] sz)) 0 0 (va_A [(q, .inr (15, fs)), (mu, .inl (c2, 5, .inl f2))] sz) := by
  refine Met.ofW (cc := cX15_fits) (maxL := 5) (ret := (some .boolean)) (by decide) rfl ?_
  intro p e s m args below meth c s₁ B hml hv
  obtain ⟨rfl, hsz, hP, hK, hD0⟩ := hv
  have hx := B.exec
  have hb := B.bytes
  have hr := B.returns
  have hts := atoms_spec (ws := Cond.code yX15_fits cX15_fits 5 (some .boolean) :: tb) B.pre
  have ht : ∀ w ∈ tb, w.before _ s = true := fun w h => hts w (List.mem_cons_of_mem _ h)
  have hown : s.vm.findClass RX15 = some m.cls := findClass_of_methodNamed B.named
  have hlocks := B.notSynchronized
  subst hsz
  have hD := hD0.self (sz := s.heap.size)
  generalize hAe : va_A [(q, .inr (15, fs)), (mu, .inl (c2, 5, .inl f2))] s.heap.size = A at hD ⊢
  have hA : ∀ q : Nat, s.heap.size ≤ q → A q := fun q h => by rw [← hAe]; exact Or.inr h
  have hS : va_S A s.heap s.heap [] := va_S.rf
  have hl := lv_entry ([.ref q, .int 1]) (n := 5) (Nat.le_of_ble_eq_true rfl)
  rw [lg_entry_eq]
  generalize (lg_sl ([.ref q, .int 1]) ++ List.replicate (5 - (lg_sl ([.ref q, .int 1])).length) Slot.unset).toArray = ls at hl ⊢
  have hl : lv_has ls 5 [(0, .ref q), (1, .int 1)] := hl
  have hP : va_P (dC, dI) cls [(q, .inr (15, fs)), (mu, .inl (c2, 5, .inl f2))] s.heap := hP
  refine lv_iconst (v := 0) hx hb dX15_fits_0 (by decide) ?_
  refine lv_istore_n (lv' := [(2, .int 0), (0, .ref q), (1, .int 1)]) hx hb dX15_fits_1 rfl hl (by decide) rfl (fun ls hl => ?_)
  refine lv_iload_n hx hb dX15_fits_2 rfl (lv_at hl 0 rfl) ?_
  refine lv_iload_n hx hb dX15_fits_3 rfl (lv_at hl 2 rfl) ?_
  refine lv_icmp_ge (tgt := 20) hx hb dX15_fits_4 (by decide) (fun c0 => absurd c0 (by decide)) (fun _ => ?_)
  refine lv_aload_n hx hb dX15_fits_7 rfl (lv_at hl 1 rfl) ?_
  refine va_get (D := (dC, dI)) (ci := 15) (v := .ref mu) (C := RX15) (T := TX15) (N := 163) hx hb ht uX15 hown hK hP 0 rfl rfl 133 (by decide) (ht _ k_11_81) (fun _ h9 => h9) K133_fs dX15_fits_8 ?_
  refine lv_iload_n hx hb dX15_fits_11 rfl (lv_at hl 0 rfl) ?_
  refine lv_iconst (v := 0) hx hb dX15_fits_12 (by decide) ?_
  refine va_iast (i := 0) (x := 0) hx hb hK hP hD hS 1 0 rfl rfl (by unfold vp_in; decide) dX15_fits_13 (fun H locs hP hD hS => ?_)
  obtain ⟨f_1, ef_1⟩ : ∃ g : Nat → Int32, g = upd f2 (0 : Int32).toNatClampNeg 0 := ⟨_, rfl⟩
  rw [← ef_1] at hP hD
  have hP : va_P (dC, dI) cls [(q, .inr (15, fs)), (mu, .inl (c2, 5, .inl f_1))] H := hP
  have hD : va_D A [(q, .inr (15, fs)), (mu, .inl (c2, 5, .inl f_1))] := hD
  refine lv_iinc (v := 1) (lv' := [(2, .int 1), (0, .ref q), (1, .int 1)]) hx hb dX15_fits_14 hl (k := 0) rfl (by decide) (by decide) rfl (fun ls hl => ?_)
  refine lv_goto (tgt := 2) hx hb dX15_fits_17 (by decide) ?_
  refine lv_iload_n hx hb dX15_fits_2 rfl (lv_at hl 0 rfl) ?_
  refine lv_iload_n hx hb dX15_fits_3 rfl (lv_at hl 2 rfl) ?_
  refine lv_icmp_ge (tgt := 20) hx hb dX15_fits_4 (by decide) (fun _ => ?_) (fun c0 => absurd c0 (by decide))
  refine lv_iconst (v := 0) hx hb dX15_fits_20 (by decide) ?_
  refine lv_istore_n (lv' := [(2, .int 0), (0, .ref q), (1, .int 1)]) hx hb dX15_fits_21 rfl hl (by decide) rfl (fun ls hl => ?_)
  refine lv_iload_n hx hb dX15_fits_22 rfl (lv_at hl 0 rfl) ?_
  refine lv_aload_n hx hb dX15_fits_23 rfl (lv_at hl 1 rfl) ?_
  refine va_get (D := (dC, dI)) (ci := 15) (v := .int 0) (C := RX15) (T := TX15) (N := 163) hx hb ht uX15 hown hK hP 0 rfl rfl 128 (by decide) (ht _ k_11_76) (fun _ h9 => h9) K128_fs dX15_fits_24 ?_
  refine lv_icmp_ge (tgt := 125) hx hb dX15_fits_27 (by decide) (fun _ => ?_) (fun c0 => absurd c0 (by decide))
  refine lv_iconst (v := 1) hx hb dX15_fits_125 (by decide) ?_
  exact W.zret (v := 1) hx hb hr rfl (fun t ht9 hW => ⟨⟨1, (f_1), rfl, rfl, by rw [ht9]; exact hP.sub [0, 1] rfl, va_K.moved hW.alike (hK.sub [0] rfl), hD.sub [0, 1] (by decide) rfl⟩, hS.F ht9⟩) hS.2.2 dX15_fits_126
set_option maxHeartbeats 4000000 in
set_option maxRecDepth 100000 in
theorem r_tryMachine_2 (l : Launch) (dC : Nat → ClassId) (dI : Nat → Nat → Nat) (sz : Nat) (q : Nat) (fs : List Value) (tr : Nat) (mu : Nat) (mc : Nat) (go : Nat) (c1 : ClassId) (f1 : Nat → Int32) (c2 : ClassId) (f2 : Nat → Int32) (L_fs : fs.length = 163) (K128_fs : fs[128]? = some (.int 0)) (K132_fs : fs[132]? = some (.ref tr)) (K133_fs : fs[133]? = some (.ref mu)) (K135_fs : fs[135]? = some (.ref mc)) (K136_fs : fs[136]? = some (.ref go)) : Met l yX15_tryMachine (Cond.code yX15_tryMachine cX15_tryMachine 5 (some .boolean) :: tb) ({ frames := 1, cells := 0, slots := 0, locals := 24 }) (pcw [.ref q, .int 1, .int 2, .int 1] (dC, dI) [(q, .inr (15, fs)), (tr, .inl (c1, 10, .inl f1)), (mu, .inl (c2, 5, .inl f2))] [(c1, .int), (c2, .int)] sz) (va_Qi (fun (r : Int32) => (fun (u : (Nat → Int32) × (Nat → Int32)) => match u with | (h1, h2) => r = 1)) (bw (dC, dI) (va_A [(q, .inr (15, fs)), (tr, .inl (c1, 10, .inl f1)), (mu, .inl (c2, 5, .inl f2))] sz) (fun (u : (Nat → Int32) × (Nat → Int32)) => match u with | (h1, h2) => [(q, .inr (15, fs)), (tr, .inl (c1, 10, .inl h1)), (mu, .inl (c2, 5, .inl h2))]) (fun (u : (Nat → Int32) × (Nat → Int32)) => match u with | (h1, h2) => [(c1, .int), (c2, .int)])) (va_A [(q, .inr (15, fs)), (tr, .inl (c1, 10, .inl f1)), (mu, .inl (c2, 5, .inl f2))] sz)) 0 0 (va_A [(q, .inr (15, fs)), (tr, .inl (c1, 10, .inl f1)), (mu, .inl (c2, 5, .inl f2))] sz) := by
  refine Met.ofW (cc := cX15_tryMachine) (maxL := 5) (ret := (some .boolean)) (by decide) rfl ?_
  intro p e s m args below meth c s₁ B hml hv
  obtain ⟨rfl, hsz, hP, hK, hD0⟩ := hv
  have hx := B.exec
  have hb := B.bytes
  have hr := B.returns
  have hts := atoms_spec (ws := Cond.code yX15_tryMachine cX15_tryMachine 5 (some .boolean) :: tb) B.pre
  have ht : ∀ w ∈ tb, w.before _ s = true := fun w h => hts w (List.mem_cons_of_mem _ h)
  have hown : s.vm.findClass RX15 = some m.cls := findClass_of_methodNamed B.named
  have hlocks := B.notSynchronized
  subst hsz
  have hD := hD0.self (sz := s.heap.size)
  generalize hAe : va_A [(q, .inr (15, fs)), (tr, .inl (c1, 10, .inl f1)), (mu, .inl (c2, 5, .inl f2))] s.heap.size = A at hD ⊢
  have hA : ∀ q : Nat, s.heap.size ≤ q → A q := fun q h => by rw [← hAe]; exact Or.inr h
  have hS : va_S A s.heap s.heap [] := va_S.rf
  have hl := lv_entry ([.ref q, .int 1, .int 2, .int 1]) (n := 5) (Nat.le_of_ble_eq_true rfl)
  rw [lg_entry_eq]
  generalize (lg_sl ([.ref q, .int 1, .int 2, .int 1]) ++ List.replicate (5 - (lg_sl ([.ref q, .int 1, .int 2, .int 1])).length) Slot.unset).toArray = ls at hl ⊢
  have hl : lv_has ls 5 [(0, .ref q), (1, .int 1), (2, .int 2), (3, .int 1)] := hl
  have hP : va_P (dC, dI) cls [(q, .inr (15, fs)), (tr, .inl (c1, 10, .inl f1)), (mu, .inl (c2, 5, .inl f2))] s.heap := hP
  refine lv_aload_n hx hb dX15_tryMachine_0 rfl (lv_at hl 0 rfl) ?_
  refine lv_iload_n hx hb dX15_tryMachine_1 rfl (lv_at hl 1 rfl) ?_
  refine ca_i (wr := [(tr, .inl (c1, 10, .inl f1))]) (va_runV (As := [.int 1]) (rest := []) ⟨hx, hb, hml, hown, ht⟩ (r_fits l dC dI s.heap.size q fs tr mu mc go c2 f2 L_fs K128_fs K132_fs K133_fs K135_fs K136_fs ) (cwV 1 ht (gdV k_15_228 k_15_225 k_15_227 ks_233 k_1_17) rfl rfl rfl (by decide +kernel) ⟨Nat.le_of_ble_eq_true rfl, Nat.le_of_ble_eq_true rfl⟩) ⟨pcw_blind, va_recv hK hP (ci := 15) (q0 := 0) rfl rfl, pcw_at hP hD hK [0, 2] [1] (by decide) rfl rfl rfl⟩ rfl rfl hl.1 rfl (lv_room (Nat.le_of_ble_eq_true rfl)) dX15_tryMachine_2 ⟨Nat.le_of_ble_eq_true rfl, Nat.le_of_ble_eq_true rfl⟩) hP hD hK hS hA [0, 2] [1] rfl rfl (by decide) (by decide) (fun r_1 u H locs w_2 hK hP hD hS => ?_)
  obtain ⟨y_3, rfl⟩ : ∃ z, z = u := ⟨_, rfl⟩
  have hK : va_K (dC, dI) cls [(c1, .int), (c2, .int), (c2, .int)] s := hK
  have hP : va_P (dC, dI) cls [(tr, .inl (c1, 10, .inl f1)), (q, .inr (15, fs)), (mu, .inl (c2, 5, .inl y_3))] H := hP
  have hD : va_D A [(tr, .inl (c1, 10, .inl f1)), (q, .inr (15, fs)), (mu, .inl (c2, 5, .inl y_3))] := hD
  obtain rfl : r_1 = 1 := w_2
  refine lv_if_ne (tgt := 10) hx hb dX15_tryMachine_5 (by decide) (fun _ => ?_) (fun c0 => absurd c0 (by decide))
  refine lv_iload_n hx hb dX15_tryMachine_10 rfl (lv_at hl 2 rfl) ?_
  refine lv_iconst (v := 2) hx hb dX15_tryMachine_11 (by decide) ?_
  refine lv_iload_n hx hb dX15_tryMachine_12 rfl (lv_at hl 1 rfl) ?_
  refine lv_imul hx hb dX15_tryMachine_13 ?_
  refine tk_i (y := 2) (by decide) ?_
  refine lv_icmp_ne (tgt := 28) hx hb dX15_tryMachine_14 (by decide) (fun c0 => absurd c0 (by decide)) (fun _ => ?_)
  refine lv_iload_n hx hb dX15_tryMachine_17 rfl (lv_at hl 3 rfl) ?_
  refine lv_iload_n hx hb dX15_tryMachine_18 rfl (lv_at hl 1 rfl) ?_
  refine lv_icmp_ne (tgt := 26) hx hb dX15_tryMachine_19 (by decide) (fun c0 => absurd c0 (by decide)) (fun _ => ?_)
  refine lv_iconst (v := 1) hx hb dX15_tryMachine_22 (by decide) ?_
  refine lv_goto (tgt := 27) hx hb dX15_tryMachine_23 (by decide) ?_
  exact W.zret (v := 1) hx hb hr rfl (fun t ht9 hW => ⟨⟨1, (f1, y_3), rfl, rfl, by rw [ht9]; exact hP.sub [1, 0, 2] rfl, va_K.moved hW.alike (hK.sub [0, 1] rfl), hD.sub [1, 0, 2] (by decide) rfl⟩, hS.F ht9⟩) hS.2.2 dX15_tryMachine_27
set_option maxHeartbeats 4000000 in
set_option maxRecDepth 100000 in
theorem r_tryMachine_1 (l : Launch) (dC : Nat → ClassId) (dI : Nat → Nat → Nat) (sz : Nat) (q : Nat) (fs : List Value) (tr : Nat) (mu : Nat) (mc : Nat) (go : Nat) (c1 : ClassId) (f1 : Nat → Int32) (c2 : ClassId) (f2 : Nat → Int32) (L_fs : fs.length = 163) (K128_fs : fs[128]? = some (.int 0)) (K132_fs : fs[132]? = some (.ref tr)) (K133_fs : fs[133]? = some (.ref mu)) (K135_fs : fs[135]? = some (.ref mc)) (K136_fs : fs[136]? = some (.ref go)) : Met l yX15_tryMachine (Cond.code yX15_tryMachine cX15_tryMachine 5 (some .boolean) :: tb) ({ frames := 2, cells := 0, slots := 0, locals := 48 }) (pcw [.ref q, .int 1, .int 1, .int 1] (dC, dI) [(q, .inr (15, fs)), (tr, .inl (c1, 10, .inl f1)), (mu, .inl (c2, 5, .inl f2))] [(c1, .int), (c2, .int)] sz) (va_Qi (fun (r : Int32) => (fun (u : (Nat → Int32) × (Nat → Int32)) => match u with | (h1, h2) => r = 1)) (bw (dC, dI) (va_A [(q, .inr (15, fs)), (tr, .inl (c1, 10, .inl f1)), (mu, .inl (c2, 5, .inl f2))] sz) (fun (u : (Nat → Int32) × (Nat → Int32)) => match u with | (h1, h2) => [(q, .inr (15, fs)), (tr, .inl (c1, 10, .inl h1)), (mu, .inl (c2, 5, .inl h2))]) (fun (u : (Nat → Int32) × (Nat → Int32)) => match u with | (h1, h2) => [(c1, .int), (c2, .int)])) (va_A [(q, .inr (15, fs)), (tr, .inl (c1, 10, .inl f1)), (mu, .inl (c2, 5, .inl f2))] sz)) 0 0 (va_A [(q, .inr (15, fs)), (tr, .inl (c1, 10, .inl f1)), (mu, .inl (c2, 5, .inl f2))] sz) := by
  refine Met.ofW (cc := cX15_tryMachine) (maxL := 5) (ret := (some .boolean)) (by decide) rfl ?_
  intro p e s m args below meth c s₁ B hml hv
  obtain ⟨rfl, hsz, hP, hK, hD0⟩ := hv
  have hx := B.exec
  have hb := B.bytes
  have hr := B.returns
  have hts := atoms_spec (ws := Cond.code yX15_tryMachine cX15_tryMachine 5 (some .boolean) :: tb) B.pre
  have ht : ∀ w ∈ tb, w.before _ s = true := fun w h => hts w (List.mem_cons_of_mem _ h)
  have hown : s.vm.findClass RX15 = some m.cls := findClass_of_methodNamed B.named
  have hlocks := B.notSynchronized
  subst hsz
  have hD := hD0.self (sz := s.heap.size)
  generalize hAe : va_A [(q, .inr (15, fs)), (tr, .inl (c1, 10, .inl f1)), (mu, .inl (c2, 5, .inl f2))] s.heap.size = A at hD ⊢
  have hA : ∀ q : Nat, s.heap.size ≤ q → A q := fun q h => by rw [← hAe]; exact Or.inr h
  have hS : va_S A s.heap s.heap [] := va_S.rf
  have hl := lv_entry ([.ref q, .int 1, .int 1, .int 1]) (n := 5) (Nat.le_of_ble_eq_true rfl)
  rw [lg_entry_eq]
  generalize (lg_sl ([.ref q, .int 1, .int 1, .int 1]) ++ List.replicate (5 - (lg_sl ([.ref q, .int 1, .int 1, .int 1])).length) Slot.unset).toArray = ls at hl ⊢
  have hl : lv_has ls 5 [(0, .ref q), (1, .int 1), (2, .int 1), (3, .int 1)] := hl
  have hP : va_P (dC, dI) cls [(q, .inr (15, fs)), (tr, .inl (c1, 10, .inl f1)), (mu, .inl (c2, 5, .inl f2))] s.heap := hP
  refine lv_aload_n hx hb dX15_tryMachine_0 rfl (lv_at hl 0 rfl) ?_
  refine lv_iload_n hx hb dX15_tryMachine_1 rfl (lv_at hl 1 rfl) ?_
  refine ca_i (wr := [(tr, .inl (c1, 10, .inl f1))]) (va_runV (As := [.int 1]) (rest := []) ⟨hx, hb, hml, hown, ht⟩ (r_fits l dC dI s.heap.size q fs tr mu mc go c2 f2 L_fs K128_fs K132_fs K133_fs K135_fs K136_fs ) (cwV 1 ht (gdV k_15_228 k_15_225 k_15_227 ks_233 k_1_17) rfl rfl rfl (by decide +kernel) ⟨Nat.le_of_ble_eq_true rfl, Nat.le_of_ble_eq_true rfl⟩) ⟨pcw_blind, va_recv hK hP (ci := 15) (q0 := 0) rfl rfl, pcw_at hP hD hK [0, 2] [1] (by decide) rfl rfl rfl⟩ rfl rfl hl.1 rfl (lv_room (Nat.le_of_ble_eq_true rfl)) dX15_tryMachine_2 ⟨Nat.le_of_ble_eq_true rfl, Nat.le_of_ble_eq_true rfl⟩) hP hD hK hS hA [0, 2] [1] rfl rfl (by decide) (by decide) (fun r_1 u H locs w_2 hK hP hD hS => ?_)
  obtain ⟨y_3, rfl⟩ : ∃ z, z = u := ⟨_, rfl⟩
  have hK : va_K (dC, dI) cls [(c1, .int), (c2, .int), (c2, .int)] s := hK
  have hP : va_P (dC, dI) cls [(tr, .inl (c1, 10, .inl f1)), (q, .inr (15, fs)), (mu, .inl (c2, 5, .inl y_3))] H := hP
  have hD : va_D A [(tr, .inl (c1, 10, .inl f1)), (q, .inr (15, fs)), (mu, .inl (c2, 5, .inl y_3))] := hD
  obtain rfl : r_1 = 1 := w_2
  refine lv_if_ne (tgt := 10) hx hb dX15_tryMachine_5 (by decide) (fun _ => ?_) (fun c0 => absurd c0 (by decide))
  refine lv_iload_n hx hb dX15_tryMachine_10 rfl (lv_at hl 2 rfl) ?_
  refine lv_iconst (v := 2) hx hb dX15_tryMachine_11 (by decide) ?_
  refine lv_iload_n hx hb dX15_tryMachine_12 rfl (lv_at hl 1 rfl) ?_
  refine lv_imul hx hb dX15_tryMachine_13 ?_
  refine tk_i (y := 2) (by decide) ?_
  refine lv_icmp_ne (tgt := 28) hx hb dX15_tryMachine_14 (by decide) (fun _ => ?_) (fun c0 => absurd c0 (by decide))
  refine lv_iload_n hx hb dX15_tryMachine_28 rfl (lv_at hl 2 rfl) ?_
  refine lv_iconst (v := 2) hx hb dX15_tryMachine_29 (by decide) ?_
  refine lv_idiv hx hb dX15_tryMachine_30 (by decide) ?_
  refine tk_i (y := 0) (by decide) ?_
  refine lv_iload_n hx hb dX15_tryMachine_31 rfl (lv_at hl 3 rfl) ?_
  refine lv_icmp_lt (tgt := 37) hx hb dX15_tryMachine_32 (by decide) (fun _ => ?_) (fun c0 => absurd c0 (by decide))
  refine lv_iconst (v := 0) hx hb dX15_tryMachine_37 (by decide) ?_
  refine lv_istore (lv' := [(4, .int 0), (0, .ref q), (1, .int 1), (2, .int 1), (3, .int 1)]) hx hb dX15_tryMachine_38 hl (by decide) rfl (fun ls hl => ?_)
  refine lv_iload hx hb dX15_tryMachine_40 (lv_at hl 0 rfl) ?_
  refine lv_iload_n hx hb dX15_tryMachine_42 rfl (lv_at hl 4 rfl) ?_
  refine lv_icmp_gt (tgt := 92) hx hb dX15_tryMachine_43 (by decide) (fun c0 => absurd c0 (by decide)) (fun _ => ?_)
  refine lv_iload hx hb dX15_tryMachine_46 (lv_at hl 0 rfl) ?_
  refine lv_iload_n hx hb dX15_tryMachine_48 rfl (lv_at hl 2 rfl) ?_
  refine lv_icmp_ge (tgt := 92) hx hb dX15_tryMachine_49 (by decide) (fun c0 => absurd c0 (by decide)) (fun _ => ?_)
  refine lv_aload_n hx hb dX15_tryMachine_52 rfl (lv_at hl 1 rfl) ?_
  refine va_get (D := (dC, dI)) (ci := 15) (v := .ref tr) (C := RX15) (T := TX15) (N := 163) hx hb ht uX15 hown hK hP 1 rfl rfl 132 (by decide) (ht _ k_11_80) (fun _ h9 => h9) K132_fs dX15_tryMachine_53 ?_
  refine lv_iload_n hx hb dX15_tryMachine_56 rfl (lv_at hl 3 rfl) ?_
  refine lv_iload hx hb dX15_tryMachine_57 (lv_at hl 0 rfl) ?_
  refine va_iast (i := 1) (x := 0) hx hb hK hP hD hS 0 0 rfl rfl (by unfold vp_in; decide) dX15_tryMachine_59 (fun H locs hP hD hS => ?_)
  obtain ⟨f_4, ef_4⟩ : ∃ g : Nat → Int32, g = upd f1 (1 : Int32).toNatClampNeg 0 := ⟨_, rfl⟩
  rw [← ef_4] at hP hD
  have hP : va_P (dC, dI) cls [(tr, .inl (c1, 10, .inl f_4)), (q, .inr (15, fs)), (mu, .inl (c2, 5, .inl y_3))] H := hP
  have hD : va_D A [(tr, .inl (c1, 10, .inl f_4)), (q, .inr (15, fs)), (mu, .inl (c2, 5, .inl y_3))] := hD
  refine lv_aload_n hx hb dX15_tryMachine_60 rfl (lv_at hl 1 rfl) ?_
  refine lv_iload_n hx hb dX15_tryMachine_61 rfl (lv_at hl 2 rfl) ?_
  refine lv_iload_n hx hb dX15_tryMachine_62 rfl (lv_at hl 3 rfl) ?_
  refine lv_iconst (v := 1) hx hb dX15_tryMachine_63 (by decide) ?_
  refine lv_iadd hx hb dX15_tryMachine_64 ?_
  refine tk_i (y := 2) (by decide) ?_
  refine lv_iload hx hb dX15_tryMachine_65 (lv_at hl 0 rfl) ?_
  refine lv_iload_n hx hb dX15_tryMachine_67 rfl (lv_at hl 4 rfl) ?_
  refine lv_icmp_ne (tgt := 77) hx hb dX15_tryMachine_68 (by decide) (fun _ => ?_) (fun c0 => absurd c0 (by decide))
  refine lv_iload_n hx hb dX15_tryMachine_77 rfl (lv_at hl 4 rfl) ?_
  refine ca_i (wr := []) (va_runV (As := [.int 1, .int 2, .int 1]) (rest := []) ⟨hx, hb, hml, hown, ht⟩ (r_tryMachine_2 l dC dI H.size q fs tr mu mc go c1 f_4 c2 y_3 L_fs K128_fs K132_fs K133_fs K135_fs K136_fs ) (cwV 3 ht (gdV k_15_224 k_15_221 k_15_223 ks_232 k_1_17) rfl rfl rfl (by decide +kernel) ⟨Nat.le_of_ble_eq_true rfl, Nat.le_of_ble_eq_true rfl⟩) ⟨pcw_blind, va_recv hK hP (ci := 15) (q0 := 1) rfl rfl, pcw_at hP hD hK [1, 0, 2] [0, 1] (by decide) rfl rfl rfl⟩ rfl rfl hl.1 rfl (lv_room (Nat.le_of_ble_eq_true rfl)) dX15_tryMachine_78 ⟨Nat.le_of_ble_eq_true rfl, Nat.le_of_ble_eq_true rfl⟩) hP hD hK hS hA [1, 0, 2] [] rfl rfl (by decide) (by decide) (fun r_5 u H locs w_6 hK hP hD hS => ?_)
  obtain ⟨y_7, y_8⟩ := u
  have hK : va_K (dC, dI) cls [(c1, .int), (c2, .int), (c2, .int), (c1, .int), (c2, .int)] s := hK
  have hP : va_P (dC, dI) cls [(q, .inr (15, fs)), (tr, .inl (c1, 10, .inl y_7)), (mu, .inl (c2, 5, .inl y_8))] H := hP
  have hD : va_D A [(q, .inr (15, fs)), (tr, .inl (c1, 10, .inl y_7)), (mu, .inl (c2, 5, .inl y_8))] := hD
  obtain rfl : r_5 = 1 := w_6
  refine lv_if_eq (tgt := 86) hx hb dX15_tryMachine_81 (by decide) (fun c0 => absurd c0 (by decide)) (fun _ => ?_)
  refine lv_iconst (v := 1) hx hb dX15_tryMachine_84 (by decide) ?_
  exact W.zret (v := 1) hx hb hr rfl (fun t ht9 hW => ⟨⟨1, (y_7, y_8), rfl, rfl, by rw [ht9]; exact hP.sub [0, 1, 2] rfl, va_K.moved hW.alike (hK.sub [0, 1] rfl), hD.sub [0, 1, 2] (by decide) rfl⟩, hS.F ht9⟩) hS.2.2 dX15_tryMachine_85
set_option maxHeartbeats 4000000 in
set_option maxRecDepth 100000 in
theorem r_tryMachine_0 (l : Launch) (dC : Nat → ClassId) (dI : Nat → Nat → Nat) (sz : Nat) (q : Nat) (fs : List Value) (tr : Nat) (mu : Nat) (mc : Nat) (go : Nat) (c1 : ClassId) (f1 : Nat → Int32) (c2 : ClassId) (f2 : Nat → Int32) (L_fs : fs.length = 163) (K128_fs : fs[128]? = some (.int 0)) (K132_fs : fs[132]? = some (.ref tr)) (K133_fs : fs[133]? = some (.ref mu)) (K135_fs : fs[135]? = some (.ref mc)) (K136_fs : fs[136]? = some (.ref go)) : Met l yX15_tryMachine (Cond.code yX15_tryMachine cX15_tryMachine 5 (some .boolean) :: tb) ({ frames := 3, cells := 0, slots := 0, locals := 72 }) (pcw [.ref q, .int 1, .int 0, .int 1] (dC, dI) [(q, .inr (15, fs)), (tr, .inl (c1, 10, .inl f1)), (mu, .inl (c2, 5, .inl f2))] [(c1, .int), (c2, .int)] sz) (va_Qi (fun (r : Int32) => (fun (u : (Nat → Int32) × (Nat → Int32)) => match u with | (h1, h2) => r = 1)) (bw (dC, dI) (va_A [(q, .inr (15, fs)), (tr, .inl (c1, 10, .inl f1)), (mu, .inl (c2, 5, .inl f2))] sz) (fun (u : (Nat → Int32) × (Nat → Int32)) => match u with | (h1, h2) => [(q, .inr (15, fs)), (tr, .inl (c1, 10, .inl h1)), (mu, .inl (c2, 5, .inl h2))]) (fun (u : (Nat → Int32) × (Nat → Int32)) => match u with | (h1, h2) => [(c1, .int), (c2, .int)])) (va_A [(q, .inr (15, fs)), (tr, .inl (c1, 10, .inl f1)), (mu, .inl (c2, 5, .inl f2))] sz)) 0 0 (va_A [(q, .inr (15, fs)), (tr, .inl (c1, 10, .inl f1)), (mu, .inl (c2, 5, .inl f2))] sz) := by
  refine Met.ofW (cc := cX15_tryMachine) (maxL := 5) (ret := (some .boolean)) (by decide) rfl ?_
  intro p e s m args below meth c s₁ B hml hv
  obtain ⟨rfl, hsz, hP, hK, hD0⟩ := hv
  have hx := B.exec
  have hb := B.bytes
  have hr := B.returns
  have hts := atoms_spec (ws := Cond.code yX15_tryMachine cX15_tryMachine 5 (some .boolean) :: tb) B.pre
  have ht : ∀ w ∈ tb, w.before _ s = true := fun w h => hts w (List.mem_cons_of_mem _ h)
  have hown : s.vm.findClass RX15 = some m.cls := findClass_of_methodNamed B.named
  have hlocks := B.notSynchronized
  subst hsz
  have hD := hD0.self (sz := s.heap.size)
  generalize hAe : va_A [(q, .inr (15, fs)), (tr, .inl (c1, 10, .inl f1)), (mu, .inl (c2, 5, .inl f2))] s.heap.size = A at hD ⊢
  have hA : ∀ q : Nat, s.heap.size ≤ q → A q := fun q h => by rw [← hAe]; exact Or.inr h
  have hS : va_S A s.heap s.heap [] := va_S.rf
  have hl := lv_entry ([.ref q, .int 1, .int 0, .int 1]) (n := 5) (Nat.le_of_ble_eq_true rfl)
  rw [lg_entry_eq]
  generalize (lg_sl ([.ref q, .int 1, .int 0, .int 1]) ++ List.replicate (5 - (lg_sl ([.ref q, .int 1, .int 0, .int 1])).length) Slot.unset).toArray = ls at hl ⊢
  have hl : lv_has ls 5 [(0, .ref q), (1, .int 1), (2, .int 0), (3, .int 1)] := hl
  have hP : va_P (dC, dI) cls [(q, .inr (15, fs)), (tr, .inl (c1, 10, .inl f1)), (mu, .inl (c2, 5, .inl f2))] s.heap := hP
  refine lv_aload_n hx hb dX15_tryMachine_0 rfl (lv_at hl 0 rfl) ?_
  refine lv_iload_n hx hb dX15_tryMachine_1 rfl (lv_at hl 1 rfl) ?_
  refine ca_i (wr := [(tr, .inl (c1, 10, .inl f1))]) (va_runV (As := [.int 1]) (rest := []) ⟨hx, hb, hml, hown, ht⟩ (r_fits l dC dI s.heap.size q fs tr mu mc go c2 f2 L_fs K128_fs K132_fs K133_fs K135_fs K136_fs ) (cwV 1 ht (gdV k_15_228 k_15_225 k_15_227 ks_233 k_1_17) rfl rfl rfl (by decide +kernel) ⟨Nat.le_of_ble_eq_true rfl, Nat.le_of_ble_eq_true rfl⟩) ⟨pcw_blind, va_recv hK hP (ci := 15) (q0 := 0) rfl rfl, pcw_at hP hD hK [0, 2] [1] (by decide) rfl rfl rfl⟩ rfl rfl hl.1 rfl (lv_room (Nat.le_of_ble_eq_true rfl)) dX15_tryMachine_2 ⟨Nat.le_of_ble_eq_true rfl, Nat.le_of_ble_eq_true rfl⟩) hP hD hK hS hA [0, 2] [1] rfl rfl (by decide) (by decide) (fun r_1 u H locs w_2 hK hP hD hS => ?_)
  obtain ⟨y_3, rfl⟩ : ∃ z, z = u := ⟨_, rfl⟩
  have hK : va_K (dC, dI) cls [(c1, .int), (c2, .int), (c2, .int)] s := hK
  have hP : va_P (dC, dI) cls [(tr, .inl (c1, 10, .inl f1)), (q, .inr (15, fs)), (mu, .inl (c2, 5, .inl y_3))] H := hP
  have hD : va_D A [(tr, .inl (c1, 10, .inl f1)), (q, .inr (15, fs)), (mu, .inl (c2, 5, .inl y_3))] := hD
  obtain rfl : r_1 = 1 := w_2
  refine lv_if_ne (tgt := 10) hx hb dX15_tryMachine_5 (by decide) (fun _ => ?_) (fun c0 => absurd c0 (by decide))
  refine lv_iload_n hx hb dX15_tryMachine_10 rfl (lv_at hl 2 rfl) ?_
  refine lv_iconst (v := 2) hx hb dX15_tryMachine_11 (by decide) ?_
  refine lv_iload_n hx hb dX15_tryMachine_12 rfl (lv_at hl 1 rfl) ?_
  refine lv_imul hx hb dX15_tryMachine_13 ?_
  refine tk_i (y := 2) (by decide) ?_
  refine lv_icmp_ne (tgt := 28) hx hb dX15_tryMachine_14 (by decide) (fun _ => ?_) (fun c0 => absurd c0 (by decide))
  refine lv_iload_n hx hb dX15_tryMachine_28 rfl (lv_at hl 2 rfl) ?_
  refine lv_iconst (v := 2) hx hb dX15_tryMachine_29 (by decide) ?_
  refine lv_idiv hx hb dX15_tryMachine_30 (by decide) ?_
  refine tk_i (y := 0) (by decide) ?_
  refine lv_iload_n hx hb dX15_tryMachine_31 rfl (lv_at hl 3 rfl) ?_
  refine lv_icmp_lt (tgt := 37) hx hb dX15_tryMachine_32 (by decide) (fun _ => ?_) (fun c0 => absurd c0 (by decide))
  refine lv_iconst (v := 0) hx hb dX15_tryMachine_37 (by decide) ?_
  refine lv_istore (lv' := [(4, .int 0), (0, .ref q), (1, .int 1), (2, .int 0), (3, .int 1)]) hx hb dX15_tryMachine_38 hl (by decide) rfl (fun ls hl => ?_)
  refine lv_iload hx hb dX15_tryMachine_40 (lv_at hl 0 rfl) ?_
  refine lv_iload_n hx hb dX15_tryMachine_42 rfl (lv_at hl 4 rfl) ?_
  refine lv_icmp_gt (tgt := 92) hx hb dX15_tryMachine_43 (by decide) (fun c0 => absurd c0 (by decide)) (fun _ => ?_)
  refine lv_iload hx hb dX15_tryMachine_46 (lv_at hl 0 rfl) ?_
  refine lv_iload_n hx hb dX15_tryMachine_48 rfl (lv_at hl 2 rfl) ?_
  refine lv_icmp_ge (tgt := 92) hx hb dX15_tryMachine_49 (by decide) (fun c0 => absurd c0 (by decide)) (fun _ => ?_)
  refine lv_aload_n hx hb dX15_tryMachine_52 rfl (lv_at hl 1 rfl) ?_
  refine va_get (D := (dC, dI)) (ci := 15) (v := .ref tr) (C := RX15) (T := TX15) (N := 163) hx hb ht uX15 hown hK hP 1 rfl rfl 132 (by decide) (ht _ k_11_80) (fun _ h9 => h9) K132_fs dX15_tryMachine_53 ?_
  refine lv_iload_n hx hb dX15_tryMachine_56 rfl (lv_at hl 3 rfl) ?_
  refine lv_iload hx hb dX15_tryMachine_57 (lv_at hl 0 rfl) ?_
  refine va_iast (i := 0) (x := 0) hx hb hK hP hD hS 0 0 rfl rfl (by unfold vp_in; decide) dX15_tryMachine_59 (fun H locs hP hD hS => ?_)
  obtain ⟨f_4, ef_4⟩ : ∃ g : Nat → Int32, g = upd f1 (0 : Int32).toNatClampNeg 0 := ⟨_, rfl⟩
  rw [← ef_4] at hP hD
  have hP : va_P (dC, dI) cls [(tr, .inl (c1, 10, .inl f_4)), (q, .inr (15, fs)), (mu, .inl (c2, 5, .inl y_3))] H := hP
  have hD : va_D A [(tr, .inl (c1, 10, .inl f_4)), (q, .inr (15, fs)), (mu, .inl (c2, 5, .inl y_3))] := hD
  refine lv_aload_n hx hb dX15_tryMachine_60 rfl (lv_at hl 1 rfl) ?_
  refine lv_iload_n hx hb dX15_tryMachine_61 rfl (lv_at hl 2 rfl) ?_
  refine lv_iload_n hx hb dX15_tryMachine_62 rfl (lv_at hl 3 rfl) ?_
  refine lv_iconst (v := 1) hx hb dX15_tryMachine_63 (by decide) ?_
  refine lv_iadd hx hb dX15_tryMachine_64 ?_
  refine tk_i (y := 1) (by decide) ?_
  refine lv_iload hx hb dX15_tryMachine_65 (lv_at hl 0 rfl) ?_
  refine lv_iload_n hx hb dX15_tryMachine_67 rfl (lv_at hl 4 rfl) ?_
  refine lv_icmp_ne (tgt := 77) hx hb dX15_tryMachine_68 (by decide) (fun _ => ?_) (fun c0 => absurd c0 (by decide))
  refine lv_iload_n hx hb dX15_tryMachine_77 rfl (lv_at hl 4 rfl) ?_
  refine ca_i (wr := []) (va_runV (As := [.int 1, .int 1, .int 1]) (rest := []) ⟨hx, hb, hml, hown, ht⟩ (r_tryMachine_1 l dC dI H.size q fs tr mu mc go c1 f_4 c2 y_3 L_fs K128_fs K132_fs K133_fs K135_fs K136_fs ) (cwV 3 ht (gdV k_15_224 k_15_221 k_15_223 ks_232 k_1_17) rfl rfl rfl (by decide +kernel) ⟨Nat.le_of_ble_eq_true rfl, Nat.le_of_ble_eq_true rfl⟩) ⟨pcw_blind, va_recv hK hP (ci := 15) (q0 := 1) rfl rfl, pcw_at hP hD hK [1, 0, 2] [0, 1] (by decide) rfl rfl rfl⟩ rfl rfl hl.1 rfl (lv_room (Nat.le_of_ble_eq_true rfl)) dX15_tryMachine_78 ⟨Nat.le_of_ble_eq_true rfl, Nat.le_of_ble_eq_true rfl⟩) hP hD hK hS hA [1, 0, 2] [] rfl rfl (by decide) (by decide) (fun r_5 u H locs w_6 hK hP hD hS => ?_)
  obtain ⟨y_7, y_8⟩ := u
  have hK : va_K (dC, dI) cls [(c1, .int), (c2, .int), (c2, .int), (c1, .int), (c2, .int)] s := hK
  have hP : va_P (dC, dI) cls [(q, .inr (15, fs)), (tr, .inl (c1, 10, .inl y_7)), (mu, .inl (c2, 5, .inl y_8))] H := hP
  have hD : va_D A [(q, .inr (15, fs)), (tr, .inl (c1, 10, .inl y_7)), (mu, .inl (c2, 5, .inl y_8))] := hD
  obtain rfl : r_5 = 1 := w_6
  refine lv_if_eq (tgt := 86) hx hb dX15_tryMachine_81 (by decide) (fun c0 => absurd c0 (by decide)) (fun _ => ?_)
  refine lv_iconst (v := 1) hx hb dX15_tryMachine_84 (by decide) ?_
  exact W.zret (v := 1) hx hb hr rfl (fun t ht9 hW => ⟨⟨1, (y_7, y_8), rfl, rfl, by rw [ht9]; exact hP.sub [0, 1, 2] rfl, va_K.moved hW.alike (hK.sub [0, 1] rfl), hD.sub [0, 1, 2] (by decide) rfl⟩, hS.F ht9⟩) hS.2.2 dX15_tryMachine_85
set_option maxHeartbeats 4000000 in
set_option maxRecDepth 100000 in
theorem r_isDown_machine (l : Launch) (dC : Nat → ClassId) (dI : Nat → Nat → Nat) (sz : Nat) (q : Nat) (fs : List Value) (tr : Nat) (mu : Nat) (mc : Nat) (go : Nat) (L_fs : fs.length = 163) (K54_fs : fs[54]? = some (.int 0)) (K128_fs : fs[128]? = some (.int 0)) (K132_fs : fs[132]? = some (.ref tr)) (K133_fs : fs[133]? = some (.ref mu)) (K135_fs : fs[135]? = some (.ref mc)) (K136_fs : fs[136]? = some (.ref go)) : Met l yX15_isDown (Cond.code yX15_isDown cX15_isDown 1 (some .boolean) :: tb) ({ frames := 0, cells := 0, slots := 0, locals := 0 }) (pcw [.ref q] (dC, dI) [(q, .inr (15, fs))] [] sz) (va_Qi (fun (r : Int32) => (fun (fs1 : List Value) => (r = 0) ∧ (fs1.length = 163) ∧ (fs1[51]? = some (.int 0)) ∧ (fs1[54]? = some (.int 0)) ∧ (fs1[128]? = some (.int 0)) ∧ (fs1[132]? = some (.ref tr)) ∧ (fs1[133]? = some (.ref mu)) ∧ (fs1[135]? = some (.ref mc)) ∧ (fs1[136]? = some (.ref go)))) (bw (dC, dI) (va_A [(q, .inr (15, fs))] sz) (fun (fs1 : List Value) => [(q, .inr (15, fs1))]) (fun (fs1 : List Value) => [])) (va_A [(q, .inr (15, fs))] sz)) 0 0 (va_A [(q, .inr (15, fs))] sz) := by
  refine Met.ofW (cc := cX15_isDown) (maxL := 1) (ret := (some .boolean)) (by decide) rfl ?_
  intro p e s m args below meth c s₁ B hml hv
  obtain ⟨rfl, hsz, hP, hK, hD0⟩ := hv
  have hx := B.exec
  have hb := B.bytes
  have hr := B.returns
  have hts := atoms_spec (ws := Cond.code yX15_isDown cX15_isDown 1 (some .boolean) :: tb) B.pre
  have ht : ∀ w ∈ tb, w.before _ s = true := fun w h => hts w (List.mem_cons_of_mem _ h)
  have hown : s.vm.findClass RX15 = some m.cls := findClass_of_methodNamed B.named
  have hlocks := B.notSynchronized
  subst hsz
  have hD := hD0.self (sz := s.heap.size)
  generalize hAe : va_A [(q, .inr (15, fs))] s.heap.size = A at hD ⊢
  have hA : ∀ q : Nat, s.heap.size ≤ q → A q := fun q h => by rw [← hAe]; exact Or.inr h
  have hS : va_S A s.heap s.heap [] := va_S.rf
  have hl := lv_entry ([.ref q]) (n := 1) (Nat.le_of_ble_eq_true rfl)
  rw [lg_entry_eq]
  generalize (lg_sl ([.ref q]) ++ List.replicate (1 - (lg_sl ([.ref q])).length) Slot.unset).toArray = ls at hl ⊢
  have hl : lv_has ls 1 [(0, .ref q)] := hl
  have hP : va_P (dC, dI) cls [(q, .inr (15, fs))] s.heap := hP
  refine lv_aload_n hx hb dX15_isDown_0 rfl (lv_at hl 0 rfl) ?_
  refine lv_iconst (v := 0) hx hb dX15_isDown_1 (by decide) ?_
  refine va_put (D := (dC, dI)) (ci := 15) (v := .int 0) (ty := .int) (C := RX15) (T := TX15) (N := 163) hx hb ht uX15 tyX15 tkX15 nmX15 hown hK hP hD hS 0 rfl rfl 51 (by decide) (ht _ k_10_239) (fun _ h9 => h9) rfl (by decide +kernel) rfl rfl (by rw [L_fs]; decide) dX15_isDown_2 (fun H locs hP hD hS => ?_)
  obtain ⟨F_1, eF_1⟩ : ∃ g : List Value, g = fs.set 51 (.int 0) := ⟨_, rfl⟩
  rw [← eF_1] at hP hD
  have K54_F_1 : F_1[54]? = some (.int 0) := by rw [eF_1, List.getElem?_set_ne (by decide)]; exact K54_fs
  have K128_F_1 : F_1[128]? = some (.int 0) := by rw [eF_1, List.getElem?_set_ne (by decide)]; exact K128_fs
  have K132_F_1 : F_1[132]? = some (.ref tr) := by rw [eF_1, List.getElem?_set_ne (by decide)]; exact K132_fs
  have K133_F_1 : F_1[133]? = some (.ref mu) := by rw [eF_1, List.getElem?_set_ne (by decide)]; exact K133_fs
  have K135_F_1 : F_1[135]? = some (.ref mc) := by rw [eF_1, List.getElem?_set_ne (by decide)]; exact K135_fs
  have K136_F_1 : F_1[136]? = some (.ref go) := by rw [eF_1, List.getElem?_set_ne (by decide)]; exact K136_fs
  have K51_F_1 : F_1[51]? = some (.int 0) := by rw [eF_1]; exact List.getElem?_set_self (by rw [L_fs]; decide)
  have L_F_1 : F_1.length = 163 := by rw [eF_1, List.length_set]; exact L_fs
  have hP : va_P (dC, dI) cls [(q, .inr (15, F_1))] H := hP
  have hD : va_D A [(q, .inr (15, F_1))] := hD
  refine lv_aload_n hx hb dX15_isDown_5 rfl (lv_at hl 0 rfl) ?_
  refine va_get (D := (dC, dI)) (ci := 15) (v := .int 0) (C := RX15) (T := TX15) (N := 163) hx hb ht uX15 hown hK hP 0 rfl rfl 54 (by decide) (ht _ k_11_2) (fun _ h9 => h9) K54_F_1 dX15_isDown_6 ?_
  exact W.zret (v := 0) hx hb hr rfl (fun t ht9 hW => ⟨⟨0, (F_1), rfl, ⟨rfl, L_F_1, K51_F_1, K54_F_1, K128_F_1, K132_F_1, K133_F_1, K135_F_1, K136_F_1⟩, by rw [ht9]; exact hP.sub [0] rfl, va_K.moved hW.alike (hK.sub [] rfl), hD.sub [0] (by decide) rfl⟩, hS.F ht9⟩) hS.2.2 dX15_isDown_9
set_option maxHeartbeats 4000000 in
set_option maxRecDepth 100000 in
theorem r_machine (l : Launch) (dC : Nat → ClassId) (dI : Nat → Nat → Nat) (sz : Nat) (q : Nat) (fs : List Value) (tr : Nat) (mu : Nat) (mc : Nat) (go : Nat) (c1 : ClassId) (f1 : Nat → Int32) (c2 : ClassId) (f2 : Nat → Int32) (c3 : ClassId) (f3 : Nat → Int32) (c4 : ClassId) (f4 : Nat → Int32) (L_fs : fs.length = 163) (K54_fs : fs[54]? = some (.int 0)) (K128_fs : fs[128]? = some (.int 0)) (K132_fs : fs[132]? = some (.ref tr)) (K133_fs : fs[133]? = some (.ref mu)) (K135_fs : fs[135]? = some (.ref mc)) (K136_fs : fs[136]? = some (.ref go)) : Met l yX15_machine (Cond.code yX15_machine cX15_machine 4 (some .int) :: tb) ({ frames := 4, cells := 0, slots := 0, locals := 96 }) (pcw [.ref q] (dC, dI) [(q, .inr (15, fs)), (tr, .inl (c1, 10, .inl f1)), (mu, .inl (c2, 5, .inl f2)), (mc, .inl (c3, 10, .inl f3)), (go, .inl (c4, 5, .inl f4))] [(c1, .int), (c2, .int), (c3, .int), (c4, .boolean)] sz) (va_Qi (fun (r : Int32) => (fun (_ : Unit) => r = 1)) (bw (dC, dI) (va_A [(q, .inr (15, fs)), (tr, .inl (c1, 10, .inl f1)), (mu, .inl (c2, 5, .inl f2)), (mc, .inl (c3, 10, .inl f3)), (go, .inl (c4, 5, .inl f4))] sz) (fun (_ : Unit) => []) (fun (_ : Unit) => [])) (va_A [(q, .inr (15, fs)), (tr, .inl (c1, 10, .inl f1)), (mu, .inl (c2, 5, .inl f2)), (mc, .inl (c3, 10, .inl f3)), (go, .inl (c4, 5, .inl f4))] sz)) 0 0 (va_A [(q, .inr (15, fs)), (tr, .inl (c1, 10, .inl f1)), (mu, .inl (c2, 5, .inl f2)), (mc, .inl (c3, 10, .inl f3)), (go, .inl (c4, 5, .inl f4))] sz) := by
  refine Met.ofW (cc := cX15_machine) (maxL := 4) (ret := (some .int)) (by decide) rfl ?_
  intro p e s m args below meth c s₁ B hml hv
  obtain ⟨rfl, hsz, hP, hK, hD0⟩ := hv
  have hx := B.exec
  have hb := B.bytes
  have hr := B.returns
  have hts := atoms_spec (ws := Cond.code yX15_machine cX15_machine 4 (some .int) :: tb) B.pre
  have ht : ∀ w ∈ tb, w.before _ s = true := fun w h => hts w (List.mem_cons_of_mem _ h)
  have hown : s.vm.findClass RX15 = some m.cls := findClass_of_methodNamed B.named
  have hlocks := B.notSynchronized
  subst hsz
  have hD := hD0.self (sz := s.heap.size)
  generalize hAe : va_A [(q, .inr (15, fs)), (tr, .inl (c1, 10, .inl f1)), (mu, .inl (c2, 5, .inl f2)), (mc, .inl (c3, 10, .inl f3)), (go, .inl (c4, 5, .inl f4))] s.heap.size = A at hD ⊢
  have hA : ∀ q : Nat, s.heap.size ≤ q → A q := fun q h => by rw [← hAe]; exact Or.inr h
  have hS : va_S A s.heap s.heap [] := va_S.rf
  have hl := lv_entry ([.ref q]) (n := 4) (Nat.le_of_ble_eq_true rfl)
  rw [lg_entry_eq]
  generalize (lg_sl ([.ref q]) ++ List.replicate (4 - (lg_sl ([.ref q])).length) Slot.unset).toArray = ls at hl ⊢
  have hl : lv_has ls 4 [(0, .ref q)] := hl
  have hP : va_P (dC, dI) cls [(q, .inr (15, fs)), (tr, .inl (c1, 10, .inl f1)), (mu, .inl (c2, 5, .inl f2)), (mc, .inl (c3, 10, .inl f3)), (go, .inl (c4, 5, .inl f4))] s.heap := hP
  refine lv_aload_n hx hb dX15_machine_0 rfl (lv_at hl 0 rfl) ?_
  refine ca_i (wr := [(tr, .inl (c1, 10, .inl f1)), (mu, .inl (c2, 5, .inl f2)), (mc, .inl (c3, 10, .inl f3)), (go, .inl (c4, 5, .inl f4))]) (va_runV (As := []) (rest := []) ⟨hx, hb, hml, hown, ht⟩ (r_isDown_machine l dC dI s.heap.size q fs tr mu mc go L_fs K54_fs K128_fs K132_fs K133_fs K135_fs K136_fs ) (cwV 0 ht (gdV k_12_228 k_12_225 k_12_227 ks_112 k_1_17) rfl rfl rfl (by decide +kernel) ⟨Nat.le_of_ble_eq_true rfl, Nat.le_of_ble_eq_true rfl⟩) ⟨pcw_blind, va_recv hK hP (ci := 15) (q0 := 0) rfl rfl, pcw_at hP hD hK [0] [] (by decide) rfl rfl rfl⟩ rfl rfl hl.1 rfl (lv_room (Nat.le_of_ble_eq_true rfl)) dX15_machine_1 ⟨Nat.le_of_ble_eq_true rfl, Nat.le_of_ble_eq_true rfl⟩) hP hD hK hS hA [0] [1, 2, 3, 4] rfl rfl (by decide) (by decide) (fun r_1 u H locs w_2 hK hP hD hS => ?_)
  obtain ⟨F_3, rfl⟩ : ∃ z, z = u := ⟨_, rfl⟩
  have hK : va_K (dC, dI) cls [(c1, .int), (c2, .int), (c3, .int), (c4, .boolean)] s := hK
  have hP : va_P (dC, dI) cls [(tr, .inl (c1, 10, .inl f1)), (mu, .inl (c2, 5, .inl f2)), (mc, .inl (c3, 10, .inl f3)), (go, .inl (c4, 5, .inl f4)), (q, .inr (15, F_3))] H := hP
  have hD : va_D A [(tr, .inl (c1, 10, .inl f1)), (mu, .inl (c2, 5, .inl f2)), (mc, .inl (c3, 10, .inl f3)), (go, .inl (c4, 5, .inl f4)), (q, .inr (15, F_3))] := hD
  obtain ⟨w_2, K_4, K_5, K_6, K_7, K_8, K_9, K_10, K_11⟩ := w_2
  obtain rfl : r_1 = 0 := w_2
  refine lv_if_eq (tgt := 10) hx hb dX15_machine_4 (by decide) (fun _ => ?_) (fun c0 => absurd c0 (by decide))
  refine lv_iconst (v := 1) hx hb dX15_machine_10 (by decide) ?_
  refine lv_istore_n (lv' := [(1, .int 1), (0, .ref q)]) hx hb dX15_machine_11 rfl hl (by decide) rfl (fun ls hl => ?_)
  refine lv_iload_n hx hb dX15_machine_12 rfl (lv_at hl 0 rfl) ?_
  refine lv_bipush (v := 6) hx hb dX15_machine_13 (by decide) ?_
  refine lv_icmp_ge (tgt := 132) hx hb dX15_machine_15 (by decide) (fun c0 => absurd c0 (by decide)) (fun _ => ?_)
  refine lv_iconst (v := 0) hx hb dX15_machine_18 (by decide) ?_
  refine lv_istore_n (lv' := [(2, .int 0), (1, .int 1), (0, .ref q)]) hx hb dX15_machine_19 rfl hl (by decide) rfl (fun ls hl => ?_)
  refine lv_iload_n hx hb dX15_machine_20 rfl (lv_at hl 0 rfl) ?_
  refine lv_bipush (v := 10) hx hb dX15_machine_21 (by decide) ?_
  refine lv_icmp_ge (tgt := 39) hx hb dX15_machine_23 (by decide) (fun c0 => absurd c0 (by decide)) (fun _ => ?_)
  refine lv_aload_n hx hb dX15_machine_26 rfl (lv_at hl 2 rfl) ?_
  refine va_get (D := (dC, dI)) (ci := 15) (v := .ref tr) (C := RX15) (T := TX15) (N := 163) hx hb ht uX15 hown hK hP 4 rfl rfl 132 (by decide) (ht _ k_11_80) (fun _ h9 => h9) K_8 dX15_machine_27 ?_
  refine lv_iload_n hx hb dX15_machine_30 rfl (lv_at hl 0 rfl) ?_
  refine lv_iconst (v := (-1)) hx hb dX15_machine_31 (by decide) ?_
  refine va_iast (i := 0) (x := (-1)) hx hb hK hP hD hS 0 0 rfl rfl (by unfold vp_in; decide) dX15_machine_32 (fun H locs hP hD hS => ?_)
  obtain ⟨f_12, ef_12⟩ : ∃ g : Nat → Int32, g = upd f1 (0 : Int32).toNatClampNeg (-1) := ⟨_, rfl⟩
  rw [← ef_12] at hP hD
  have hP : va_P (dC, dI) cls [(tr, .inl (c1, 10, .inl f_12)), (mu, .inl (c2, 5, .inl f2)), (mc, .inl (c3, 10, .inl f3)), (go, .inl (c4, 5, .inl f4)), (q, .inr (15, F_3))] H := hP
  have hD : va_D A [(tr, .inl (c1, 10, .inl f_12)), (mu, .inl (c2, 5, .inl f2)), (mc, .inl (c3, 10, .inl f3)), (go, .inl (c4, 5, .inl f4)), (q, .inr (15, F_3))] := hD
  refine lv_iinc (v := 1) (lv' := [(2, .int 1), (1, .int 1), (0, .ref q)]) hx hb dX15_machine_33 hl (k := 0) rfl (by decide) (by decide) rfl (fun ls hl => ?_)
  refine lv_goto (tgt := 20) hx hb dX15_machine_36 (by decide) ?_
  refine lv_iload_n hx hb dX15_machine_20 rfl (lv_at hl 0 rfl) ?_
  refine lv_bipush (v := 10) hx hb dX15_machine_21 (by decide) ?_
  refine lv_icmp_ge (tgt := 39) hx hb dX15_machine_23 (by decide) (fun c0 => absurd c0 (by decide)) (fun _ => ?_)
  refine lv_aload_n hx hb dX15_machine_26 rfl (lv_at hl 2 rfl) ?_
  refine va_get (D := (dC, dI)) (ci := 15) (v := .ref tr) (C := RX15) (T := TX15) (N := 163) hx hb ht uX15 hown hK hP 4 rfl rfl 132 (by decide) (ht _ k_11_80) (fun _ h9 => h9) K_8 dX15_machine_27 ?_
  refine lv_iload_n hx hb dX15_machine_30 rfl (lv_at hl 0 rfl) ?_
  refine lv_iconst (v := (-1)) hx hb dX15_machine_31 (by decide) ?_
  refine va_iast (i := 1) (x := (-1)) hx hb hK hP hD hS 0 0 rfl rfl (by unfold vp_in; decide) dX15_machine_32 (fun H locs hP hD hS => ?_)
  obtain ⟨f_13, ef_13⟩ : ∃ g : Nat → Int32, g = upd f_12 (1 : Int32).toNatClampNeg (-1) := ⟨_, rfl⟩
  rw [← ef_13] at hP hD
  have hP : va_P (dC, dI) cls [(tr, .inl (c1, 10, .inl f_13)), (mu, .inl (c2, 5, .inl f2)), (mc, .inl (c3, 10, .inl f3)), (go, .inl (c4, 5, .inl f4)), (q, .inr (15, F_3))] H := hP
  have hD : va_D A [(tr, .inl (c1, 10, .inl f_13)), (mu, .inl (c2, 5, .inl f2)), (mc, .inl (c3, 10, .inl f3)), (go, .inl (c4, 5, .inl f4)), (q, .inr (15, F_3))] := hD
  refine lv_iinc (v := 2) (lv' := [(2, .int 2), (1, .int 1), (0, .ref q)]) hx hb dX15_machine_33 hl (k := 0) rfl (by decide) (by decide) rfl (fun ls hl => ?_)
  refine lv_goto (tgt := 20) hx hb dX15_machine_36 (by decide) ?_
  refine lv_iload_n hx hb dX15_machine_20 rfl (lv_at hl 0 rfl) ?_
  refine lv_bipush (v := 10) hx hb dX15_machine_21 (by decide) ?_
  refine lv_icmp_ge (tgt := 39) hx hb dX15_machine_23 (by decide) (fun c0 => absurd c0 (by decide)) (fun _ => ?_)
  refine lv_aload_n hx hb dX15_machine_26 rfl (lv_at hl 2 rfl) ?_
  refine va_get (D := (dC, dI)) (ci := 15) (v := .ref tr) (C := RX15) (T := TX15) (N := 163) hx hb ht uX15 hown hK hP 4 rfl rfl 132 (by decide) (ht _ k_11_80) (fun _ h9 => h9) K_8 dX15_machine_27 ?_
  refine lv_iload_n hx hb dX15_machine_30 rfl (lv_at hl 0 rfl) ?_
  refine lv_iconst (v := (-1)) hx hb dX15_machine_31 (by decide) ?_
  refine va_iast (i := 2) (x := (-1)) hx hb hK hP hD hS 0 0 rfl rfl (by unfold vp_in; decide) dX15_machine_32 (fun H locs hP hD hS => ?_)
  obtain ⟨f_14, ef_14⟩ : ∃ g : Nat → Int32, g = upd f_13 (2 : Int32).toNatClampNeg (-1) := ⟨_, rfl⟩
  rw [← ef_14] at hP hD
  have hP : va_P (dC, dI) cls [(tr, .inl (c1, 10, .inl f_14)), (mu, .inl (c2, 5, .inl f2)), (mc, .inl (c3, 10, .inl f3)), (go, .inl (c4, 5, .inl f4)), (q, .inr (15, F_3))] H := hP
  have hD : va_D A [(tr, .inl (c1, 10, .inl f_14)), (mu, .inl (c2, 5, .inl f2)), (mc, .inl (c3, 10, .inl f3)), (go, .inl (c4, 5, .inl f4)), (q, .inr (15, F_3))] := hD
  refine lv_iinc (v := 3) (lv' := [(2, .int 3), (1, .int 1), (0, .ref q)]) hx hb dX15_machine_33 hl (k := 0) rfl (by decide) (by decide) rfl (fun ls hl => ?_)
  refine lv_goto (tgt := 20) hx hb dX15_machine_36 (by decide) ?_
  refine lv_iload_n hx hb dX15_machine_20 rfl (lv_at hl 0 rfl) ?_
  refine lv_bipush (v := 10) hx hb dX15_machine_21 (by decide) ?_
  refine lv_icmp_ge (tgt := 39) hx hb dX15_machine_23 (by decide) (fun c0 => absurd c0 (by decide)) (fun _ => ?_)
  refine lv_aload_n hx hb dX15_machine_26 rfl (lv_at hl 2 rfl) ?_
  refine va_get (D := (dC, dI)) (ci := 15) (v := .ref tr) (C := RX15) (T := TX15) (N := 163) hx hb ht uX15 hown hK hP 4 rfl rfl 132 (by decide) (ht _ k_11_80) (fun _ h9 => h9) K_8 dX15_machine_27 ?_
  refine lv_iload_n hx hb dX15_machine_30 rfl (lv_at hl 0 rfl) ?_
  refine lv_iconst (v := (-1)) hx hb dX15_machine_31 (by decide) ?_
  refine va_iast (i := 3) (x := (-1)) hx hb hK hP hD hS 0 0 rfl rfl (by unfold vp_in; decide) dX15_machine_32 (fun H locs hP hD hS => ?_)
  obtain ⟨f_15, ef_15⟩ : ∃ g : Nat → Int32, g = upd f_14 (3 : Int32).toNatClampNeg (-1) := ⟨_, rfl⟩
  rw [← ef_15] at hP hD
  have hP : va_P (dC, dI) cls [(tr, .inl (c1, 10, .inl f_15)), (mu, .inl (c2, 5, .inl f2)), (mc, .inl (c3, 10, .inl f3)), (go, .inl (c4, 5, .inl f4)), (q, .inr (15, F_3))] H := hP
  have hD : va_D A [(tr, .inl (c1, 10, .inl f_15)), (mu, .inl (c2, 5, .inl f2)), (mc, .inl (c3, 10, .inl f3)), (go, .inl (c4, 5, .inl f4)), (q, .inr (15, F_3))] := hD
  refine lv_iinc (v := 4) (lv' := [(2, .int 4), (1, .int 1), (0, .ref q)]) hx hb dX15_machine_33 hl (k := 0) rfl (by decide) (by decide) rfl (fun ls hl => ?_)
  refine lv_goto (tgt := 20) hx hb dX15_machine_36 (by decide) ?_
  refine lv_iload_n hx hb dX15_machine_20 rfl (lv_at hl 0 rfl) ?_
  refine lv_bipush (v := 10) hx hb dX15_machine_21 (by decide) ?_
  refine lv_icmp_ge (tgt := 39) hx hb dX15_machine_23 (by decide) (fun c0 => absurd c0 (by decide)) (fun _ => ?_)
  refine lv_aload_n hx hb dX15_machine_26 rfl (lv_at hl 2 rfl) ?_
  refine va_get (D := (dC, dI)) (ci := 15) (v := .ref tr) (C := RX15) (T := TX15) (N := 163) hx hb ht uX15 hown hK hP 4 rfl rfl 132 (by decide) (ht _ k_11_80) (fun _ h9 => h9) K_8 dX15_machine_27 ?_
  refine lv_iload_n hx hb dX15_machine_30 rfl (lv_at hl 0 rfl) ?_
  refine lv_iconst (v := (-1)) hx hb dX15_machine_31 (by decide) ?_
  refine va_iast (i := 4) (x := (-1)) hx hb hK hP hD hS 0 0 rfl rfl (by unfold vp_in; decide) dX15_machine_32 (fun H locs hP hD hS => ?_)
  obtain ⟨f_16, ef_16⟩ : ∃ g : Nat → Int32, g = upd f_15 (4 : Int32).toNatClampNeg (-1) := ⟨_, rfl⟩
  rw [← ef_16] at hP hD
  have hP : va_P (dC, dI) cls [(tr, .inl (c1, 10, .inl f_16)), (mu, .inl (c2, 5, .inl f2)), (mc, .inl (c3, 10, .inl f3)), (go, .inl (c4, 5, .inl f4)), (q, .inr (15, F_3))] H := hP
  have hD : va_D A [(tr, .inl (c1, 10, .inl f_16)), (mu, .inl (c2, 5, .inl f2)), (mc, .inl (c3, 10, .inl f3)), (go, .inl (c4, 5, .inl f4)), (q, .inr (15, F_3))] := hD
  refine lv_iinc (v := 5) (lv' := [(2, .int 5), (1, .int 1), (0, .ref q)]) hx hb dX15_machine_33 hl (k := 0) rfl (by decide) (by decide) rfl (fun ls hl => ?_)
  refine lv_goto (tgt := 20) hx hb dX15_machine_36 (by decide) ?_
  refine lv_iload_n hx hb dX15_machine_20 rfl (lv_at hl 0 rfl) ?_
  refine lv_bipush (v := 10) hx hb dX15_machine_21 (by decide) ?_
  refine lv_icmp_ge (tgt := 39) hx hb dX15_machine_23 (by decide) (fun c0 => absurd c0 (by decide)) (fun _ => ?_)
  refine lv_aload_n hx hb dX15_machine_26 rfl (lv_at hl 2 rfl) ?_
  refine va_get (D := (dC, dI)) (ci := 15) (v := .ref tr) (C := RX15) (T := TX15) (N := 163) hx hb ht uX15 hown hK hP 4 rfl rfl 132 (by decide) (ht _ k_11_80) (fun _ h9 => h9) K_8 dX15_machine_27 ?_
  refine lv_iload_n hx hb dX15_machine_30 rfl (lv_at hl 0 rfl) ?_
  refine lv_iconst (v := (-1)) hx hb dX15_machine_31 (by decide) ?_
  refine va_iast (i := 5) (x := (-1)) hx hb hK hP hD hS 0 0 rfl rfl (by unfold vp_in; decide) dX15_machine_32 (fun H locs hP hD hS => ?_)
  obtain ⟨f_17, ef_17⟩ : ∃ g : Nat → Int32, g = upd f_16 (5 : Int32).toNatClampNeg (-1) := ⟨_, rfl⟩
  rw [← ef_17] at hP hD
  have hP : va_P (dC, dI) cls [(tr, .inl (c1, 10, .inl f_17)), (mu, .inl (c2, 5, .inl f2)), (mc, .inl (c3, 10, .inl f3)), (go, .inl (c4, 5, .inl f4)), (q, .inr (15, F_3))] H := hP
  have hD : va_D A [(tr, .inl (c1, 10, .inl f_17)), (mu, .inl (c2, 5, .inl f2)), (mc, .inl (c3, 10, .inl f3)), (go, .inl (c4, 5, .inl f4)), (q, .inr (15, F_3))] := hD
  refine lv_iinc (v := 6) (lv' := [(2, .int 6), (1, .int 1), (0, .ref q)]) hx hb dX15_machine_33 hl (k := 0) rfl (by decide) (by decide) rfl (fun ls hl => ?_)
  refine lv_goto (tgt := 20) hx hb dX15_machine_36 (by decide) ?_
  refine lv_iload_n hx hb dX15_machine_20 rfl (lv_at hl 0 rfl) ?_
  refine lv_bipush (v := 10) hx hb dX15_machine_21 (by decide) ?_
  refine lv_icmp_ge (tgt := 39) hx hb dX15_machine_23 (by decide) (fun c0 => absurd c0 (by decide)) (fun _ => ?_)
  refine lv_aload_n hx hb dX15_machine_26 rfl (lv_at hl 2 rfl) ?_
  refine va_get (D := (dC, dI)) (ci := 15) (v := .ref tr) (C := RX15) (T := TX15) (N := 163) hx hb ht uX15 hown hK hP 4 rfl rfl 132 (by decide) (ht _ k_11_80) (fun _ h9 => h9) K_8 dX15_machine_27 ?_
  refine lv_iload_n hx hb dX15_machine_30 rfl (lv_at hl 0 rfl) ?_
  refine lv_iconst (v := (-1)) hx hb dX15_machine_31 (by decide) ?_
  refine va_iast (i := 6) (x := (-1)) hx hb hK hP hD hS 0 0 rfl rfl (by unfold vp_in; decide) dX15_machine_32 (fun H locs hP hD hS => ?_)
  obtain ⟨f_18, ef_18⟩ : ∃ g : Nat → Int32, g = upd f_17 (6 : Int32).toNatClampNeg (-1) := ⟨_, rfl⟩
  rw [← ef_18] at hP hD
  have hP : va_P (dC, dI) cls [(tr, .inl (c1, 10, .inl f_18)), (mu, .inl (c2, 5, .inl f2)), (mc, .inl (c3, 10, .inl f3)), (go, .inl (c4, 5, .inl f4)), (q, .inr (15, F_3))] H := hP
  have hD : va_D A [(tr, .inl (c1, 10, .inl f_18)), (mu, .inl (c2, 5, .inl f2)), (mc, .inl (c3, 10, .inl f3)), (go, .inl (c4, 5, .inl f4)), (q, .inr (15, F_3))] := hD
  refine lv_iinc (v := 7) (lv' := [(2, .int 7), (1, .int 1), (0, .ref q)]) hx hb dX15_machine_33 hl (k := 0) rfl (by decide) (by decide) rfl (fun ls hl => ?_)
  refine lv_goto (tgt := 20) hx hb dX15_machine_36 (by decide) ?_
  refine lv_iload_n hx hb dX15_machine_20 rfl (lv_at hl 0 rfl) ?_
  refine lv_bipush (v := 10) hx hb dX15_machine_21 (by decide) ?_
  refine lv_icmp_ge (tgt := 39) hx hb dX15_machine_23 (by decide) (fun c0 => absurd c0 (by decide)) (fun _ => ?_)
  refine lv_aload_n hx hb dX15_machine_26 rfl (lv_at hl 2 rfl) ?_
  refine va_get (D := (dC, dI)) (ci := 15) (v := .ref tr) (C := RX15) (T := TX15) (N := 163) hx hb ht uX15 hown hK hP 4 rfl rfl 132 (by decide) (ht _ k_11_80) (fun _ h9 => h9) K_8 dX15_machine_27 ?_
  refine lv_iload_n hx hb dX15_machine_30 rfl (lv_at hl 0 rfl) ?_
  refine lv_iconst (v := (-1)) hx hb dX15_machine_31 (by decide) ?_
  refine va_iast (i := 7) (x := (-1)) hx hb hK hP hD hS 0 0 rfl rfl (by unfold vp_in; decide) dX15_machine_32 (fun H locs hP hD hS => ?_)
  obtain ⟨f_19, ef_19⟩ : ∃ g : Nat → Int32, g = upd f_18 (7 : Int32).toNatClampNeg (-1) := ⟨_, rfl⟩
  rw [← ef_19] at hP hD
  have hP : va_P (dC, dI) cls [(tr, .inl (c1, 10, .inl f_19)), (mu, .inl (c2, 5, .inl f2)), (mc, .inl (c3, 10, .inl f3)), (go, .inl (c4, 5, .inl f4)), (q, .inr (15, F_3))] H := hP
  have hD : va_D A [(tr, .inl (c1, 10, .inl f_19)), (mu, .inl (c2, 5, .inl f2)), (mc, .inl (c3, 10, .inl f3)), (go, .inl (c4, 5, .inl f4)), (q, .inr (15, F_3))] := hD
  refine lv_iinc (v := 8) (lv' := [(2, .int 8), (1, .int 1), (0, .ref q)]) hx hb dX15_machine_33 hl (k := 0) rfl (by decide) (by decide) rfl (fun ls hl => ?_)
  refine lv_goto (tgt := 20) hx hb dX15_machine_36 (by decide) ?_
  refine lv_iload_n hx hb dX15_machine_20 rfl (lv_at hl 0 rfl) ?_
  refine lv_bipush (v := 10) hx hb dX15_machine_21 (by decide) ?_
  refine lv_icmp_ge (tgt := 39) hx hb dX15_machine_23 (by decide) (fun c0 => absurd c0 (by decide)) (fun _ => ?_)
  refine lv_aload_n hx hb dX15_machine_26 rfl (lv_at hl 2 rfl) ?_
  refine va_get (D := (dC, dI)) (ci := 15) (v := .ref tr) (C := RX15) (T := TX15) (N := 163) hx hb ht uX15 hown hK hP 4 rfl rfl 132 (by decide) (ht _ k_11_80) (fun _ h9 => h9) K_8 dX15_machine_27 ?_
  refine lv_iload_n hx hb dX15_machine_30 rfl (lv_at hl 0 rfl) ?_
  refine lv_iconst (v := (-1)) hx hb dX15_machine_31 (by decide) ?_
  refine va_iast (i := 8) (x := (-1)) hx hb hK hP hD hS 0 0 rfl rfl (by unfold vp_in; decide) dX15_machine_32 (fun H locs hP hD hS => ?_)
  obtain ⟨f_20, ef_20⟩ : ∃ g : Nat → Int32, g = upd f_19 (8 : Int32).toNatClampNeg (-1) := ⟨_, rfl⟩
  rw [← ef_20] at hP hD
  have hP : va_P (dC, dI) cls [(tr, .inl (c1, 10, .inl f_20)), (mu, .inl (c2, 5, .inl f2)), (mc, .inl (c3, 10, .inl f3)), (go, .inl (c4, 5, .inl f4)), (q, .inr (15, F_3))] H := hP
  have hD : va_D A [(tr, .inl (c1, 10, .inl f_20)), (mu, .inl (c2, 5, .inl f2)), (mc, .inl (c3, 10, .inl f3)), (go, .inl (c4, 5, .inl f4)), (q, .inr (15, F_3))] := hD
  refine lv_iinc (v := 9) (lv' := [(2, .int 9), (1, .int 1), (0, .ref q)]) hx hb dX15_machine_33 hl (k := 0) rfl (by decide) (by decide) rfl (fun ls hl => ?_)
  refine lv_goto (tgt := 20) hx hb dX15_machine_36 (by decide) ?_
  refine lv_iload_n hx hb dX15_machine_20 rfl (lv_at hl 0 rfl) ?_
  refine lv_bipush (v := 10) hx hb dX15_machine_21 (by decide) ?_
  refine lv_icmp_ge (tgt := 39) hx hb dX15_machine_23 (by decide) (fun c0 => absurd c0 (by decide)) (fun _ => ?_)
  refine lv_aload_n hx hb dX15_machine_26 rfl (lv_at hl 2 rfl) ?_
  refine va_get (D := (dC, dI)) (ci := 15) (v := .ref tr) (C := RX15) (T := TX15) (N := 163) hx hb ht uX15 hown hK hP 4 rfl rfl 132 (by decide) (ht _ k_11_80) (fun _ h9 => h9) K_8 dX15_machine_27 ?_
  refine lv_iload_n hx hb dX15_machine_30 rfl (lv_at hl 0 rfl) ?_
  refine lv_iconst (v := (-1)) hx hb dX15_machine_31 (by decide) ?_
  refine va_iast (i := 9) (x := (-1)) hx hb hK hP hD hS 0 0 rfl rfl (by unfold vp_in; decide) dX15_machine_32 (fun H locs hP hD hS => ?_)
  obtain ⟨f_21, ef_21⟩ : ∃ g : Nat → Int32, g = upd f_20 (9 : Int32).toNatClampNeg (-1) := ⟨_, rfl⟩
  rw [← ef_21] at hP hD
  have hP : va_P (dC, dI) cls [(tr, .inl (c1, 10, .inl f_21)), (mu, .inl (c2, 5, .inl f2)), (mc, .inl (c3, 10, .inl f3)), (go, .inl (c4, 5, .inl f4)), (q, .inr (15, F_3))] H := hP
  have hD : va_D A [(tr, .inl (c1, 10, .inl f_21)), (mu, .inl (c2, 5, .inl f2)), (mc, .inl (c3, 10, .inl f3)), (go, .inl (c4, 5, .inl f4)), (q, .inr (15, F_3))] := hD
  refine lv_iinc (v := 10) (lv' := [(2, .int 10), (1, .int 1), (0, .ref q)]) hx hb dX15_machine_33 hl (k := 0) rfl (by decide) (by decide) rfl (fun ls hl => ?_)
  refine lv_goto (tgt := 20) hx hb dX15_machine_36 (by decide) ?_
  refine lv_iload_n hx hb dX15_machine_20 rfl (lv_at hl 0 rfl) ?_
  refine lv_bipush (v := 10) hx hb dX15_machine_21 (by decide) ?_
  refine lv_icmp_ge (tgt := 39) hx hb dX15_machine_23 (by decide) (fun _ => ?_) (fun c0 => absurd c0 (by decide))
  refine lv_aload_n hx hb dX15_machine_39 rfl (lv_at hl 2 rfl) ?_
  refine lv_iload_n hx hb dX15_machine_40 rfl (lv_at hl 1 rfl) ?_
  refine lv_iconst (v := 0) hx hb dX15_machine_41 (by decide) ?_
  refine lv_iconst (v := 1) hx hb dX15_machine_42 (by decide) ?_
  refine ca_i (wr := [(mc, .inl (c3, 10, .inl f3)), (go, .inl (c4, 5, .inl f4))]) (va_runV (As := [.int 1, .int 0, .int 1]) (rest := []) ⟨hx, hb, hml, hown, ht⟩ (r_tryMachine_0 l dC dI H.size q F_3 tr mu mc go c1 f_21 c2 f2 K_4 K_7 K_8 K_9 K_10 K_11 ) (cwV 3 ht (gdV k_15_224 k_15_221 k_15_223 ks_232 k_1_17) rfl rfl rfl (by decide +kernel) ⟨Nat.le_of_ble_eq_true rfl, Nat.le_of_ble_eq_true rfl⟩) ⟨pcw_blind, va_recv hK hP (ci := 15) (q0 := 4) rfl rfl, pcw_at hP hD hK [4, 0, 1] [0, 1] (by decide) rfl rfl rfl⟩ rfl rfl hl.1 rfl (lv_room (Nat.le_of_ble_eq_true rfl)) dX15_machine_43 ⟨Nat.le_of_ble_eq_true rfl, Nat.le_of_ble_eq_true rfl⟩) hP hD hK hS hA [4, 0, 1] [2, 3] rfl rfl (by decide) (by decide) (fun r_22 u H locs w_23 hK hP hD hS => ?_)
  obtain ⟨y_24, y_25⟩ := u
  have hK : va_K (dC, dI) cls [(c1, .int), (c2, .int), (c3, .int), (c4, .boolean), (c1, .int), (c2, .int)] s := hK
  have hP : va_P (dC, dI) cls [(mc, .inl (c3, 10, .inl f3)), (go, .inl (c4, 5, .inl f4)), (q, .inr (15, F_3)), (tr, .inl (c1, 10, .inl y_24)), (mu, .inl (c2, 5, .inl y_25))] H := hP
  have hD : va_D A [(mc, .inl (c3, 10, .inl f3)), (go, .inl (c4, 5, .inl f4)), (q, .inr (15, F_3)), (tr, .inl (c1, 10, .inl y_24)), (mu, .inl (c2, 5, .inl y_25))] := hD
  obtain rfl : r_22 = 1 := w_23
  refine lv_if_ne (tgt := 52) hx hb dX15_machine_46 (by decide) (fun _ => ?_) (fun c0 => absurd c0 (by decide))
  refine lv_aload_n hx hb dX15_machine_52 rfl (lv_at hl 2 rfl) ?_
  refine lv_iload_n hx hb dX15_machine_53 rfl (lv_at hl 1 rfl) ?_
  refine ca_i (wr := [(mc, .inl (c3, 10, .inl f3)), (go, .inl (c4, 5, .inl f4)), (tr, .inl (c1, 10, .inl y_24))]) (va_runV (As := [.int 1]) (rest := []) ⟨hx, hb, hml, hown, ht⟩ (r_fits l dC dI H.size q F_3 tr mu mc go c2 y_25 K_4 K_7 K_8 K_9 K_10 K_11 ) (cwV 1 ht (gdV k_15_228 k_15_225 k_15_227 ks_233 k_1_17) rfl rfl rfl (by decide +kernel) ⟨Nat.le_of_ble_eq_true rfl, Nat.le_of_ble_eq_true rfl⟩) ⟨pcw_blind, va_recv hK hP (ci := 15) (q0 := 2) rfl rfl, pcw_at hP hD hK [2, 4] [1] (by decide) rfl rfl rfl⟩ rfl rfl hl.1 rfl (lv_room (Nat.le_of_ble_eq_true rfl)) dX15_machine_54 ⟨Nat.le_of_ble_eq_true rfl, Nat.le_of_ble_eq_true rfl⟩) hP hD hK hS hA [2, 4] [0, 1, 3] rfl rfl (by decide) (by decide) (fun r_26 u H locs w_27 hK hP hD hS => ?_)
  obtain ⟨y_28, rfl⟩ : ∃ z, z = u := ⟨_, rfl⟩
  have hK : va_K (dC, dI) cls [(c1, .int), (c2, .int), (c3, .int), (c4, .boolean), (c1, .int), (c2, .int), (c2, .int)] s := hK
  have hP : va_P (dC, dI) cls [(mc, .inl (c3, 10, .inl f3)), (go, .inl (c4, 5, .inl f4)), (tr, .inl (c1, 10, .inl y_24)), (q, .inr (15, F_3)), (mu, .inl (c2, 5, .inl y_28))] H := hP
  have hD : va_D A [(mc, .inl (c3, 10, .inl f3)), (go, .inl (c4, 5, .inl f4)), (tr, .inl (c1, 10, .inl y_24)), (q, .inr (15, F_3)), (mu, .inl (c2, 5, .inl y_28))] := hD
  obtain rfl : r_26 = 1 := w_27
  refine lv_istore_n (lv' := [(2, .int 1), (1, .int 1), (0, .ref q)]) hx hb dX15_machine_57 rfl hl (by decide) rfl (fun ls hl => ?_)
  refine lv_iconst (v := 0) hx hb dX15_machine_58 (by decide) ?_
  refine lv_istore_n (lv' := [(3, .int 0), (2, .int 1), (1, .int 1), (0, .ref q)]) hx hb dX15_machine_59 rfl hl (by decide) rfl (fun ls hl => ?_)
  refine lv_iload_n hx hb dX15_machine_60 rfl (lv_at hl 0 rfl) ?_
  refine lv_iconst (v := 2) hx hb dX15_machine_61 (by decide) ?_
  refine lv_iload_n hx hb dX15_machine_62 rfl (lv_at hl 2 rfl) ?_
  refine lv_imul hx hb dX15_machine_63 ?_
  refine tk_i (y := 2) (by decide) ?_
  refine lv_icmp_ge (tgt := 85) hx hb dX15_machine_64 (by decide) (fun c0 => absurd c0 (by decide)) (fun _ => ?_)
  refine lv_aload_n hx hb dX15_machine_67 rfl (lv_at hl 3 rfl) ?_
  refine va_get (D := (dC, dI)) (ci := 15) (v := .ref mc) (C := RX15) (T := TX15) (N := 163) hx hb ht uX15 hown hK hP 3 rfl rfl 135 (by decide) (ht _ k_11_83) (fun _ h9 => h9) K_10 dX15_machine_68 ?_
  refine lv_iload_n hx hb dX15_machine_71 rfl (lv_at hl 0 rfl) ?_
  refine lv_aload_n hx hb dX15_machine_72 rfl (lv_at hl 3 rfl) ?_
  refine va_get (D := (dC, dI)) (ci := 15) (v := .ref tr) (C := RX15) (T := TX15) (N := 163) hx hb ht uX15 hown hK hP 3 rfl rfl 132 (by decide) (ht _ k_11_80) (fun _ h9 => h9) K_8 dX15_machine_73 ?_
  refine lv_iload_n hx hb dX15_machine_76 rfl (lv_at hl 0 rfl) ?_
  refine va_iald hx hb hK hP 2 0 rfl rfl (by unfold vp_in; decide) dX15_machine_77 ?_
  refine tk_i (y := y_24 0) (by first | rfl | decide) ?_
  refine lv_topi (fun x_29 ex_29 => ?_)
  refine va_iast (i := 0) (x := x_29) hx hb hK hP hD hS 0 2 rfl rfl (by unfold vp_in; decide) dX15_machine_78 (fun H locs hP hD hS => ?_)
  obtain ⟨f_30, ef_30⟩ : ∃ g : Nat → Int32, g = upd f3 (0 : Int32).toNatClampNeg x_29 := ⟨_, rfl⟩
  rw [← ef_30] at hP hD
  have hP : va_P (dC, dI) cls [(mc, .inl (c3, 10, .inl f_30)), (go, .inl (c4, 5, .inl f4)), (tr, .inl (c1, 10, .inl y_24)), (q, .inr (15, F_3)), (mu, .inl (c2, 5, .inl y_28))] H := hP
  have hD : va_D A [(mc, .inl (c3, 10, .inl f_30)), (go, .inl (c4, 5, .inl f4)), (tr, .inl (c1, 10, .inl y_24)), (q, .inr (15, F_3)), (mu, .inl (c2, 5, .inl y_28))] := hD
  refine lv_iinc (v := 1) (lv' := [(3, .int 1), (2, .int 1), (1, .int 1), (0, .ref q)]) hx hb dX15_machine_79 hl (k := 0) rfl (by decide) (by decide) rfl (fun ls hl => ?_)
  refine lv_goto (tgt := 60) hx hb dX15_machine_82 (by decide) ?_
  refine lv_iload_n hx hb dX15_machine_60 rfl (lv_at hl 0 rfl) ?_
  refine lv_iconst (v := 2) hx hb dX15_machine_61 (by decide) ?_
  refine lv_iload_n hx hb dX15_machine_62 rfl (lv_at hl 2 rfl) ?_
  refine lv_imul hx hb dX15_machine_63 ?_
  refine tk_i (y := 2) (by decide) ?_
  refine lv_icmp_ge (tgt := 85) hx hb dX15_machine_64 (by decide) (fun c0 => absurd c0 (by decide)) (fun _ => ?_)
  refine lv_aload_n hx hb dX15_machine_67 rfl (lv_at hl 3 rfl) ?_
  refine va_get (D := (dC, dI)) (ci := 15) (v := .ref mc) (C := RX15) (T := TX15) (N := 163) hx hb ht uX15 hown hK hP 3 rfl rfl 135 (by decide) (ht _ k_11_83) (fun _ h9 => h9) K_10 dX15_machine_68 ?_
  refine lv_iload_n hx hb dX15_machine_71 rfl (lv_at hl 0 rfl) ?_
  refine lv_aload_n hx hb dX15_machine_72 rfl (lv_at hl 3 rfl) ?_
  refine va_get (D := (dC, dI)) (ci := 15) (v := .ref tr) (C := RX15) (T := TX15) (N := 163) hx hb ht uX15 hown hK hP 3 rfl rfl 132 (by decide) (ht _ k_11_80) (fun _ h9 => h9) K_8 dX15_machine_73 ?_
  refine lv_iload_n hx hb dX15_machine_76 rfl (lv_at hl 0 rfl) ?_
  refine va_iald hx hb hK hP 2 0 rfl rfl (by unfold vp_in; decide) dX15_machine_77 ?_
  refine tk_i (y := y_24 1) (by first | rfl | decide) ?_
  refine lv_topi (fun x_31 ex_31 => ?_)
  refine va_iast (i := 1) (x := x_31) hx hb hK hP hD hS 0 2 rfl rfl (by unfold vp_in; decide) dX15_machine_78 (fun H locs hP hD hS => ?_)
  obtain ⟨f_32, ef_32⟩ : ∃ g : Nat → Int32, g = upd f_30 (1 : Int32).toNatClampNeg x_31 := ⟨_, rfl⟩
  rw [← ef_32] at hP hD
  have hP : va_P (dC, dI) cls [(mc, .inl (c3, 10, .inl f_32)), (go, .inl (c4, 5, .inl f4)), (tr, .inl (c1, 10, .inl y_24)), (q, .inr (15, F_3)), (mu, .inl (c2, 5, .inl y_28))] H := hP
  have hD : va_D A [(mc, .inl (c3, 10, .inl f_32)), (go, .inl (c4, 5, .inl f4)), (tr, .inl (c1, 10, .inl y_24)), (q, .inr (15, F_3)), (mu, .inl (c2, 5, .inl y_28))] := hD
  refine lv_iinc (v := 2) (lv' := [(3, .int 2), (2, .int 1), (1, .int 1), (0, .ref q)]) hx hb dX15_machine_79 hl (k := 0) rfl (by decide) (by decide) rfl (fun ls hl => ?_)
  refine lv_goto (tgt := 60) hx hb dX15_machine_82 (by decide) ?_
  refine lv_iload_n hx hb dX15_machine_60 rfl (lv_at hl 0 rfl) ?_
  refine lv_iconst (v := 2) hx hb dX15_machine_61 (by decide) ?_
  refine lv_iload_n hx hb dX15_machine_62 rfl (lv_at hl 2 rfl) ?_
  refine lv_imul hx hb dX15_machine_63 ?_
  refine tk_i (y := 2) (by decide) ?_
  refine lv_icmp_ge (tgt := 85) hx hb dX15_machine_64 (by decide) (fun _ => ?_) (fun c0 => absurd c0 (by decide))
  refine lv_iconst (v := 0) hx hb dX15_machine_85 (by decide) ?_
  refine lv_istore_n (lv' := [(3, .int 0), (2, .int 1), (1, .int 1), (0, .ref q)]) hx hb dX15_machine_86 rfl hl (by decide) rfl (fun ls hl => ?_)
  refine lv_iload_n hx hb dX15_machine_87 rfl (lv_at hl 0 rfl) ?_
  refine lv_iload_n hx hb dX15_machine_88 rfl (lv_at hl 2 rfl) ?_
  refine lv_icmp_ge (tgt := 119) hx hb dX15_machine_89 (by decide) (fun c0 => absurd c0 (by decide)) (fun _ => ?_)
  refine lv_aload_n hx hb dX15_machine_92 rfl (lv_at hl 3 rfl) ?_
  refine va_get (D := (dC, dI)) (ci := 15) (v := .ref go) (C := RX15) (T := TX15) (N := 163) hx hb ht uX15 hown hK hP 3 rfl rfl 136 (by decide) (ht _ k_11_84) (fun _ h9 => h9) K_11 dX15_machine_93 ?_
  refine lv_iload_n hx hb dX15_machine_96 rfl (lv_at hl 0 rfl) ?_
  refine lv_aload_n hx hb dX15_machine_97 rfl (lv_at hl 3 rfl) ?_
  refine va_get (D := (dC, dI)) (ci := 15) (v := .ref mu) (C := RX15) (T := TX15) (N := 163) hx hb ht uX15 hown hK hP 3 rfl rfl 133 (by decide) (ht _ k_11_81) (fun _ h9 => h9) K_9 dX15_machine_98 ?_
  refine lv_iload_n hx hb dX15_machine_101 rfl (lv_at hl 0 rfl) ?_
  refine va_iald hx hb hK hP 4 1 rfl rfl (by unfold vp_in; decide) dX15_machine_102 ?_
  refine tk_i (y := y_28 0) (by first | rfl | decide) ?_
  refine lv_topi (fun x_33 ex_33 => ?_)
  refine lv_iconst (v := 1) hx hb dX15_machine_103 (by decide) ?_
  refine lv_icmp_ne (tgt := 111) hx hb dX15_machine_104 (by decide) (fun b_34 => ?_) (fun b_34 => ?_)
  · refine lv_iconst (v := 0) hx hb dX15_machine_111 (by decide) ?_
    refine va_zast (i := 0) (x := 0) hx hb hK hP hD hS 1 3 rfl rfl (by unfold vp_in; decide) dX15_machine_112 (fun H locs hP hD hS => ?_)
    obtain ⟨f_35, ef_35⟩ : ∃ g : Nat → Int32, g = upd f4 (0 : Int32).toNatClampNeg (vp_nar .boolean 0) := ⟨_, rfl⟩
    rw [← ef_35] at hP hD
    have hP : va_P (dC, dI) cls [(mc, .inl (c3, 10, .inl f_32)), (go, .inl (c4, 5, .inl f_35)), (tr, .inl (c1, 10, .inl y_24)), (q, .inr (15, F_3)), (mu, .inl (c2, 5, .inl y_28))] H := hP
    have hD : va_D A [(mc, .inl (c3, 10, .inl f_32)), (go, .inl (c4, 5, .inl f_35)), (tr, .inl (c1, 10, .inl y_24)), (q, .inr (15, F_3)), (mu, .inl (c2, 5, .inl y_28))] := hD
    refine lv_iinc (v := 1) (lv' := [(3, .int 1), (2, .int 1), (1, .int 1), (0, .ref q)]) hx hb dX15_machine_113 hl (k := 0) rfl (by decide) (by decide) rfl (fun ls hl => ?_)
    refine lv_goto (tgt := 87) hx hb dX15_machine_116 (by decide) ?_
    refine lv_iload_n hx hb dX15_machine_87 rfl (lv_at hl 0 rfl) ?_
    refine lv_iload_n hx hb dX15_machine_88 rfl (lv_at hl 2 rfl) ?_
    refine lv_icmp_ge (tgt := 119) hx hb dX15_machine_89 (by decide) (fun _ => ?_) (fun c0 => absurd c0 (by decide))
    refine lv_aload_n hx hb dX15_machine_119 rfl (lv_at hl 3 rfl) ?_
    refine lv_iload_n hx hb dX15_machine_120 rfl (lv_at hl 2 rfl) ?_
    refine va_put (D := (dC, dI)) (ci := 15) (v := .int 1) (ty := .int) (C := RX15) (T := TX15) (N := 163) hx hb ht uX15 tyX15 tkX15 nmX15 hown hK hP hD hS 3 rfl rfl 134 (by decide) (ht _ k_11_82) (fun _ h9 => h9) rfl (by decide +kernel) rfl rfl (by rw [K_4]; decide) dX15_machine_121 (fun H locs hP hD hS => ?_)
    obtain ⟨F_36, eF_36⟩ : ∃ g : List Value, g = F_3.set 134 (.int 1) := ⟨_, rfl⟩
    rw [← eF_36] at hP hD
    have K51_F_36 : F_36[51]? = some (.int 0) := by rw [eF_36, List.getElem?_set_ne (by decide)]; exact K_5
    have K54_F_36 : F_36[54]? = some (.int 0) := by rw [eF_36, List.getElem?_set_ne (by decide)]; exact K_6
    have K128_F_36 : F_36[128]? = some (.int 0) := by rw [eF_36, List.getElem?_set_ne (by decide)]; exact K_7
    have K132_F_36 : F_36[132]? = some (.ref tr) := by rw [eF_36, List.getElem?_set_ne (by decide)]; exact K_8
    have K133_F_36 : F_36[133]? = some (.ref mu) := by rw [eF_36, List.getElem?_set_ne (by decide)]; exact K_9
    have K135_F_36 : F_36[135]? = some (.ref mc) := by rw [eF_36, List.getElem?_set_ne (by decide)]; exact K_10
    have K136_F_36 : F_36[136]? = some (.ref go) := by rw [eF_36, List.getElem?_set_ne (by decide)]; exact K_11
    have K134_F_36 : F_36[134]? = some (.int 1) := by rw [eF_36]; exact List.getElem?_set_self (by rw [K_4]; decide)
    have L_F_36 : F_36.length = 163 := by rw [eF_36, List.length_set]; exact K_4
    have hP : va_P (dC, dI) cls [(mc, .inl (c3, 10, .inl f_32)), (go, .inl (c4, 5, .inl f_35)), (tr, .inl (c1, 10, .inl y_24)), (q, .inr (15, F_36)), (mu, .inl (c2, 5, .inl y_28))] H := hP
    have hD : va_D A [(mc, .inl (c3, 10, .inl f_32)), (go, .inl (c4, 5, .inl f_35)), (tr, .inl (c1, 10, .inl y_24)), (q, .inr (15, F_36)), (mu, .inl (c2, 5, .inl y_28))] := hD
    refine lv_iload_n hx hb dX15_machine_124 rfl (lv_at hl 2 rfl) ?_
    exact W.iret (v := 1) hx hb hr (fun t ht9 hW => ⟨⟨1, (), rfl, rfl, by rw [ht9]; exact hP.sub [] rfl, va_K.moved hW.alike (hK.sub [] rfl), hD.sub [] (by decide) rfl⟩, hS.F ht9⟩) hS.2.2 dX15_machine_125
  · refine lv_iconst (v := 1) hx hb dX15_machine_107 (by decide) ?_
    refine lv_goto (tgt := 112) hx hb dX15_machine_108 (by decide) ?_
    refine va_zast (i := 0) (x := 1) hx hb hK hP hD hS 1 3 rfl rfl (by unfold vp_in; decide) dX15_machine_112 (fun H locs hP hD hS => ?_)
    obtain ⟨f_37, ef_37⟩ : ∃ g : Nat → Int32, g = upd f4 (0 : Int32).toNatClampNeg (vp_nar .boolean 1) := ⟨_, rfl⟩
    rw [← ef_37] at hP hD
    have hP : va_P (dC, dI) cls [(mc, .inl (c3, 10, .inl f_32)), (go, .inl (c4, 5, .inl f_37)), (tr, .inl (c1, 10, .inl y_24)), (q, .inr (15, F_3)), (mu, .inl (c2, 5, .inl y_28))] H := hP
    have hD : va_D A [(mc, .inl (c3, 10, .inl f_32)), (go, .inl (c4, 5, .inl f_37)), (tr, .inl (c1, 10, .inl y_24)), (q, .inr (15, F_3)), (mu, .inl (c2, 5, .inl y_28))] := hD
    refine lv_iinc (v := 1) (lv' := [(3, .int 1), (2, .int 1), (1, .int 1), (0, .ref q)]) hx hb dX15_machine_113 hl (k := 0) rfl (by decide) (by decide) rfl (fun ls hl => ?_)
    refine lv_goto (tgt := 87) hx hb dX15_machine_116 (by decide) ?_
    refine lv_iload_n hx hb dX15_machine_87 rfl (lv_at hl 0 rfl) ?_
    refine lv_iload_n hx hb dX15_machine_88 rfl (lv_at hl 2 rfl) ?_
    refine lv_icmp_ge (tgt := 119) hx hb dX15_machine_89 (by decide) (fun _ => ?_) (fun c0 => absurd c0 (by decide))
    refine lv_aload_n hx hb dX15_machine_119 rfl (lv_at hl 3 rfl) ?_
    refine lv_iload_n hx hb dX15_machine_120 rfl (lv_at hl 2 rfl) ?_
    refine va_put (D := (dC, dI)) (ci := 15) (v := .int 1) (ty := .int) (C := RX15) (T := TX15) (N := 163) hx hb ht uX15 tyX15 tkX15 nmX15 hown hK hP hD hS 3 rfl rfl 134 (by decide) (ht _ k_11_82) (fun _ h9 => h9) rfl (by decide +kernel) rfl rfl (by rw [K_4]; decide) dX15_machine_121 (fun H locs hP hD hS => ?_)
    obtain ⟨F_38, eF_38⟩ : ∃ g : List Value, g = F_3.set 134 (.int 1) := ⟨_, rfl⟩
    rw [← eF_38] at hP hD
    have K51_F_38 : F_38[51]? = some (.int 0) := by rw [eF_38, List.getElem?_set_ne (by decide)]; exact K_5
    have K54_F_38 : F_38[54]? = some (.int 0) := by rw [eF_38, List.getElem?_set_ne (by decide)]; exact K_6
    have K128_F_38 : F_38[128]? = some (.int 0) := by rw [eF_38, List.getElem?_set_ne (by decide)]; exact K_7
    have K132_F_38 : F_38[132]? = some (.ref tr) := by rw [eF_38, List.getElem?_set_ne (by decide)]; exact K_8
    have K133_F_38 : F_38[133]? = some (.ref mu) := by rw [eF_38, List.getElem?_set_ne (by decide)]; exact K_9
    have K135_F_38 : F_38[135]? = some (.ref mc) := by rw [eF_38, List.getElem?_set_ne (by decide)]; exact K_10
    have K136_F_38 : F_38[136]? = some (.ref go) := by rw [eF_38, List.getElem?_set_ne (by decide)]; exact K_11
    have K134_F_38 : F_38[134]? = some (.int 1) := by rw [eF_38]; exact List.getElem?_set_self (by rw [K_4]; decide)
    have L_F_38 : F_38.length = 163 := by rw [eF_38, List.length_set]; exact K_4
    have hP : va_P (dC, dI) cls [(mc, .inl (c3, 10, .inl f_32)), (go, .inl (c4, 5, .inl f_37)), (tr, .inl (c1, 10, .inl y_24)), (q, .inr (15, F_38)), (mu, .inl (c2, 5, .inl y_28))] H := hP
    have hD : va_D A [(mc, .inl (c3, 10, .inl f_32)), (go, .inl (c4, 5, .inl f_37)), (tr, .inl (c1, 10, .inl y_24)), (q, .inr (15, F_38)), (mu, .inl (c2, 5, .inl y_28))] := hD
    refine lv_iload_n hx hb dX15_machine_124 rfl (lv_at hl 2 rfl) ?_
    exact W.iret (v := 1) hx hb hr (fun t ht9 hW => ⟨⟨1, (), rfl, rfl, by rw [ht9]; exact hP.sub [] rfl, va_K.moved hW.alike (hK.sub [] rfl), hD.sub [] (by decide) rfl⟩, hS.F ht9⟩) hS.2.2 dX15_machine_125
