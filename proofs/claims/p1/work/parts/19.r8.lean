theorem dL_feed_0 : decode cL_feed 0 = .ok (.aload 6, 2) := by decide +kernel
theorem dL_feed_2 : decode cL_feed 2 = .ok (.iconst 0, 1) := by decide +kernel
theorem dL_feed_3 : decode cL_feed 3 = .ok (.aload_n 0, 1) := by decide +kernel
theorem dL_feed_4 : decode cL_feed 4 = .ok (.iload_n 1, 1) := by decide +kernel
theorem dL_feed_5 : decode cL_feed 5 = .ok (.iload_n 2, 1) := by decide +kernel
theorem dL_feed_6 : decode cL_feed 6 = .ok (.iload_n 3, 1) := by decide +kernel
theorem dL_feed_7 : decode cL_feed 7 = .ok (.iload 4, 2) := by decide +kernel
theorem dL_feed_9 : decode cL_feed 9 = .ok (.iload 5, 2) := by decide +kernel
theorem k_9_96 : Jvm.Cond.code ({ cls := "FinderHouse", name := "feed", desc := "(IIIII)I" } : Jvm.MethodName) prog_1_method_2_code (6 : Nat) (Option.some Jvm.ClassFile.FieldType.int) ∈ tb := tb9 96 (by decide +kernel) (by decide +kernel)
theorem k_9_93 : Jvm.Cond.methodLink "FinderHouseLaw" (7 : Nat) ({ cls := "FinderHouse", name := "feed", desc := "(IIIII)I" } : Jvm.MethodName) ∈ tb := tb9 93 (by decide +kernel) (by decide +kernel)
theorem k_9_94 : Jvm.Cond.instanceMethod ({ cls := "FinderHouse", name := "feed", desc := "(IIIII)I" } : Jvm.MethodName) ∈ tb := tb9 94 (by decide +kernel) (by decide +kernel)
theorem k_9_95 : Jvm.Cond.selects "FinderHouse" ({ cls := "FinderHouse", name := "feed", desc := "(IIIII)I" } : Jvm.MethodName) ({ cls := "FinderHouse", name := "feed", desc := "(IIIII)I" } : Jvm.MethodName) ∈ tb := tb9 95 (by decide +kernel) (by decide +kernel)
theorem dL_feed_11 : decode cL_feed 11 = .ok (.invokevirtual 7, 3) := by decide +kernel
theorem dL_feed_14 : decode cL_feed 14 = .ok (.i2l, 1) := by decide +kernel
theorem dL_feed_15 : decode cL_feed 15 = .ok (.lastore, 1) := by decide +kernel
theorem dL_feed_16 : decode cL_feed 16 = .ok (.goto 7, 3) := by decide +kernel
theorem dL_feed_23 : decode cL_feed 23 = .ok (.iconst 0, 1) := by decide +kernel
theorem dL_feed_24 : decode cL_feed 24 = .ok (.ireturn, 1) := by decide +kernel
theorem dL_end_0 : decode cL_end 0 = .ok (.aload_n 0, 1) := by decide +kernel
theorem dL_end_1 : decode cL_end 1 = .ok (.iload_n 1, 1) := by decide +kernel
theorem k_9_176 : Jvm.Cond.code ({ cls := "FinderHouse", name := "end", desc := "(I)V" } : Jvm.MethodName) prog_1_method_4_code (2 : Nat) (Option.none : Option Jvm.ClassFile.FieldType) ∈ tb := tb9 176 (by decide +kernel) (by decide +kernel)
theorem k_9_173 : Jvm.Cond.methodLink "FinderHouseLaw" (15 : Nat) ({ cls := "FinderHouse", name := "end", desc := "(I)V" } : Jvm.MethodName) ∈ tb := tb9 173 (by decide +kernel) (by decide +kernel)
theorem k_9_174 : Jvm.Cond.instanceMethod ({ cls := "FinderHouse", name := "end", desc := "(I)V" } : Jvm.MethodName) ∈ tb := tb9 174 (by decide +kernel) (by decide +kernel)
theorem k_9_175 : Jvm.Cond.selects "FinderHouse" ({ cls := "FinderHouse", name := "end", desc := "(I)V" } : Jvm.MethodName) ({ cls := "FinderHouse", name := "end", desc := "(I)V" } : Jvm.MethodName) ∈ tb := tb9 175 (by decide +kernel) (by decide +kernel)
theorem dL_end_2 : decode cL_end 2 = .ok (.invokevirtual 15, 3) := by decide +kernel
theorem dL_end_5 : decode cL_end 5 = .ok (.goto 6, 3) := by decide +kernel
theorem dL_end_11 : decode cL_end 11 = .ok (.iconst 0, 1) := by decide +kernel
theorem dL_end_12 : decode cL_end 12 = .ok (.ireturn, 1) := by decide +kernel
theorem k_9_172 : Jvm.Cond.classLink "FinderHouseLaw" (19 : Nat) "java/lang/IllegalArgumentException" ∈ tb := tb9 172 (by decide +kernel) (by decide +kernel)
theorem kn_9_179 : Jvm.Cond.castable "java/lang/IllegalArgumentException" "java/lang/IllegalArgumentException" ∈ nb := nb_of (List.mem_of_getElem? (i := 2099) (by decide +kernel)) (by decide +kernel)
theorem dL_end_8 : decode cL_end 8 = .ok (.astore_n 2, 1) := by decide +kernel
theorem dL_end_9 : decode cL_end 9 = .ok (.iconst 1, 1) := by decide +kernel
theorem dL_end_10 : decode cL_end 10 = .ok (.ireturn, 1) := by decide +kernel
theorem dL_octet_0 : decode cL_octet 0 = .ok (.aload_n 3, 1) := by decide +kernel
theorem dL_octet_1 : decode cL_octet 1 = .ok (.iconst 0, 1) := by decide +kernel
theorem dL_octet_2 : decode cL_octet 2 = .ok (.aload_n 0, 1) := by decide +kernel
theorem dL_octet_3 : decode cL_octet 3 = .ok (.iload_n 1, 1) := by decide +kernel
theorem dL_octet_4 : decode cL_octet 4 = .ok (.iload_n 2, 1) := by decide +kernel
theorem k_9_200 : Jvm.Cond.code ({ cls := "FinderHouse", name := "octet", desc := "(II)I" } : Jvm.MethodName) prog_1_method_63_code (3 : Nat) (Option.some Jvm.ClassFile.FieldType.int) ∈ tb := tb9 200 (by decide +kernel) (by decide +kernel)
theorem k_9_197 : Jvm.Cond.methodLink "FinderHouseLaw" (21 : Nat) ({ cls := "FinderHouse", name := "octet", desc := "(II)I" } : Jvm.MethodName) ∈ tb := tb9 197 (by decide +kernel) (by decide +kernel)
theorem k_9_198 : Jvm.Cond.instanceMethod ({ cls := "FinderHouse", name := "octet", desc := "(II)I" } : Jvm.MethodName) ∈ tb := tb9 198 (by decide +kernel) (by decide +kernel)
theorem k_9_199 : Jvm.Cond.selects "FinderHouse" ({ cls := "FinderHouse", name := "octet", desc := "(II)I" } : Jvm.MethodName) ({ cls := "FinderHouse", name := "octet", desc := "(II)I" } : Jvm.MethodName) ∈ tb := tb9 199 (by decide +kernel) (by decide +kernel)
theorem dL_octet_5 : decode cL_octet 5 = .ok (.invokevirtual 21, 3) := by decide +kernel
theorem dL_octet_8 : decode cL_octet 8 = .ok (.i2l, 1) := by decide +kernel
theorem dL_octet_9 : decode cL_octet 9 = .ok (.lastore, 1) := by decide +kernel
theorem dL_octet_10 : decode cL_octet 10 = .ok (.goto 7, 3) := by decide +kernel
theorem dL_octet_17 : decode cL_octet 17 = .ok (.iconst 0, 1) := by decide +kernel
theorem dL_octet_18 : decode cL_octet 18 = .ok (.ireturn, 1) := by decide +kernel
theorem k_9_196 : Jvm.Cond.classLink "FinderHouseLaw" (25 : Nat) "java/lang/IndexOutOfBoundsException" ∈ tb := tb9 196 (by decide +kernel) (by decide +kernel)
theorem kn_9_207 : Jvm.Cond.castable "java/lang/IndexOutOfBoundsException" "java/lang/IndexOutOfBoundsException" ∈ nb := nb_of (List.mem_of_getElem? (i := 2127) (by decide +kernel)) (by decide +kernel)
theorem dL_octet_13 : decode cL_octet 13 = .ok (.astore 4, 2) := by decide +kernel
theorem dL_octet_15 : decode cL_octet 15 = .ok (.iconst 1, 1) := by decide +kernel
theorem dL_octet_16 : decode cL_octet 16 = .ok (.ireturn, 1) := by decide +kernel
theorem dL_poke_0 : decode cL_poke 0 = .ok (.aload 4, 2) := by decide +kernel
theorem dL_poke_2 : decode cL_poke 2 = .ok (.iconst 0, 1) := by decide +kernel
theorem dL_poke_3 : decode cL_poke 3 = .ok (.aload_n 0, 1) := by decide +kernel
theorem dL_poke_4 : decode cL_poke 4 = .ok (.iload_n 1, 1) := by decide +kernel
theorem dL_poke_5 : decode cL_poke 5 = .ok (.iload_n 2, 1) := by decide +kernel
theorem dL_poke_6 : decode cL_poke 6 = .ok (.iload_n 3, 1) := by decide +kernel
theorem k_9_228 : Jvm.Cond.code ({ cls := "FinderHouse", name := "poke", desc := "(III)I" } : Jvm.MethodName) prog_1_method_64_code (5 : Nat) (Option.some Jvm.ClassFile.FieldType.int) ∈ tb := tb9 228 (by decide +kernel) (by decide +kernel)
theorem k_9_225 : Jvm.Cond.methodLink "FinderHouseLaw" (27 : Nat) ({ cls := "FinderHouse", name := "poke", desc := "(III)I" } : Jvm.MethodName) ∈ tb := tb9 225 (by decide +kernel) (by decide +kernel)
theorem k_9_226 : Jvm.Cond.instanceMethod ({ cls := "FinderHouse", name := "poke", desc := "(III)I" } : Jvm.MethodName) ∈ tb := tb9 226 (by decide +kernel) (by decide +kernel)
theorem k_9_227 : Jvm.Cond.selects "FinderHouse" ({ cls := "FinderHouse", name := "poke", desc := "(III)I" } : Jvm.MethodName) ({ cls := "FinderHouse", name := "poke", desc := "(III)I" } : Jvm.MethodName) ∈ tb := tb9 227 (by decide +kernel) (by decide +kernel)
theorem dL_poke_7 : decode cL_poke 7 = .ok (.invokevirtual 27, 3) := by decide +kernel
theorem dL_poke_10 : decode cL_poke 10 = .ok (.i2l, 1) := by decide +kernel
theorem dL_poke_11 : decode cL_poke 11 = .ok (.lastore, 1) := by decide +kernel
theorem dL_poke_12 : decode cL_poke 12 = .ok (.goto 7, 3) := by decide +kernel
theorem dL_poke_19 : decode cL_poke 19 = .ok (.iconst 0, 1) := by decide +kernel
theorem dL_poke_20 : decode cL_poke 20 = .ok (.ireturn, 1) := by decide +kernel
theorem dL_poke_15 : decode cL_poke 15 = .ok (.astore 5, 2) := by decide +kernel
theorem dL_poke_17 : decode cL_poke 17 = .ok (.iconst 1, 1) := by decide +kernel
theorem dL_poke_18 : decode cL_poke 18 = .ok (.ireturn, 1) := by decide +kernel
theorem dX15_sync_0 : decode cX15_sync 0 = .ok (.aload_n 0, 1) := by decide +kernel
theorem dX15_sync_1 : decode cX15_sync 1 = .ok (.invokevirtual 785, 3) := by decide +kernel
theorem dX15_sync_4 : decode cX15_sync 4 = .ok (.ifCond .eq 6, 3) := by decide +kernel
theorem dX15_sync_10 : decode cX15_sync 10 = .ok (.aload_n 0, 1) := by decide +kernel
theorem dX15_sync_11 : decode cX15_sync 11 = .ok (.getfield 800, 3) := by decide +kernel
theorem dX15_sync_14 : decode cX15_sync 14 = .ok (.invokestatic 1263, 3) := by decide +kernel
theorem dX15_sync_17 : decode cX15_sync 17 = .ok (.istore_n 1, 1) := by decide +kernel
theorem dX15_sync_18 : decode cX15_sync 18 = .ok (.iconst 0, 1) := by decide +kernel
theorem dX15_sync_19 : decode cX15_sync 19 = .ok (.istore_n 2, 1) := by decide +kernel
theorem dX15_sync_20 : decode cX15_sync 20 = .ok (.iload_n 2, 1) := by decide +kernel
theorem dX15_sync_21 : decode cX15_sync 21 = .ok (.iload_n 1, 1) := by decide +kernel
theorem dX15_sync_22 : decode cX15_sync 22 = .ok (.if_icmp .ge 286, 3) := by decide +kernel
theorem dX15_sync_308 : decode cX15_sync 308 = .ok (.aload_n 0, 1) := by decide +kernel
theorem dX15_sync_309 : decode cX15_sync 309 = .ok (.iconst 0, 1) := by decide +kernel
theorem dX15_sync_310 : decode cX15_sync 310 = .ok (.putfield 797, 3) := by decide +kernel
theorem dX15_sync_313 : decode cX15_sync 313 = .ok (.aload_n 0, 1) := by decide +kernel
theorem dX15_sync_314 : decode cX15_sync 314 = .ok (.iconst 0, 1) := by decide +kernel
theorem dX15_sync_315 : decode cX15_sync 315 = .ok (.putfield 800, 3) := by decide +kernel
theorem dX15_sync_318 : decode cX15_sync 318 = .ok (.aload_n 0, 1) := by decide +kernel
theorem dX15_sync_319 : decode cX15_sync 319 = .ok (.dup, 1) := by decide +kernel
theorem dX15_sync_320 : decode cX15_sync 320 = .ok (.getfield 803, 3) := by decide +kernel
theorem dX15_sync_323 : decode cX15_sync 323 = .ok (.iload_n 1, 1) := by decide +kernel
theorem dX15_sync_324 : decode cX15_sync 324 = .ok (.iadd, 1) := by decide +kernel
theorem dX15_sync_325 : decode cX15_sync 325 = .ok (.putfield 803, 3) := by decide +kernel
theorem dX15_sync_328 : decode cX15_sync 328 = .ok (.iload_n 1, 1) := by decide +kernel
theorem dX15_sync_329 : decode cX15_sync 329 = .ok (.ireturn, 1) := by decide +kernel
theorem dX15_end_0 : decode cX15_end 0 = .ok (.aload_n 0, 1) := by decide +kernel
theorem dX15_end_1 : decode cX15_end 1 = .ok (.iload_n 1, 1) := by decide +kernel
theorem dX15_end_2 : decode cX15_end 2 = .ok (.i2l, 1) := by decide +kernel
theorem dX15_end_3 : decode cX15_end 3 = .ok (.lconst 0, 1) := by decide +kernel
theorem dX15_end_4 : decode cX15_end 4 = .ok (.aload_n 0, 1) := by decide +kernel
theorem dX15_end_5 : decode cX15_end 5 = .ok (.getfield 776, 3) := by decide +kernel
theorem dX15_end_8 : decode cX15_end 8 = .ok (.i2l, 1) := by decide +kernel
theorem dX15_end_9 : decode cX15_end 9 = .ok (.invokestatic 623, 3) := by decide +kernel
theorem dX15_end_12 : decode cX15_end 12 = .ok (.ifCond .eq 7, 3) := by decide +kernel
theorem dX15_end_15 : decode cX15_end 15 = .ok (.iconst 0, 1) := by decide +kernel
theorem dX15_end_16 : decode cX15_end 16 = .ok (.goto 4, 3) := by decide +kernel
theorem dX15_end_20 : decode cX15_end 20 = .ok (.putfield 773, 3) := by decide +kernel
theorem dX15_end_23 : decode cX15_end 23 = .ok (.aload_n 0, 1) := by decide +kernel
theorem dX15_end_24 : decode cX15_end 24 = .ok (.getfield 773, 3) := by decide +kernel
theorem dX15_end_27 : decode cX15_end 27 = .ok (.ifCond .ne 8, 3) := by decide +kernel
theorem dX15_end_30 : decode cX15_end 30 = .ok (.aload_n 0, 1) := by decide +kernel
theorem dX15_end_31 : decode cX15_end 31 = .ok (.iload_n 1, 1) := by decide +kernel
theorem dX15_end_32 : decode cX15_end 32 = .ok (.putfield 776, 3) := by decide +kernel
theorem dX15_end_35 : decode cX15_end 35 = .ok (.return_, 1) := by decide +kernel
theorem dX15_end_19 : decode cX15_end 19 = .ok (.iconst 1, 1) := by decide +kernel
set_option maxHeartbeats 4000000 in
set_option maxRecDepth 100000 in
theorem l_feed (l : Launch) (dC : Nat → ClassId) (dI : Nat → Nat → Nat) (sz : Nat) (q : Nat) (fs : List Value) (tp : Nat) (cT : ClassId) (ft : Nat → Int32) (ou : Nat) (cO : ClassId) (fo : Nat → Int64) (p0 : Int32) (p1 : Int32) (p2 : Int32) (p3 : Int32) (p4 : Int32) (L_fs : fs.length = 18) (K0_fs : fs[0]? = some (.ref tp)) (K1_fs : fs[1]? = some (.int 0)) : Met l yL_feed (Cond.codeWith yL_feed cL_feed 8 (some .int) [(0, 16, 19, 13)] :: tb) ({ frames := 2, cells := 0, slots := 0, locals := 47 }) (pcw [.ref q, .int p0, .int p1, .int p2, .int p3, .int p4, .ref ou] (dC, dI) [(q, .inr (11, fs)), (tp, .inl (cT, 2000, .inl ft)), (ou, .inl (cO, 1, .inr (.inl fo)))] [(cT, .byte), (cO, .long)] sz) (va_Qi (fun (r : Int32) => (fun (fo1 : Nat → Int64) => r = 0 ∧ fo1 0 = 20)) (bw (dC, dI) (va_A [(q, .inr (11, fs)), (tp, .inl (cT, 2000, .inl ft)), (ou, .inl (cO, 1, .inr (.inl fo)))] sz) (fun (fo1 : Nat → Int64) => [(ou, .inl (cO, 1, .inr (.inl fo1)))]) (fun (fo1 : Nat → Int64) => [(cO, .long)])) (va_A [(q, .inr (11, fs)), (tp, .inl (cT, 2000, .inl ft)), (ou, .inl (cO, 1, .inr (.inl fo)))] sz)) 0 0 (va_A [(q, .inr (11, fs)), (tp, .inl (cT, 2000, .inl ft)), (ou, .inl (cO, 1, .inr (.inl fo)))] sz) := by
  refine va_MetW (cc := cL_feed) (maxL := 8) (ret := (some .int)) (hh := [(0, 16, 19, 13)]) (by decide) rfl ?_
  intro p e s m args below meth c s₁ B hml hv
  obtain ⟨rfl, hsz, hP, hK, hD0⟩ := hv
  have hx := B.exec
  have hb := B.bytes
  have hr := B.returns
  have hts := atoms_spec (ws := Cond.codeWith yL_feed cL_feed 8 (some .int) [(0, 16, 19, 13)] :: tb) B.pre
  have htab : c.exceptionTable.toList = tableOf [(0, 16, 19, 13)] := vx_table (x := yL_feed) B (hts _ List.mem_cons_self)
  have ht : ∀ w ∈ tb, w.before _ s = true := fun w h => hts w (List.mem_cons_of_mem _ h)
  have hown : s.vm.findClass RL = some m.cls := findClass_of_methodNamed B.named
  have hlocks := B.notSynchronized
  subst hsz
  have hD := hD0.self (sz := s.heap.size)
  generalize hAe : va_A [(q, .inr (11, fs)), (tp, .inl (cT, 2000, .inl ft)), (ou, .inl (cO, 1, .inr (.inl fo)))] s.heap.size = A at hD ⊢
  have hA : ∀ q : Nat, s.heap.size ≤ q → A q := fun q h => by rw [← hAe]; exact Or.inr h
  have hS : va_S A s.heap s.heap [] := va_S.rf
  have hl := lv_entry ([.ref q, .int p0, .int p1, .int p2, .int p3, .int p4, .ref ou]) (n := 8) (Nat.le_of_ble_eq_true rfl)
  rw [lg_entry_eq]
  generalize (lg_sl ([.ref q, .int p0, .int p1, .int p2, .int p3, .int p4, .ref ou]) ++ List.replicate (8 - (lg_sl ([.ref q, .int p0, .int p1, .int p2, .int p3, .int p4, .ref ou])).length) Slot.unset).toArray = ls at hl ⊢
  have hl : lv_has ls 8 [(0, .ref q), (1, .int p0), (2, .int p1), (3, .int p2), (4, .int p3), (5, .int p4), (6, .ref ou)] := hl
  have hP : va_P (dC, dI) cls [(q, .inr (11, fs)), (tp, .inl (cT, 2000, .inl ft)), (ou, .inl (cO, 1, .inr (.inl fo)))] s.heap := hP
  refine lv_aload hx hb dL_feed_0 (lv_at hl 6 rfl) ?_
  refine lv_iconst (v := 0) hx hb dL_feed_2 (by decide) ?_
  refine lv_aload_n hx hb dL_feed_3 rfl (lv_at hl 0 rfl) ?_
  refine lv_iload_n hx hb dL_feed_4 rfl (lv_at hl 1 rfl) ?_
  refine lv_iload_n hx hb dL_feed_5 rfl (lv_at hl 2 rfl) ?_
  refine lv_iload_n hx hb dL_feed_6 rfl (lv_at hl 3 rfl) ?_
  refine lv_iload hx hb dL_feed_7 (lv_at hl 4 rfl) ?_
  refine lv_iload hx hb dL_feed_9 (lv_at hl 5 rfl) ?_
  refine ca_i (wr := [(ou, .inl (cO, 1, .inr (.inl fo)))]) (va_runV (As := [.int p0, .int p1, .int p2, .int p3, .int p4]) (rest := [.int 0, .ref ou]) ⟨hx, hb, hml, hown, ht⟩ (x_feed l dC dI s.heap.size q fs tp cT ft p0 p1 p2 p3 p4 L_fs K0_fs K1_fs ) (cwV 5 ht (gdV k_9_96 k_9_93 k_9_94 k_9_95 k_1_1) rfl rfl rfl (by decide +kernel) ⟨Nat.le_of_ble_eq_true rfl, Nat.le_of_ble_eq_true rfl⟩) ⟨pcw_blind, va_recv hK hP (ci := 11) (q0 := 0) rfl rfl, pcw_at hP hD hK [0, 1] [0] (by decide) rfl rfl rfl⟩ rfl rfl hl.1 rfl (lv_room (Nat.le_of_ble_eq_true rfl)) dL_feed_11 ⟨Nat.le_of_ble_eq_true rfl, Nat.le_of_ble_eq_true rfl⟩) hP hD hK hS hA [0, 1] [2] rfl rfl (by decide) (by decide) (fun r_1 u H locs w_2 hK hP hD hS => ?_)
  have hK : va_K (dC, dI) cls [(cT, .byte), (cO, .long)] s := hK
  have hP : va_P (dC, dI) cls [(ou, .inl (cO, 1, .inr (.inl fo)))] H := hP
  have hD : va_D A [(ou, .inl (cO, 1, .inr (.inl fo)))] := hD
  obtain rfl : r_1 = 20 := w_2
  refine lv_i2l (v := 20) hx hb dL_feed_14 (by decide) ?_
  refine va_last (i := 0) (x := 20) hx hb hK hP hD hS 0 1 rfl rfl (by unfold vp_in; decide) dL_feed_15 (fun H locs hP hD hS => ?_)
  obtain ⟨f_3, ef_3⟩ : ∃ g : Nat → Int64, g = vp_updL fo (0 : Int32).toNatClampNeg 20 := ⟨_, rfl⟩
  rw [← ef_3] at hP hD
  have hP : va_P (dC, dI) cls [(ou, .inl (cO, 1, .inr (.inl f_3)))] H := hP
  have hD : va_D A [(ou, .inl (cO, 1, .inr (.inl f_3)))] := hD
  refine lv_goto (tgt := 23) hx hb dL_feed_16 (by decide) ?_
  refine lv_iconst (v := 0) hx hb dL_feed_23 (by decide) ?_
  exact W.iret (v := 0) hx hb hr (fun t ht9 hW => ⟨⟨0, f_3, rfl, ⟨rfl, by rw [ef_3]; rfl⟩, by rw [ht9]; exact hP.sub [0] rfl, va_K.moved hW.alike (hK.sub [1] rfl), hD.sub [0] (by decide) rfl⟩, hS.F ht9⟩) hS.2.2 dL_feed_24
set_option maxHeartbeats 4000000 in
set_option maxRecDepth 100000 in
theorem l_end_ok (l : Launch) (dC : Nat → ClassId) (dI : Nat → Nat → Nat) (sz : Nat) (q : Nat) (fs : List Value) (L_fs : fs.length = 18) (K1_fs : fs[1]? = some (.int 0)) : Met l yL_end (Cond.codeWith yL_end cL_end 3 (some .int) [(0, 5, 8, 19)] :: tb) ({ frames := 1, cells := 0, slots := 0, locals := 21 }) (pcw [.ref q, .int 0] (dC, dI) [(q, .inr (11, fs))] [] sz) (va_Qi (fun (r : Int32) => (fun (_ : Unit) => r = 0)) (bw (dC, dI) (va_A [(q, .inr (11, fs))] sz) (fun (_ : Unit) => []) (fun (_ : Unit) => [])) (va_A [(q, .inr (11, fs))] sz)) 0 0 (va_A [(q, .inr (11, fs))] sz) := by
  refine va_MetW (cc := cL_end) (maxL := 3) (ret := (some .int)) (hh := [(0, 5, 8, 19)]) (by decide) rfl ?_
  intro p e s m args below meth c s₁ B hml hv
  obtain ⟨rfl, hsz, hP, hK, hD0⟩ := hv
  have hx := B.exec
  have hb := B.bytes
  have hr := B.returns
  have hts := atoms_spec (ws := Cond.codeWith yL_end cL_end 3 (some .int) [(0, 5, 8, 19)] :: tb) B.pre
  have htab : c.exceptionTable.toList = tableOf [(0, 5, 8, 19)] := vx_table (x := yL_end) B (hts _ List.mem_cons_self)
  have ht : ∀ w ∈ tb, w.before _ s = true := fun w h => hts w (List.mem_cons_of_mem _ h)
  have hown : s.vm.findClass RL = some m.cls := findClass_of_methodNamed B.named
  have hlocks := B.notSynchronized
  subst hsz
  have hD := hD0.self (sz := s.heap.size)
  generalize hAe : va_A [(q, .inr (11, fs))] s.heap.size = A at hD ⊢
  have hA : ∀ q : Nat, s.heap.size ≤ q → A q := fun q h => by rw [← hAe]; exact Or.inr h
  have hS : va_S A s.heap s.heap [] := va_S.rf
  have hl := lv_entry ([.ref q, .int 0]) (n := 3) (Nat.le_of_ble_eq_true rfl)
  rw [lg_entry_eq]
  generalize (lg_sl ([.ref q, .int 0]) ++ List.replicate (3 - (lg_sl ([.ref q, .int 0])).length) Slot.unset).toArray = ls at hl ⊢
  have hl : lv_has ls 3 [(0, .ref q), (1, .int 0)] := hl
  have hP : va_P (dC, dI) cls [(q, .inr (11, fs))] s.heap := hP
  refine lv_aload_n hx hb dL_end_0 rfl (lv_at hl 0 rfl) ?_
  refine lv_iload_n hx hb dL_end_1 rfl (lv_at hl 1 rfl) ?_
  refine ca_v (wr := []) (va_runV (As := [.int 0]) (rest := []) ⟨hx, hb, hml, hown, ht⟩ (x_end_ok l dC dI s.heap.size q fs L_fs K1_fs ) (cwV 1 ht (gdV k_9_176 k_9_173 k_9_174 k_9_175 k_1_1) rfl rfl rfl (by decide +kernel) ⟨Nat.le_of_ble_eq_true rfl, Nat.le_of_ble_eq_true rfl⟩) ⟨pcw_blind, va_recv hK hP (ci := 11) (q0 := 0) rfl rfl, pcw_at hP hD hK [0] [] (by decide) rfl rfl rfl⟩ rfl rfl hl.1 rfl (lv_room (Nat.le_of_ble_eq_true rfl)) dL_end_2 ⟨Nat.le_of_ble_eq_true rfl, Nat.le_of_ble_eq_true rfl⟩) hP hD hK hS hA [0] [] rfl rfl (by decide) (by decide) (fun u H locs w_2 hK hP hD hS => ?_)
  have hK : va_K (dC, dI) cls [] s := hK
  have hP : va_P (dC, dI) cls [] H := hP
  have hD : va_D A [] := hD
  refine lv_goto (tgt := 11) hx hb dL_end_5 (by decide) ?_
  refine lv_iconst (v := 0) hx hb dL_end_11 (by decide) ?_
  exact W.iret (v := 0) hx hb hr (fun t ht9 hW => ⟨⟨0, (), rfl, rfl, by rw [ht9]; exact hP.sub [] rfl, va_K.moved hW.alike (hK.sub [] rfl), hD.sub [] (by decide) rfl⟩, hS.F ht9⟩) hS.2.2 dL_end_12
set_option maxHeartbeats 4000000 in
set_option maxRecDepth 100000 in
theorem l_end_no (l : Launch) (dC : Nat → ClassId) (dI : Nat → Nat → Nat) (sz : Nat) (q : Nat) (fs : List Value) (sa : Nat) (p0 : Int32) (L_fs : fs.length = 18) (K1_fs : fs[1]? = some (.int 0)) (hp : ¬ p0 = 0) (hlt : l.stackTraces = false) : Met l yL_end (Cond.codeWith yL_end cL_end 3 (some .int) [(0, 5, 8, 19)] :: tb) ({ frames := 9, cells := 1, slots := 6, locals := 103 }) (pcx [.inr (.inl ("FinderHouse", 104, "the tape has not so many bytes", sa)), .inr (.inr (.inr (.inr (.inl ("java/lang/Throwable", "UNASSIGNED_STACK", "[Ljava/lang/StackTraceElement;"))))), .inr (.inr (.inr (.inr (.inl ("java/lang/Throwable", "SUPPRESSED_SENTINEL", "Ljava/util/List;"))))), .inr (.inr (.inr (.inr (.inr (.inr ())))))] [.ref q, .int p0] (dC, dI) [(q, .inr (11, fs))] [] sz) (va_Qi (fun (r : Int32) => (fun (_ : Unit) => r = 1)) (bw (dC, dI) (va_A [(q, .inr (11, fs))] sz) (fun (_ : Unit) => []) (fun (_ : Unit) => [])) (va_A [(q, .inr (11, fs))] sz)) 1 6 (va_A [(q, .inr (11, fs))] sz) := by
  refine va_MetW (cc := cL_end) (maxL := 3) (ret := (some .int)) (hh := [(0, 5, 8, 19)]) (by decide) rfl ?_
  intro p e s m args below meth c s₁ B hml hv
  obtain ⟨rfl, hsz, hP, hK, hD0, hE⟩ := hv
  have hx := B.exec
  have hb := B.bytes
  have hr := B.returns
  have hts := atoms_spec (ws := Cond.codeWith yL_end cL_end 3 (some .int) [(0, 5, 8, 19)] :: tb) B.pre
  have htab : c.exceptionTable.toList = tableOf [(0, 5, 8, 19)] := vx_table (x := yL_end) B (hts _ List.mem_cons_self)
  have ht : ∀ w ∈ tb, w.before _ s = true := fun w h => hts w (List.mem_cons_of_mem _ h)
  have hown : s.vm.findClass RL = some m.cls := findClass_of_methodNamed B.named
  have hlocks := B.notSynchronized
  subst hsz
  have hD := hD0.self (sz := s.heap.size)
  generalize hAe : va_A [(q, .inr (11, fs))] s.heap.size = A at hD hE ⊢
  have hA : ∀ q : Nat, s.heap.size ≤ q → A q := fun q h => by rw [← hAe]; exact Or.inr h
  have hS : va_S A s.heap s.heap [] := va_S.rf
  have hl := lv_entry ([.ref q, .int p0]) (n := 3) (Nat.le_of_ble_eq_true rfl)
  rw [lg_entry_eq]
  generalize (lg_sl ([.ref q, .int p0]) ++ List.replicate (3 - (lg_sl ([.ref q, .int p0])).length) Slot.unset).toArray = ls at hl ⊢
  have hl : lv_has ls 3 [(0, .ref q), (1, .int p0)] := hl
  have hP : va_P (dC, dI) cls [(q, .inr (11, fs))] s.heap := hP
  refine lv_aload_n hx hb dL_end_0 rfl (lv_at hl 0 rfl) ?_
  refine lv_iload_n hx hb dL_end_1 rfl (lv_at hl 1 rfl) ?_
  have hFc := va_free (wc := [(q, .inr (11, fs))]) hD hS hA [0] rfl
  refine vx_callv (vx_runV (As := [.int p0]) (rest := []) ⟨hx, hb, hml, hown, ht⟩ (x_end_no l dC dI s.heap.size q fs sa p0 L_fs K1_fs (by assumption) hlt) (cwV 1 ht (gdV k_9_176 k_9_173 k_9_174 k_9_175 k_1_1) rfl rfl rfl (by decide +kernel) ⟨Nat.le_of_ble_eq_true rfl, Nat.le_of_ble_eq_true rfl⟩) ⟨pcx_blind, va_recv hK hP (ci := 11) (q0 := 0) rfl rfl, pcx_at hP hD hK hS hA hE [0] [] [0, 1, 2, 3] (by decide) rfl rfl rfl rfl⟩ rfl rfl hl.1 rfl (lv_room (Nat.le_of_ble_eq_true rfl)) dL_end_2 ⟨Nat.le_of_ble_eq_true rfl, Nat.le_of_ble_eq_true rfl⟩) hS (fun q _ h => hFc q h) hFc (fun q _ h => hFc q h) (fun E9 ce t_1 u t H locs ht9 hvm _ hE9 hz9 hk9 hS hce hcv hcl => ?_) (fun u t H locs ht9 hvm hw _ _ _ _ => hw.elim)
  subst hE9
  have hP : va_P (dC, dI) cls [] H := fun k q h => by simp at h
  have hD : va_D A [] := ⟨fun i j p q h => by simp at h, fun k q h => by simp at h⟩
  refine vx_widen (k := 1) (n := 6) (by omega) (by omega) ?_
  refine vx_catch (E := "java/lang/IllegalArgumentException") (name := "java/lang/IllegalArgumentException") hown [] ⟨0, 5, 8, 19⟩ [] htab (fun z hz => by cases hz) (by decide) (by decide) (ht _ k_9_172) (nb_args rfl (xf_n hE 3 rfl _ kn_9_179)) hce hcv hcl ?_
  refine lv_astore_n (lv' := [(2, .ref t_1), (0, .ref q), (1, .int p0)]) hx hb dL_end_8 rfl hl (by decide) rfl (fun ls hl => ?_)
  refine lv_iconst (v := 1) hx hb dL_end_9 (by decide) ?_
  exact W.iret (v := 1) hx hb hr (fun t ht9 hW => ⟨⟨1, (), rfl, rfl, by rw [ht9]; exact hP.sub [] rfl, va_K.moved hW.alike (hK.sub [] rfl), hD.sub [] (by decide) rfl⟩, hS.F ht9⟩) hS.2.2 dL_end_10
set_option maxHeartbeats 4000000 in
set_option maxRecDepth 100000 in
theorem l_octet_ok (l : Launch) (dC : Nat → ClassId) (dI : Nat → Nat → Nat) (sz : Nat) (q : Nat) (fs : List Value) (d : Nat) (gd : List Value) (bk : Nat) (cB : ClassId) (ou : Nat) (cO : ClassId) (fo : Nat → Int64) (p0 : Int32) (p1 : Int32) (L_fs : fs.length = 18) (K17_fs : fs[17]? = some (.ref d)) (L_gd : gd.length = 7) (K0_gd : gd[0]? = some (.ref bk)) (hi : dkin p0 p1) : Met l yL_octet (Cond.codeWith yL_octet cL_octet 5 (some .int) [(0, 10, 13, 25)] :: tb) ({ frames := 2, cells := 0, slots := 0, locals := 44 }) (pcw [.ref q, .int p0, .int p1, .ref ou] (dC, dI) [(q, .inr (11, fs)), (d, .inr (2, gd)), (bk, .inl (cB, 25600, .inl (fun _ => 0))), (ou, .inl (cO, 1, .inr (.inl fo)))] [(cB, .byte), (cO, .long)] sz) (va_Qi (fun (r : Int32) => (fun (fo1 : Nat → Int64) => r = 0 ∧ fo1 0 = 0)) (bw (dC, dI) (va_A [(q, .inr (11, fs)), (d, .inr (2, gd)), (bk, .inl (cB, 25600, .inl (fun _ => 0))), (ou, .inl (cO, 1, .inr (.inl fo)))] sz) (fun (fo1 : Nat → Int64) => [(ou, .inl (cO, 1, .inr (.inl fo1)))]) (fun (fo1 : Nat → Int64) => [(cO, .long)])) (va_A [(q, .inr (11, fs)), (d, .inr (2, gd)), (bk, .inl (cB, 25600, .inl (fun _ => 0))), (ou, .inl (cO, 1, .inr (.inl fo)))] sz)) 0 0 (va_A [(q, .inr (11, fs)), (d, .inr (2, gd)), (bk, .inl (cB, 25600, .inl (fun _ => 0))), (ou, .inl (cO, 1, .inr (.inl fo)))] sz) := by
  refine va_MetW (cc := cL_octet) (maxL := 5) (ret := (some .int)) (hh := [(0, 10, 13, 25)]) (by decide) rfl ?_
  intro p e s m args below meth c s₁ B hml hv
  obtain ⟨rfl, hsz, hP, hK, hD0⟩ := hv
  have hx := B.exec
  have hb := B.bytes
  have hr := B.returns
  have hts := atoms_spec (ws := Cond.codeWith yL_octet cL_octet 5 (some .int) [(0, 10, 13, 25)] :: tb) B.pre
  have htab : c.exceptionTable.toList = tableOf [(0, 10, 13, 25)] := vx_table (x := yL_octet) B (hts _ List.mem_cons_self)
  have ht : ∀ w ∈ tb, w.before _ s = true := fun w h => hts w (List.mem_cons_of_mem _ h)
  have hown : s.vm.findClass RL = some m.cls := findClass_of_methodNamed B.named
  have hlocks := B.notSynchronized
  subst hsz
  have hD := hD0.self (sz := s.heap.size)
  generalize hAe : va_A [(q, .inr (11, fs)), (d, .inr (2, gd)), (bk, .inl (cB, 25600, .inl (fun _ => 0))), (ou, .inl (cO, 1, .inr (.inl fo)))] s.heap.size = A at hD ⊢
  have hA : ∀ q : Nat, s.heap.size ≤ q → A q := fun q h => by rw [← hAe]; exact Or.inr h
  have hS : va_S A s.heap s.heap [] := va_S.rf
  have hl := lv_entry ([.ref q, .int p0, .int p1, .ref ou]) (n := 5) (Nat.le_of_ble_eq_true rfl)
  rw [lg_entry_eq]
  generalize (lg_sl ([.ref q, .int p0, .int p1, .ref ou]) ++ List.replicate (5 - (lg_sl ([.ref q, .int p0, .int p1, .ref ou])).length) Slot.unset).toArray = ls at hl ⊢
  have hl : lv_has ls 5 [(0, .ref q), (1, .int p0), (2, .int p1), (3, .ref ou)] := hl
  have hP : va_P (dC, dI) cls [(q, .inr (11, fs)), (d, .inr (2, gd)), (bk, .inl (cB, 25600, .inl (fun _ => 0))), (ou, .inl (cO, 1, .inr (.inl fo)))] s.heap := hP
  refine lv_aload_n hx hb dL_octet_0 rfl (lv_at hl 3 rfl) ?_
  refine lv_iconst (v := 0) hx hb dL_octet_1 (by decide) ?_
  refine lv_aload_n hx hb dL_octet_2 rfl (lv_at hl 0 rfl) ?_
  refine lv_iload_n hx hb dL_octet_3 rfl (lv_at hl 1 rfl) ?_
  refine lv_iload_n hx hb dL_octet_4 rfl (lv_at hl 2 rfl) ?_
  refine ca_i (wr := [(ou, .inl (cO, 1, .inr (.inl fo)))]) (va_runV (As := [.int p0, .int p1]) (rest := [.int 0, .ref ou]) ⟨hx, hb, hml, hown, ht⟩ (x_octet_ok l dC dI s.heap.size q fs d gd bk cB p0 p1 L_fs K17_fs L_gd K0_gd (by assumption)) (cwV 2 ht (gdV k_9_200 k_9_197 k_9_198 k_9_199 k_1_1) rfl rfl rfl (by decide +kernel) ⟨Nat.le_of_ble_eq_true rfl, Nat.le_of_ble_eq_true rfl⟩) ⟨pcw_blind, va_recv hK hP (ci := 11) (q0 := 0) rfl rfl, pcw_at hP hD hK [0, 1, 2] [0] (by decide) rfl rfl rfl⟩ rfl rfl hl.1 rfl (lv_room (Nat.le_of_ble_eq_true rfl)) dL_octet_5 ⟨Nat.le_of_ble_eq_true rfl, Nat.le_of_ble_eq_true rfl⟩) hP hD hK hS hA [0, 1, 2] [3] rfl rfl (by decide) (by decide) (fun r_1 u H locs w_2 hK hP hD hS => ?_)
  have hK : va_K (dC, dI) cls [(cB, .byte), (cO, .long)] s := hK
  have hP : va_P (dC, dI) cls [(ou, .inl (cO, 1, .inr (.inl fo)))] H := hP
  have hD : va_D A [(ou, .inl (cO, 1, .inr (.inl fo)))] := hD
  refine lv_i2l hx hb dL_octet_8 rfl ?_
  refine lv_topl (fun x_3 ex_3 => ?_)
  refine va_last (i := 0) (x := x_3) hx hb hK hP hD hS 0 1 rfl rfl (by unfold vp_in; decide) dL_octet_9 (fun H locs hP hD hS => ?_)
  obtain ⟨f_4, ef_4⟩ : ∃ g : Nat → Int64, g = vp_updL fo (0 : Int32).toNatClampNeg x_3 := ⟨_, rfl⟩
  rw [← ef_4] at hP hD
  have hP : va_P (dC, dI) cls [(ou, .inl (cO, 1, .inr (.inl f_4)))] H := hP
  have hD : va_D A [(ou, .inl (cO, 1, .inr (.inl f_4)))] := hD
  refine lv_goto (tgt := 17) hx hb dL_octet_10 (by decide) ?_
  refine lv_iconst (v := 0) hx hb dL_octet_17 (by decide) ?_
  exact W.iret (v := 0) hx hb hr (fun t ht9 hW => ⟨⟨0, f_4, rfl, ⟨rfl, by rw [ef_4]; show vp_updL fo 0 x_3 0 = _; rw [pk_uLs, ex_3, w_2]; rfl⟩, by rw [ht9]; exact hP.sub [0] rfl, va_K.moved hW.alike (hK.sub [1] rfl), hD.sub [0] (by decide) rfl⟩, hS.F ht9⟩) hS.2.2 dL_octet_18
set_option maxHeartbeats 4000000 in
set_option maxRecDepth 100000 in
theorem l_octet_no (l : Launch) (dC : Nat → ClassId) (dI : Nat → Nat → Nat) (sz : Nat) (q : Nat) (fs : List Value) (d : Nat) (gd : List Value) (ou : Nat) (cO : ClassId) (fo : Nat → Int64) (sa : Nat) (p0 : Int32) (p1 : Int32) (L_fs : fs.length = 18) (K17_fs : fs[17]? = some (.ref d)) (L_gd : gd.length = 7) (hn : ¬ dkin p0 p1) (hlt : l.stackTraces = false) : Met l yL_octet (Cond.codeWith yL_octet cL_octet 5 (some .int) [(0, 10, 13, 25)] :: tb) ({ frames := 9, cells := 1, slots := 6, locals := 104 }) (pcx [.inr (.inl ("FinderHouse", 534, "no such byte on the disk", sa)), .inr (.inr (.inr (.inr (.inl ("java/lang/Throwable", "UNASSIGNED_STACK", "[Ljava/lang/StackTraceElement;"))))), .inr (.inr (.inr (.inr (.inl ("java/lang/Throwable", "SUPPRESSED_SENTINEL", "Ljava/util/List;"))))), .inr (.inr (.inr (.inr (.inr (.inr ())))))] [.ref q, .int p0, .int p1, .ref ou] (dC, dI) [(q, .inr (11, fs)), (d, .inr (2, gd)), (ou, .inl (cO, 1, .inr (.inl fo)))] [(cO, .long)] sz) (va_Qi (fun (r : Int32) => (fun (_ : Unit) => r = 1)) (bw (dC, dI) (va_A [(q, .inr (11, fs)), (d, .inr (2, gd)), (ou, .inl (cO, 1, .inr (.inl fo)))] sz) (fun (_ : Unit) => []) (fun (_ : Unit) => [])) (va_A [(q, .inr (11, fs)), (d, .inr (2, gd)), (ou, .inl (cO, 1, .inr (.inl fo)))] sz)) 1 6 (va_A [(q, .inr (11, fs)), (d, .inr (2, gd)), (ou, .inl (cO, 1, .inr (.inl fo)))] sz) := by
  refine va_MetW (cc := cL_octet) (maxL := 5) (ret := (some .int)) (hh := [(0, 10, 13, 25)]) (by decide) rfl ?_
  intro p e s m args below meth c s₁ B hml hv
  obtain ⟨rfl, hsz, hP, hK, hD0, hE⟩ := hv
  have hx := B.exec
  have hb := B.bytes
  have hr := B.returns
  have hts := atoms_spec (ws := Cond.codeWith yL_octet cL_octet 5 (some .int) [(0, 10, 13, 25)] :: tb) B.pre
  have htab : c.exceptionTable.toList = tableOf [(0, 10, 13, 25)] := vx_table (x := yL_octet) B (hts _ List.mem_cons_self)
  have ht : ∀ w ∈ tb, w.before _ s = true := fun w h => hts w (List.mem_cons_of_mem _ h)
  have hown : s.vm.findClass RL = some m.cls := findClass_of_methodNamed B.named
  have hlocks := B.notSynchronized
  subst hsz
  have hD := hD0.self (sz := s.heap.size)
  generalize hAe : va_A [(q, .inr (11, fs)), (d, .inr (2, gd)), (ou, .inl (cO, 1, .inr (.inl fo)))] s.heap.size = A at hD hE ⊢
  have hA : ∀ q : Nat, s.heap.size ≤ q → A q := fun q h => by rw [← hAe]; exact Or.inr h
  have hS : va_S A s.heap s.heap [] := va_S.rf
  have hl := lv_entry ([.ref q, .int p0, .int p1, .ref ou]) (n := 5) (Nat.le_of_ble_eq_true rfl)
  rw [lg_entry_eq]
  generalize (lg_sl ([.ref q, .int p0, .int p1, .ref ou]) ++ List.replicate (5 - (lg_sl ([.ref q, .int p0, .int p1, .ref ou])).length) Slot.unset).toArray = ls at hl ⊢
  have hl : lv_has ls 5 [(0, .ref q), (1, .int p0), (2, .int p1), (3, .ref ou)] := hl
  have hP : va_P (dC, dI) cls [(q, .inr (11, fs)), (d, .inr (2, gd)), (ou, .inl (cO, 1, .inr (.inl fo)))] s.heap := hP
  refine lv_aload_n hx hb dL_octet_0 rfl (lv_at hl 3 rfl) ?_
  refine lv_iconst (v := 0) hx hb dL_octet_1 (by decide) ?_
  refine lv_aload_n hx hb dL_octet_2 rfl (lv_at hl 0 rfl) ?_
  refine lv_iload_n hx hb dL_octet_3 rfl (lv_at hl 1 rfl) ?_
  refine lv_iload_n hx hb dL_octet_4 rfl (lv_at hl 2 rfl) ?_
  have hFc := va_free (wc := [(q, .inr (11, fs)), (d, .inr (2, gd))]) hD hS hA [0, 1] rfl
  refine vx_calli (vx_runV (As := [.int p0, .int p1]) (rest := [.int 0, .ref ou]) ⟨hx, hb, hml, hown, ht⟩ (x_octet_no l dC dI s.heap.size q fs d gd sa p0 p1 L_fs K17_fs L_gd (by assumption) hlt) (cwV 2 ht (gdV k_9_200 k_9_197 k_9_198 k_9_199 k_1_1) rfl rfl rfl (by decide +kernel) ⟨Nat.le_of_ble_eq_true rfl, Nat.le_of_ble_eq_true rfl⟩) ⟨pcx_blind, va_recv hK hP (ci := 11) (q0 := 0) rfl rfl, pcx_at hP hD hK hS hA hE [0, 1] [] [0, 1, 2, 3] (by decide) rfl rfl rfl rfl⟩ rfl rfl hl.1 rfl (lv_room (Nat.le_of_ble_eq_true rfl)) dL_octet_5 ⟨Nat.le_of_ble_eq_true rfl, Nat.le_of_ble_eq_true rfl⟩) hS (fun q _ h => hFc q h) hFc (fun q _ h => hFc q h) (fun E9 ce t_1 u t H locs ht9 hvm _ hE9 hz9 hk9 hS hce hcv hcl => ?_) (fun r u t H locs ht9 hvm hw _ _ _ _ => hw.elim)
  subst hE9
  have hP : va_P (dC, dI) cls [] H := fun k q h => by simp at h
  have hD : va_D A [] := ⟨fun i j p q h => by simp at h, fun k q h => by simp at h⟩
  refine vx_widen (k := 1) (n := 6) (by omega) (by omega) ?_
  refine vx_catch (E := "java/lang/IndexOutOfBoundsException") (name := "java/lang/IndexOutOfBoundsException") hown [] ⟨0, 10, 13, 25⟩ [] htab (fun z hz => by cases hz) (by decide) (by decide) (ht _ k_9_196) (nb_args rfl (xf_n hE 3 rfl _ kn_9_207)) hce hcv hcl ?_
  refine lv_astore (lv' := [(4, .ref t_1), (0, .ref q), (1, .int p0), (2, .int p1), (3, .ref ou)]) hx hb dL_octet_13 hl (by decide) rfl (fun ls hl => ?_)
  refine lv_iconst (v := 1) hx hb dL_octet_15 (by decide) ?_
  exact W.iret (v := 1) hx hb hr (fun t ht9 hW => ⟨⟨1, (), rfl, rfl, by rw [ht9]; exact hP.sub [] rfl, va_K.moved hW.alike (hK.sub [] rfl), hD.sub [] (by decide) rfl⟩, hS.F ht9⟩) hS.2.2 dL_octet_16
set_option maxHeartbeats 4000000 in
set_option maxRecDepth 100000 in
theorem l_poke_ok (l : Launch) (dC : Nat → ClassId) (dI : Nat → Nat → Nat) (sz : Nat) (q : Nat) (fs : List Value) (d : Nat) (gd : List Value) (bk : Nat) (cB : ClassId) (ou : Nat) (cO : ClassId) (fo : Nat → Int64) (p0 : Int32) (p1 : Int32) (p2 : Int32) (L_fs : fs.length = 18) (K17_fs : fs[17]? = some (.ref d)) (L_gd : gd.length = 7) (K0_gd : gd[0]? = some (.ref bk)) (hi : dkin p0 p1) : Met l yL_poke (Cond.codeWith yL_poke cL_poke 6 (some .int) [(0, 12, 15, 25)] :: tb) ({ frames := 2, cells := 0, slots := 0, locals := 46 }) (pcw [.ref q, .int p0, .int p1, .int p2, .ref ou] (dC, dI) [(q, .inr (11, fs)), (d, .inr (2, gd)), (bk, .inl (cB, 25600, .inl (fun _ => 0))), (ou, .inl (cO, 1, .inr (.inl fo)))] [(cB, .byte), (cO, .long)] sz) (va_Qi (fun (r : Int32) => (fun (fo1 : Nat → Int64) => r = 0 ∧ fo1 0 = (p2 &&& 255).toInt64)) (bw (dC, dI) (va_A [(q, .inr (11, fs)), (d, .inr (2, gd)), (bk, .inl (cB, 25600, .inl (fun _ => 0))), (ou, .inl (cO, 1, .inr (.inl fo)))] sz) (fun (fo1 : Nat → Int64) => [(ou, .inl (cO, 1, .inr (.inl fo1)))]) (fun (fo1 : Nat → Int64) => [(cO, .long)])) (va_A [(q, .inr (11, fs)), (d, .inr (2, gd)), (bk, .inl (cB, 25600, .inl (fun _ => 0))), (ou, .inl (cO, 1, .inr (.inl fo)))] sz)) 0 0 (va_A [(q, .inr (11, fs)), (d, .inr (2, gd)), (bk, .inl (cB, 25600, .inl (fun _ => 0))), (ou, .inl (cO, 1, .inr (.inl fo)))] sz) := by
  refine va_MetW (cc := cL_poke) (maxL := 6) (ret := (some .int)) (hh := [(0, 12, 15, 25)]) (by decide) rfl ?_
  intro p e s m args below meth c s₁ B hml hv
  obtain ⟨rfl, hsz, hP, hK, hD0⟩ := hv
  have hx := B.exec
  have hb := B.bytes
  have hr := B.returns
  have hts := atoms_spec (ws := Cond.codeWith yL_poke cL_poke 6 (some .int) [(0, 12, 15, 25)] :: tb) B.pre
  have htab : c.exceptionTable.toList = tableOf [(0, 12, 15, 25)] := vx_table (x := yL_poke) B (hts _ List.mem_cons_self)
  have ht : ∀ w ∈ tb, w.before _ s = true := fun w h => hts w (List.mem_cons_of_mem _ h)
  have hown : s.vm.findClass RL = some m.cls := findClass_of_methodNamed B.named
  have hlocks := B.notSynchronized
  subst hsz
  have hD := hD0.self (sz := s.heap.size)
  generalize hAe : va_A [(q, .inr (11, fs)), (d, .inr (2, gd)), (bk, .inl (cB, 25600, .inl (fun _ => 0))), (ou, .inl (cO, 1, .inr (.inl fo)))] s.heap.size = A at hD ⊢
  have hA : ∀ q : Nat, s.heap.size ≤ q → A q := fun q h => by rw [← hAe]; exact Or.inr h
  have hS : va_S A s.heap s.heap [] := va_S.rf
  have hl := lv_entry ([.ref q, .int p0, .int p1, .int p2, .ref ou]) (n := 6) (Nat.le_of_ble_eq_true rfl)
  rw [lg_entry_eq]
  generalize (lg_sl ([.ref q, .int p0, .int p1, .int p2, .ref ou]) ++ List.replicate (6 - (lg_sl ([.ref q, .int p0, .int p1, .int p2, .ref ou])).length) Slot.unset).toArray = ls at hl ⊢
  have hl : lv_has ls 6 [(0, .ref q), (1, .int p0), (2, .int p1), (3, .int p2), (4, .ref ou)] := hl
  have hP : va_P (dC, dI) cls [(q, .inr (11, fs)), (d, .inr (2, gd)), (bk, .inl (cB, 25600, .inl (fun _ => 0))), (ou, .inl (cO, 1, .inr (.inl fo)))] s.heap := hP
  refine lv_aload hx hb dL_poke_0 (lv_at hl 4 rfl) ?_
  refine lv_iconst (v := 0) hx hb dL_poke_2 (by decide) ?_
  refine lv_aload_n hx hb dL_poke_3 rfl (lv_at hl 0 rfl) ?_
  refine lv_iload_n hx hb dL_poke_4 rfl (lv_at hl 1 rfl) ?_
  refine lv_iload_n hx hb dL_poke_5 rfl (lv_at hl 2 rfl) ?_
  refine lv_iload_n hx hb dL_poke_6 rfl (lv_at hl 3 rfl) ?_
  refine ca_i (wr := [(ou, .inl (cO, 1, .inr (.inl fo)))]) (va_runV (As := [.int p0, .int p1, .int p2]) (rest := [.int 0, .ref ou]) ⟨hx, hb, hml, hown, ht⟩ (x_poke_ok l dC dI s.heap.size q fs d gd bk cB p0 p1 p2 L_fs K17_fs L_gd K0_gd (by assumption)) (cwV 3 ht (gdV k_9_228 k_9_225 k_9_226 k_9_227 k_1_1) rfl rfl rfl (by decide +kernel) ⟨Nat.le_of_ble_eq_true rfl, Nat.le_of_ble_eq_true rfl⟩) ⟨pcw_blind, va_recv hK hP (ci := 11) (q0 := 0) rfl rfl, pcw_at hP hD hK [0, 1, 2] [0] (by decide) rfl rfl rfl⟩ rfl rfl hl.1 rfl (lv_room (Nat.le_of_ble_eq_true rfl)) dL_poke_7 ⟨Nat.le_of_ble_eq_true rfl, Nat.le_of_ble_eq_true rfl⟩) hP hD hK hS hA [0, 1, 2] [3] rfl rfl (by decide) (by decide) (fun r_1 u H locs w_2 hK hP hD hS => ?_)
  have hK : va_K (dC, dI) cls [(cB, .byte), (cO, .long)] s := hK
  have hP : va_P (dC, dI) cls [(ou, .inl (cO, 1, .inr (.inl fo)))] H := hP
  have hD : va_D A [(ou, .inl (cO, 1, .inr (.inl fo)))] := hD
  refine lv_i2l hx hb dL_poke_10 rfl ?_
  refine lv_topl (fun x_3 ex_3 => ?_)
  refine va_last (i := 0) (x := x_3) hx hb hK hP hD hS 0 1 rfl rfl (by unfold vp_in; decide) dL_poke_11 (fun H locs hP hD hS => ?_)
  obtain ⟨f_4, ef_4⟩ : ∃ g : Nat → Int64, g = vp_updL fo (0 : Int32).toNatClampNeg x_3 := ⟨_, rfl⟩
  rw [← ef_4] at hP hD
  have hP : va_P (dC, dI) cls [(ou, .inl (cO, 1, .inr (.inl f_4)))] H := hP
  have hD : va_D A [(ou, .inl (cO, 1, .inr (.inl f_4)))] := hD
  refine lv_goto (tgt := 19) hx hb dL_poke_12 (by decide) ?_
  refine lv_iconst (v := 0) hx hb dL_poke_19 (by decide) ?_
  exact W.iret (v := 0) hx hb hr (fun t ht9 hW => ⟨⟨0, f_4, rfl, ⟨rfl, by rw [ef_4]; show vp_updL fo 0 x_3 0 = _; rw [pk_uLs, ex_3, w_2]⟩, by rw [ht9]; exact hP.sub [0] rfl, va_K.moved hW.alike (hK.sub [1] rfl), hD.sub [0] (by decide) rfl⟩, hS.F ht9⟩) hS.2.2 dL_poke_20
set_option maxHeartbeats 4000000 in
set_option maxRecDepth 100000 in
theorem l_poke_no (l : Launch) (dC : Nat → ClassId) (dI : Nat → Nat → Nat) (sz : Nat) (q : Nat) (fs : List Value) (d : Nat) (gd : List Value) (ou : Nat) (cO : ClassId) (fo : Nat → Int64) (sa : Nat) (p0 : Int32) (p1 : Int32) (p2 : Int32) (L_fs : fs.length = 18) (K17_fs : fs[17]? = some (.ref d)) (L_gd : gd.length = 7) (hn : ¬ dkin p0 p1) (hlt : l.stackTraces = false) : Met l yL_poke (Cond.codeWith yL_poke cL_poke 6 (some .int) [(0, 12, 15, 25)] :: tb) ({ frames := 9, cells := 1, slots := 6, locals := 106 }) (pcx [.inr (.inl ("FinderHouse", 534, "no such byte on the disk", sa)), .inr (.inr (.inr (.inr (.inl ("java/lang/Throwable", "UNASSIGNED_STACK", "[Ljava/lang/StackTraceElement;"))))), .inr (.inr (.inr (.inr (.inl ("java/lang/Throwable", "SUPPRESSED_SENTINEL", "Ljava/util/List;"))))), .inr (.inr (.inr (.inr (.inr (.inr ())))))] [.ref q, .int p0, .int p1, .int p2, .ref ou] (dC, dI) [(q, .inr (11, fs)), (d, .inr (2, gd)), (ou, .inl (cO, 1, .inr (.inl fo)))] [(cO, .long)] sz) (va_Qi (fun (r : Int32) => (fun (_ : Unit) => r = 1)) (bw (dC, dI) (va_A [(q, .inr (11, fs)), (d, .inr (2, gd)), (ou, .inl (cO, 1, .inr (.inl fo)))] sz) (fun (_ : Unit) => []) (fun (_ : Unit) => [])) (va_A [(q, .inr (11, fs)), (d, .inr (2, gd)), (ou, .inl (cO, 1, .inr (.inl fo)))] sz)) 1 6 (va_A [(q, .inr (11, fs)), (d, .inr (2, gd)), (ou, .inl (cO, 1, .inr (.inl fo)))] sz) := by
  refine va_MetW (cc := cL_poke) (maxL := 6) (ret := (some .int)) (hh := [(0, 12, 15, 25)]) (by decide) rfl ?_
  intro p e s m args below meth c s₁ B hml hv
  obtain ⟨rfl, hsz, hP, hK, hD0, hE⟩ := hv
  have hx := B.exec
  have hb := B.bytes
  have hr := B.returns
  have hts := atoms_spec (ws := Cond.codeWith yL_poke cL_poke 6 (some .int) [(0, 12, 15, 25)] :: tb) B.pre
  have htab : c.exceptionTable.toList = tableOf [(0, 12, 15, 25)] := vx_table (x := yL_poke) B (hts _ List.mem_cons_self)
  have ht : ∀ w ∈ tb, w.before _ s = true := fun w h => hts w (List.mem_cons_of_mem _ h)
  have hown : s.vm.findClass RL = some m.cls := findClass_of_methodNamed B.named
  have hlocks := B.notSynchronized
  subst hsz
  have hD := hD0.self (sz := s.heap.size)
  generalize hAe : va_A [(q, .inr (11, fs)), (d, .inr (2, gd)), (ou, .inl (cO, 1, .inr (.inl fo)))] s.heap.size = A at hD hE ⊢
  have hA : ∀ q : Nat, s.heap.size ≤ q → A q := fun q h => by rw [← hAe]; exact Or.inr h
  have hS : va_S A s.heap s.heap [] := va_S.rf
  have hl := lv_entry ([.ref q, .int p0, .int p1, .int p2, .ref ou]) (n := 6) (Nat.le_of_ble_eq_true rfl)
  rw [lg_entry_eq]
  generalize (lg_sl ([.ref q, .int p0, .int p1, .int p2, .ref ou]) ++ List.replicate (6 - (lg_sl ([.ref q, .int p0, .int p1, .int p2, .ref ou])).length) Slot.unset).toArray = ls at hl ⊢
  have hl : lv_has ls 6 [(0, .ref q), (1, .int p0), (2, .int p1), (3, .int p2), (4, .ref ou)] := hl
  have hP : va_P (dC, dI) cls [(q, .inr (11, fs)), (d, .inr (2, gd)), (ou, .inl (cO, 1, .inr (.inl fo)))] s.heap := hP
  refine lv_aload hx hb dL_poke_0 (lv_at hl 4 rfl) ?_
  refine lv_iconst (v := 0) hx hb dL_poke_2 (by decide) ?_
  refine lv_aload_n hx hb dL_poke_3 rfl (lv_at hl 0 rfl) ?_
  refine lv_iload_n hx hb dL_poke_4 rfl (lv_at hl 1 rfl) ?_
  refine lv_iload_n hx hb dL_poke_5 rfl (lv_at hl 2 rfl) ?_
  refine lv_iload_n hx hb dL_poke_6 rfl (lv_at hl 3 rfl) ?_
  have hFc := va_free (wc := [(q, .inr (11, fs)), (d, .inr (2, gd))]) hD hS hA [0, 1] rfl
  refine vx_calli (vx_runV (As := [.int p0, .int p1, .int p2]) (rest := [.int 0, .ref ou]) ⟨hx, hb, hml, hown, ht⟩ (x_poke_no l dC dI s.heap.size q fs d gd sa p0 p1 p2 L_fs K17_fs L_gd (by assumption) hlt) (cwV 3 ht (gdV k_9_228 k_9_225 k_9_226 k_9_227 k_1_1) rfl rfl rfl (by decide +kernel) ⟨Nat.le_of_ble_eq_true rfl, Nat.le_of_ble_eq_true rfl⟩) ⟨pcx_blind, va_recv hK hP (ci := 11) (q0 := 0) rfl rfl, pcx_at hP hD hK hS hA hE [0, 1] [] [0, 1, 2, 3] (by decide) rfl rfl rfl rfl⟩ rfl rfl hl.1 rfl (lv_room (Nat.le_of_ble_eq_true rfl)) dL_poke_7 ⟨Nat.le_of_ble_eq_true rfl, Nat.le_of_ble_eq_true rfl⟩) hS (fun q _ h => hFc q h) hFc (fun q _ h => hFc q h) (fun E9 ce t_1 u t H locs ht9 hvm _ hE9 hz9 hk9 hS hce hcv hcl => ?_) (fun r u t H locs ht9 hvm hw _ _ _ _ => hw.elim)
  subst hE9
  have hP : va_P (dC, dI) cls [] H := fun k q h => by simp at h
  have hD : va_D A [] := ⟨fun i j p q h => by simp at h, fun k q h => by simp at h⟩
  refine vx_widen (k := 1) (n := 6) (by omega) (by omega) ?_
  refine vx_catch (E := "java/lang/IndexOutOfBoundsException") (name := "java/lang/IndexOutOfBoundsException") hown [] ⟨0, 12, 15, 25⟩ [] htab (fun z hz => by cases hz) (by decide) (by decide) (ht _ k_9_196) (nb_args rfl (xf_n hE 3 rfl _ kn_9_207)) hce hcv hcl ?_
  refine lv_astore (lv' := [(5, .ref t_1), (0, .ref q), (1, .int p0), (2, .int p1), (3, .int p2), (4, .ref ou)]) hx hb dL_poke_15 hl (by decide) rfl (fun ls hl => ?_)
  refine lv_iconst (v := 1) hx hb dL_poke_17 (by decide) ?_
  exact W.iret (v := 1) hx hb hr (fun t ht9 hW => ⟨⟨1, (), rfl, rfl, by rw [ht9]; exact hP.sub [] rfl, va_K.moved hW.alike (hK.sub [] rfl), hD.sub [] (by decide) rfl⟩, hS.F ht9⟩) hS.2.2 dL_poke_18
set_option maxHeartbeats 4000000 in
set_option maxRecDepth 100000 in
theorem r_blocksFor_0 (l : Launch) (dC : Nat → ClassId) (dI : Nat → Nat → Nat) (sz : Nat)   : Met l yX15_blocksFor (Cond.code yX15_blocksFor cX15_blocksFor 1 (some .int) :: tb) ({ frames := 0, cells := 0, slots := 0, locals := 0 }) (pcw [.int 0] (dC, dI) [] [] sz) (va_Qi (fun (r : Int32) => (fun (_ : Unit) => r = 0)) (bw (dC, dI) (va_A [] sz) (fun (_ : Unit) => []) (fun (_ : Unit) => [])) (va_A [] sz)) 0 0 (va_A [] sz) := by
  refine Met.ofW (cc := cX15_blocksFor) (maxL := 1) (ret := (some .int)) (by decide) rfl ?_
  intro p e s m args below meth c s₁ B hml hv
  obtain ⟨rfl, hsz, hP, hK, hD0⟩ := hv
  have hx := B.exec
  have hb := B.bytes
  have hr := B.returns
  have hts := atoms_spec (ws := Cond.code yX15_blocksFor cX15_blocksFor 1 (some .int) :: tb) B.pre
  have ht : ∀ w ∈ tb, w.before _ s = true := fun w h => hts w (List.mem_cons_of_mem _ h)
  have hown : s.vm.findClass RX15 = some m.cls := findClass_of_methodNamed B.named
  have hlocks := B.notSynchronized
  subst hsz
  have hD := hD0.self (sz := s.heap.size)
  generalize hAe : va_A [] s.heap.size = A at hD ⊢
  have hA : ∀ q : Nat, s.heap.size ≤ q → A q := fun q h => by rw [← hAe]; exact Or.inr h
  have hS : va_S A s.heap s.heap [] := va_S.rf
  have hl := lv_entry ([.int 0]) (n := 1) (Nat.le_of_ble_eq_true rfl)
  rw [lg_entry_eq]
  generalize (lg_sl ([.int 0]) ++ List.replicate (1 - (lg_sl ([.int 0])).length) Slot.unset).toArray = ls at hl ⊢
  have hl : lv_has ls 1 [(0, .int 0)] := hl
  have hP : va_P (dC, dI) cls [] s.heap := hP
  refine lv_iload_n hx hb dX15_blocksFor_0 rfl (lv_at hl 0 rfl) ?_
  refine lv_bipush (v := 121) hx hb dX15_blocksFor_1 (by decide) ?_
  refine lv_iadd hx hb dX15_blocksFor_3 ?_
  refine tk_i (y := 121) (by decide) ?_
  refine lv_iconst (v := 1) hx hb dX15_blocksFor_4 (by decide) ?_
  refine lv_isub hx hb dX15_blocksFor_5 ?_
  refine tk_i (y := 120) (by decide) ?_
  refine lv_bipush (v := 121) hx hb dX15_blocksFor_6 (by decide) ?_
  refine lv_idiv hx hb dX15_blocksFor_8 (by decide) ?_
  refine tk_i (y := 0) (by decide) ?_
  exact W.iret (v := 0) hx hb hr (fun t ht9 hW => ⟨⟨0, (), rfl, rfl, by rw [ht9]; exact hP.sub [] rfl, va_K.moved hW.alike (hK.sub [] rfl), hD.sub [] (by decide) rfl⟩, hS.F ht9⟩) hS.2.2 dX15_blocksFor_9
set_option maxHeartbeats 4000000 in
set_option maxRecDepth 100000 in
theorem r_isDown_sync (l : Launch) (dC : Nat → ClassId) (dI : Nat → Nat → Nat) (sz : Nat) (q : Nat) (fs : List Value) (L_fs : fs.length = 163) (K54_fs : fs[54]? = some (.int 0)) (K156_fs : fs[156]? = some (.int 0)) (K160_fs : fs[160]? = some (.int 0)) : Met l yX15_isDown (Cond.code yX15_isDown cX15_isDown 1 (some .boolean) :: tb) ({ frames := 0, cells := 0, slots := 0, locals := 0 }) (pcw [.ref q] (dC, dI) [(q, .inr (15, fs))] [] sz) (va_Qi (fun (r : Int32) => (fun (fs1 : List Value) => (r = 0) ∧ (fs1.length = 163) ∧ (fs1[51]? = some (.int 0)) ∧ (fs1[54]? = some (.int 0)) ∧ (fs1[156]? = some (.int 0)) ∧ (fs1[160]? = some (.int 0)))) (bw (dC, dI) (va_A [(q, .inr (15, fs))] sz) (fun (fs1 : List Value) => [(q, .inr (15, fs1))]) (fun (fs1 : List Value) => [])) (va_A [(q, .inr (15, fs))] sz)) 0 0 (va_A [(q, .inr (15, fs))] sz) := by
  refine Met.ofW (cc := cX15_isDown) (maxL := 1) (ret := (some .boolean)) (by decide) rfl ?_
  intro p e s m args below meth c s₁ B hml hv
  obtain ⟨rfl, hsz, hP, hK, hD0⟩ := hv
  have hx := B.exec
  have hb := B.bytes
  have hr := B.returns
  have hts := atoms_spec (ws := Cond.code yX15_isDown cX15_isDown 1 (some .boolean) :: tb) B.pre
  have ht : ∀ w ∈ tb, w.before _ s = true := fun w h => hts w (List.mem_cons_of_mem _ h)
  have hown : s.vm.findClass RX15 = some m.cls := findClass_of_methodNamed B.named
  have hlocks := B.notSynchronized
  subst hsz
  have hD := hD0.self (sz := s.heap.size)
  generalize hAe : va_A [(q, .inr (15, fs))] s.heap.size = A at hD ⊢
  have hA : ∀ q : Nat, s.heap.size ≤ q → A q := fun q h => by rw [← hAe]; exact Or.inr h
  have hS : va_S A s.heap s.heap [] := va_S.rf
  have hl := lv_entry ([.ref q]) (n := 1) (Nat.le_of_ble_eq_true rfl)
  rw [lg_entry_eq]
  generalize (lg_sl ([.ref q]) ++ List.replicate (1 - (lg_sl ([.ref q])).length) Slot.unset).toArray = ls at hl ⊢
  have hl : lv_has ls 1 [(0, .ref q)] := hl
  have hP : va_P (dC, dI) cls [(q, .inr (15, fs))] s.heap := hP
  refine lv_aload_n hx hb dX15_isDown_0 rfl (lv_at hl 0 rfl) ?_
  refine lv_iconst (v := 0) hx hb dX15_isDown_1 (by decide) ?_
  refine va_put (D := (dC, dI)) (ci := 15) (v := .int 0) (ty := .int) (C := RX15) (T := TX15) (N := 163) hx hb ht uX15 tyX15 tkX15 nmX15 hown hK hP hD hS 0 rfl rfl 51 (by decide) (ht _ k_10_239) (fun _ h9 => h9) rfl (by decide +kernel) rfl rfl (by rw [L_fs]; decide) dX15_isDown_2 (fun H locs hP hD hS => ?_)
  obtain ⟨F_1, eF_1⟩ : ∃ g : List Value, g = fs.set 51 (.int 0) := ⟨_, rfl⟩
  rw [← eF_1] at hP hD
  have K54_F_1 : F_1[54]? = some (.int 0) := by rw [eF_1, List.getElem?_set_ne (by decide)]; exact K54_fs
  have K156_F_1 : F_1[156]? = some (.int 0) := by rw [eF_1, List.getElem?_set_ne (by decide)]; exact K156_fs
  have K160_F_1 : F_1[160]? = some (.int 0) := by rw [eF_1, List.getElem?_set_ne (by decide)]; exact K160_fs
  have K51_F_1 : F_1[51]? = some (.int 0) := by rw [eF_1]; exact List.getElem?_set_self (by rw [L_fs]; decide)
  have L_F_1 : F_1.length = 163 := by rw [eF_1, List.length_set]; exact L_fs
  have hP : va_P (dC, dI) cls [(q, .inr (15, F_1))] H := hP
  have hD : va_D A [(q, .inr (15, F_1))] := hD
  refine lv_aload_n hx hb dX15_isDown_5 rfl (lv_at hl 0 rfl) ?_
  refine va_get (D := (dC, dI)) (ci := 15) (v := .int 0) (C := RX15) (T := TX15) (N := 163) hx hb ht uX15 hown hK hP 0 rfl rfl 54 (by decide) (ht _ k_11_2) (fun _ h9 => h9) K54_F_1 dX15_isDown_6 ?_
  exact W.zret (v := 0) hx hb hr rfl (fun t ht9 hW => ⟨⟨0, (F_1), rfl, ⟨rfl, L_F_1, K51_F_1, K54_F_1, K156_F_1, K160_F_1⟩, by rw [ht9]; exact hP.sub [0] rfl, va_K.moved hW.alike (hK.sub [] rfl), hD.sub [0] (by decide) rfl⟩, hS.F ht9⟩) hS.2.2 dX15_isDown_9
set_option maxHeartbeats 4000000 in
set_option maxRecDepth 100000 in
theorem r_sync (l : Launch) (dC : Nat → ClassId) (dI : Nat → Nat → Nat) (sz : Nat) (q : Nat) (fs : List Value) (L_fs : fs.length = 163) (K54_fs : fs[54]? = some (.int 0)) (K156_fs : fs[156]? = some (.int 0)) (K160_fs : fs[160]? = some (.int 0)) : Met l yX15_sync (Cond.code yX15_sync cX15_sync 6 (some .int) :: tb) ({ frames := 1, cells := 0, slots := 0, locals := 20 }) (pcw [.ref q] (dC, dI) [(q, .inr (15, fs))] [] sz) (va_Qi (fun (r : Int32) => (fun (_ : Unit) => r = 0)) (bw (dC, dI) (va_A [(q, .inr (15, fs))] sz) (fun (_ : Unit) => []) (fun (_ : Unit) => [])) (va_A [(q, .inr (15, fs))] sz)) 0 0 (va_A [(q, .inr (15, fs))] sz) := by
  refine Met.ofW (cc := cX15_sync) (maxL := 6) (ret := (some .int)) (by decide) rfl ?_
  intro p e s m args below meth c s₁ B hml hv
  obtain ⟨rfl, hsz, hP, hK, hD0⟩ := hv
  have hx := B.exec
  have hb := B.bytes
  have hr := B.returns
  have hts := atoms_spec (ws := Cond.code yX15_sync cX15_sync 6 (some .int) :: tb) B.pre
  have ht : ∀ w ∈ tb, w.before _ s = true := fun w h => hts w (List.mem_cons_of_mem _ h)
  have hown : s.vm.findClass RX15 = some m.cls := findClass_of_methodNamed B.named
  have hlocks := B.notSynchronized
  subst hsz
  have hD := hD0.self (sz := s.heap.size)
  generalize hAe : va_A [(q, .inr (15, fs))] s.heap.size = A at hD ⊢
  have hA : ∀ q : Nat, s.heap.size ≤ q → A q := fun q h => by rw [← hAe]; exact Or.inr h
  have hS : va_S A s.heap s.heap [] := va_S.rf
  have hl := lv_entry ([.ref q]) (n := 6) (Nat.le_of_ble_eq_true rfl)
  rw [lg_entry_eq]
  generalize (lg_sl ([.ref q]) ++ List.replicate (6 - (lg_sl ([.ref q])).length) Slot.unset).toArray = ls at hl ⊢
  have hl : lv_has ls 6 [(0, .ref q)] := hl
  have hP : va_P (dC, dI) cls [(q, .inr (15, fs))] s.heap := hP
  refine lv_aload_n hx hb dX15_sync_0 rfl (lv_at hl 0 rfl) ?_
  refine ca_i (wr := []) (va_runV (As := []) (rest := []) ⟨hx, hb, hml, hown, ht⟩ (r_isDown_sync l dC dI s.heap.size q fs L_fs K54_fs K156_fs K160_fs ) (cwV 0 ht (gdV k_12_228 k_12_225 k_12_227 ks_112 k_1_17) rfl rfl rfl (by decide +kernel) ⟨Nat.le_of_ble_eq_true rfl, Nat.le_of_ble_eq_true rfl⟩) ⟨pcw_blind, va_recv hK hP (ci := 15) (q0 := 0) rfl rfl, pcw_at hP hD hK [0] [] (by decide) rfl rfl rfl⟩ rfl rfl hl.1 rfl (lv_room (Nat.le_of_ble_eq_true rfl)) dX15_sync_1 ⟨Nat.le_of_ble_eq_true rfl, Nat.le_of_ble_eq_true rfl⟩) hP hD hK hS hA [0] [] rfl rfl (by decide) (by decide) (fun r_1 u H locs w_2 hK hP hD hS => ?_)
  obtain ⟨F_3, rfl⟩ : ∃ z, z = u := ⟨_, rfl⟩
  have hK : va_K (dC, dI) cls [] s := hK
  have hP : va_P (dC, dI) cls [(q, .inr (15, F_3))] H := hP
  have hD : va_D A [(q, .inr (15, F_3))] := hD
  obtain ⟨w_2, K_4, K_5, K_6, K_7, K_8⟩ := w_2
  obtain rfl : r_1 = 0 := w_2
  refine lv_if_eq (tgt := 10) hx hb dX15_sync_4 (by decide) (fun _ => ?_) (fun c0 => absurd c0 (by decide))
  refine lv_aload_n hx hb dX15_sync_10 rfl (lv_at hl 0 rfl) ?_
  refine va_get (D := (dC, dI)) (ci := 15) (v := .int 0) (C := RX15) (T := TX15) (N := 163) hx hb ht uX15 hown hK hP 0 rfl rfl 156 (by decide) (ht _ k_11_104) (fun _ h9 => h9) K_7 dX15_sync_11 ?_
  refine ca_i (wr := [(q, .inr (15, F_3))]) (va_runS (As := [.int 0]) (rest := []) ⟨hx, hb, hml, hown, ht⟩ (r_blocksFor_0 l dC dI H.size   ) (cwS 1 ht (gdS k_13_194 k_13_192 k_13_193 k_1_17) rfl rfl rfl (by decide +kernel) ⟨Nat.le_of_ble_eq_true rfl, Nat.le_of_ble_eq_true rfl⟩) ⟨pcw_blind, pcw_at hP hD hK [] [] (by decide) rfl rfl rfl⟩ rfl rfl hl.1 rfl (lv_room (Nat.le_of_ble_eq_true rfl)) dX15_sync_14 ⟨Nat.le_of_ble_eq_true rfl, Nat.le_of_ble_eq_true rfl⟩) hP hD hK hS hA [] [0] rfl rfl (by decide) (by decide) (fun r_9 u H locs w_10 hK hP hD hS => ?_)
  have hK : va_K (dC, dI) cls [] s := hK
  have hP : va_P (dC, dI) cls [(q, .inr (15, F_3))] H := hP
  have hD : va_D A [(q, .inr (15, F_3))] := hD
  obtain rfl : r_9 = 0 := w_10
  refine lv_istore_n (lv' := [(1, .int 0), (0, .ref q)]) hx hb dX15_sync_17 rfl hl (by decide) rfl (fun ls hl => ?_)
  refine lv_iconst (v := 0) hx hb dX15_sync_18 (by decide) ?_
  refine lv_istore_n (lv' := [(2, .int 0), (1, .int 0), (0, .ref q)]) hx hb dX15_sync_19 rfl hl (by decide) rfl (fun ls hl => ?_)
  refine lv_iload_n hx hb dX15_sync_20 rfl (lv_at hl 0 rfl) ?_
  refine lv_iload_n hx hb dX15_sync_21 rfl (lv_at hl 1 rfl) ?_
  refine lv_icmp_ge (tgt := 308) hx hb dX15_sync_22 (by decide) (fun _ => ?_) (fun c0 => absurd c0 (by decide))
  refine lv_aload_n hx hb dX15_sync_308 rfl (lv_at hl 2 rfl) ?_
  refine lv_iconst (v := 0) hx hb dX15_sync_309 (by decide) ?_
  refine va_put (D := (dC, dI)) (ci := 15) (v := .int 0) (ty := .int) (C := RX15) (T := TX15) (N := 163) hx hb ht uX15 tyX15 tkX15 nmX15 hown hK hP hD hS 0 rfl rfl 154 (by decide) (ht _ k_11_102) (fun _ h9 => h9) rfl (by decide +kernel) rfl rfl (by rw [K_4]; decide) dX15_sync_310 (fun H locs hP hD hS => ?_)
  obtain ⟨F_11, eF_11⟩ : ∃ g : List Value, g = F_3.set 154 (.int 0) := ⟨_, rfl⟩
  rw [← eF_11] at hP hD
  have K51_F_11 : F_11[51]? = some (.int 0) := by rw [eF_11, List.getElem?_set_ne (by decide)]; exact K_5
  have K54_F_11 : F_11[54]? = some (.int 0) := by rw [eF_11, List.getElem?_set_ne (by decide)]; exact K_6
  have K156_F_11 : F_11[156]? = some (.int 0) := by rw [eF_11, List.getElem?_set_ne (by decide)]; exact K_7
  have K160_F_11 : F_11[160]? = some (.int 0) := by rw [eF_11, List.getElem?_set_ne (by decide)]; exact K_8
  have K154_F_11 : F_11[154]? = some (.int 0) := by rw [eF_11]; exact List.getElem?_set_self (by rw [K_4]; decide)
  have L_F_11 : F_11.length = 163 := by rw [eF_11, List.length_set]; exact K_4
  have hP : va_P (dC, dI) cls [(q, .inr (15, F_11))] H := hP
  have hD : va_D A [(q, .inr (15, F_11))] := hD
  refine lv_aload_n hx hb dX15_sync_313 rfl (lv_at hl 2 rfl) ?_
  refine lv_iconst (v := 0) hx hb dX15_sync_314 (by decide) ?_
  refine va_put (D := (dC, dI)) (ci := 15) (v := .int 0) (ty := .int) (C := RX15) (T := TX15) (N := 163) hx hb ht uX15 tyX15 tkX15 nmX15 hown hK hP hD hS 0 rfl rfl 156 (by decide) (ht _ k_11_104) (fun _ h9 => h9) rfl (by decide +kernel) rfl rfl (by rw [L_F_11]; decide) dX15_sync_315 (fun H locs hP hD hS => ?_)
  obtain ⟨F_12, eF_12⟩ : ∃ g : List Value, g = F_11.set 156 (.int 0) := ⟨_, rfl⟩
  rw [← eF_12] at hP hD
  have K51_F_12 : F_12[51]? = some (.int 0) := by rw [eF_12, List.getElem?_set_ne (by decide)]; exact K51_F_11
  have K54_F_12 : F_12[54]? = some (.int 0) := by rw [eF_12, List.getElem?_set_ne (by decide)]; exact K54_F_11
  have K154_F_12 : F_12[154]? = some (.int 0) := by rw [eF_12, List.getElem?_set_ne (by decide)]; exact K154_F_11
  have K160_F_12 : F_12[160]? = some (.int 0) := by rw [eF_12, List.getElem?_set_ne (by decide)]; exact K160_F_11
  have K156_F_12 : F_12[156]? = some (.int 0) := by rw [eF_12]; exact List.getElem?_set_self (by rw [L_F_11]; decide)
  have L_F_12 : F_12.length = 163 := by rw [eF_12, List.length_set]; exact L_F_11
  have hP : va_P (dC, dI) cls [(q, .inr (15, F_12))] H := hP
  have hD : va_D A [(q, .inr (15, F_12))] := hD
  refine lv_aload_n hx hb dX15_sync_318 rfl (lv_at hl 2 rfl) ?_
  refine lv_dup hx hb dX15_sync_319 rfl ?_
  refine va_get (D := (dC, dI)) (ci := 15) (v := .int 0) (C := RX15) (T := TX15) (N := 163) hx hb ht uX15 hown hK hP 0 rfl rfl 160 (by decide) (ht _ k_11_108) (fun _ h9 => h9) K160_F_12 dX15_sync_320 ?_
  refine lv_iload_n hx hb dX15_sync_323 rfl (lv_at hl 1 rfl) ?_
  refine lv_iadd hx hb dX15_sync_324 ?_
  refine tk_i (y := 0) (by decide) ?_
  refine va_put (D := (dC, dI)) (ci := 15) (v := .int 0) (ty := .int) (C := RX15) (T := TX15) (N := 163) hx hb ht uX15 tyX15 tkX15 nmX15 hown hK hP hD hS 0 rfl rfl 160 (by decide) (ht _ k_11_108) (fun _ h9 => h9) rfl (by decide +kernel) rfl rfl (by rw [L_F_12]; decide) dX15_sync_325 (fun H locs hP hD hS => ?_)
  obtain ⟨F_13, eF_13⟩ : ∃ g : List Value, g = F_12.set 160 (.int 0) := ⟨_, rfl⟩
  rw [← eF_13] at hP hD
  have K51_F_13 : F_13[51]? = some (.int 0) := by rw [eF_13, List.getElem?_set_ne (by decide)]; exact K51_F_12
  have K54_F_13 : F_13[54]? = some (.int 0) := by rw [eF_13, List.getElem?_set_ne (by decide)]; exact K54_F_12
  have K154_F_13 : F_13[154]? = some (.int 0) := by rw [eF_13, List.getElem?_set_ne (by decide)]; exact K154_F_12
  have K156_F_13 : F_13[156]? = some (.int 0) := by rw [eF_13, List.getElem?_set_ne (by decide)]; exact K156_F_12
  have K160_F_13 : F_13[160]? = some (.int 0) := by rw [eF_13]; exact List.getElem?_set_self (by rw [L_F_12]; decide)
  have L_F_13 : F_13.length = 163 := by rw [eF_13, List.length_set]; exact L_F_12
  have hP : va_P (dC, dI) cls [(q, .inr (15, F_13))] H := hP
  have hD : va_D A [(q, .inr (15, F_13))] := hD
  refine lv_iload_n hx hb dX15_sync_328 rfl (lv_at hl 1 rfl) ?_
  exact W.iret (v := 0) hx hb hr (fun t ht9 hW => ⟨⟨0, (), rfl, rfl, by rw [ht9]; exact hP.sub [] rfl, va_K.moved hW.alike (hK.sub [] rfl), hD.sub [] (by decide) rfl⟩, hS.F ht9⟩) hS.2.2 dX15_sync_329
set_option maxHeartbeats 4000000 in
set_option maxRecDepth 100000 in
theorem r_end_ok (l : Launch) (dC : Nat → ClassId) (dI : Nat → Nat → Nat) (sz : Nat) (q : Nat) (fs : List Value) (L_fs : fs.length = 163) (K53_fs : fs[53]? = some (.int 0)) : Met l yX15_end (Cond.code yX15_end cX15_end 2 none :: tb) ({ frames := 1, cells := 0, slots := 0, locals := 25 }) (pcw [.ref q, .int 0] (dC, dI) [(q, .inr (15, fs))] [] sz) (va_Qv (fun (fs1 : List Value) => (True) ∧ (fs1.length = 163) ∧ (fs1[51]? = some (.int 0))) (bw (dC, dI) (va_A [(q, .inr (15, fs))] sz) (fun (fs1 : List Value) => [(q, .inr (15, fs1))]) (fun (fs1 : List Value) => [])) (va_A [(q, .inr (15, fs))] sz)) 0 0 (va_A [(q, .inr (15, fs))] sz) := by
  refine Met.ofW (cc := cX15_end) (maxL := 2) (ret := none) (by decide) rfl ?_
  intro p e s m args below meth c s₁ B hml hv
  obtain ⟨rfl, hsz, hP, hK, hD0⟩ := hv
  have hx := B.exec
  have hb := B.bytes
  have hr := B.returns
  have hts := atoms_spec (ws := Cond.code yX15_end cX15_end 2 none :: tb) B.pre
  have ht : ∀ w ∈ tb, w.before _ s = true := fun w h => hts w (List.mem_cons_of_mem _ h)
  have hown : s.vm.findClass RX15 = some m.cls := findClass_of_methodNamed B.named
  have hlocks := B.notSynchronized
  subst hsz
  have hD := hD0.self (sz := s.heap.size)
  generalize hAe : va_A [(q, .inr (15, fs))] s.heap.size = A at hD ⊢
  have hA : ∀ q : Nat, s.heap.size ≤ q → A q := fun q h => by rw [← hAe]; exact Or.inr h
  have hS : va_S A s.heap s.heap [] := va_S.rf
  have hl := lv_entry ([.ref q, .int 0]) (n := 2) (Nat.le_of_ble_eq_true rfl)
  rw [lg_entry_eq]
  generalize (lg_sl ([.ref q, .int 0]) ++ List.replicate (2 - (lg_sl ([.ref q, .int 0])).length) Slot.unset).toArray = ls at hl ⊢
  have hl : lv_has ls 2 [(0, .ref q), (1, .int 0)] := hl
  have hP : va_P (dC, dI) cls [(q, .inr (15, fs))] s.heap := hP
  refine lv_aload_n hx hb dX15_end_0 rfl (lv_at hl 0 rfl) ?_
  refine lv_iload_n hx hb dX15_end_1 rfl (lv_at hl 1 rfl) ?_
  refine lv_i2l (v := 0) hx hb dX15_end_2 (by decide) ?_
  refine lv_lconst (v := 0) hx hb dX15_end_3 (by decide) ?_
  refine lv_aload_n hx hb dX15_end_4 rfl (lv_at hl 0 rfl) ?_
  refine va_get (D := (dC, dI)) (ci := 15) (v := .int 0) (C := RX15) (T := TX15) (N := 163) hx hb ht uX15 hown hK hP 0 rfl rfl 53 (by decide) (ht _ k_11_1) (fun _ h9 => h9) K53_fs dX15_end_5 ?_
  refine lv_i2l (v := 0) hx hb dX15_end_8 (by decide) ?_
  refine ca_i (wr := [(q, .inr (15, fs))]) (va_runS (As := [.long 0, .long 0, .long 0]) (rest := [.ref q]) ⟨hx, hb, hml, hown, ht⟩ (r_in l dC dI s.heap.size 0 0 0  ) (cwS 3 ht (gdS k_12_216 k_12_214 k_12_215 k_1_17) rfl rfl rfl (by decide +kernel) ⟨Nat.le_of_ble_eq_true rfl, Nat.le_of_ble_eq_true rfl⟩) ⟨pcw_blind, pcw_at hP hD hK [] [] (by decide) rfl rfl rfl⟩ rfl rfl hl.1 rfl (lv_room (Nat.le_of_ble_eq_true rfl)) dX15_end_9 ⟨Nat.le_of_ble_eq_true rfl, Nat.le_of_ble_eq_true rfl⟩) hP hD hK hS hA [] [0] rfl rfl (by decide) (by decide) (fun r_1 u H locs w_2 hK hP hD hS => ?_)
  have hK : va_K (dC, dI) cls [] s := hK
  have hP : va_P (dC, dI) cls [(q, .inr (15, fs))] H := hP
  have hD : va_D A [(q, .inr (15, fs))] := hD
  rcases w_2 with ⟨rfl, n_3⟩ | ⟨rfl, n_3⟩
  rotate_left
  · exact absurd n_3 (by decide)
  refine lv_if_eq (tgt := 19) hx hb dX15_end_12 (by decide) (fun c0 => absurd c0 (by decide)) (fun _ => ?_)
  refine lv_iconst (v := 0) hx hb dX15_end_15 (by decide) ?_
  refine lv_goto (tgt := 20) hx hb dX15_end_16 (by decide) ?_
  refine va_put (D := (dC, dI)) (ci := 15) (v := .int 0) (ty := .int) (C := RX15) (T := TX15) (N := 163) hx hb ht uX15 tyX15 tkX15 nmX15 hown hK hP hD hS 0 rfl rfl 51 (by decide) (ht _ k_10_239) (fun _ h9 => h9) rfl (by decide +kernel) rfl rfl (by rw [L_fs]; decide) dX15_end_20 (fun H locs hP hD hS => ?_)
  obtain ⟨F_4, eF_4⟩ : ∃ g : List Value, g = fs.set 51 (.int 0) := ⟨_, rfl⟩
  rw [← eF_4] at hP hD
  have K53_F_4 : F_4[53]? = some (.int 0) := by rw [eF_4, List.getElem?_set_ne (by decide)]; exact K53_fs
  have K51_F_4 : F_4[51]? = some (.int 0) := by rw [eF_4]; exact List.getElem?_set_self (by rw [L_fs]; decide)
  have L_F_4 : F_4.length = 163 := by rw [eF_4, List.length_set]; exact L_fs
  have hP : va_P (dC, dI) cls [(q, .inr (15, F_4))] H := hP
  have hD : va_D A [(q, .inr (15, F_4))] := hD
  refine lv_aload_n hx hb dX15_end_23 rfl (lv_at hl 0 rfl) ?_
  refine va_get (D := (dC, dI)) (ci := 15) (v := .int 0) (C := RX15) (T := TX15) (N := 163) hx hb ht uX15 hown hK hP 0 rfl rfl 51 (by decide) (ht _ k_10_239) (fun _ h9 => h9) K51_F_4 dX15_end_24 ?_
  refine lv_if_ne (tgt := 35) hx hb dX15_end_27 (by decide) (fun c0 => absurd c0 (by decide)) (fun _ => ?_)
  refine lv_aload_n hx hb dX15_end_30 rfl (lv_at hl 0 rfl) ?_
  refine lv_iload_n hx hb dX15_end_31 rfl (lv_at hl 1 rfl) ?_
  refine va_put (D := (dC, dI)) (ci := 15) (v := .int 0) (ty := .int) (C := RX15) (T := TX15) (N := 163) hx hb ht uX15 tyX15 tkX15 nmX15 hown hK hP hD hS 0 rfl rfl 53 (by decide) (ht _ k_11_1) (fun _ h9 => h9) rfl (by decide +kernel) rfl rfl (by rw [L_F_4]; decide) dX15_end_32 (fun H locs hP hD hS => ?_)
  obtain ⟨F_5, eF_5⟩ : ∃ g : List Value, g = F_4.set 53 (.int 0) := ⟨_, rfl⟩
  rw [← eF_5] at hP hD
  have K51_F_5 : F_5[51]? = some (.int 0) := by rw [eF_5, List.getElem?_set_ne (by decide)]; exact K51_F_4
  have K53_F_5 : F_5[53]? = some (.int 0) := by rw [eF_5]; exact List.getElem?_set_self (by rw [L_F_4]; decide)
  have L_F_5 : F_5.length = 163 := by rw [eF_5, List.length_set]; exact L_F_4
  have hP : va_P (dC, dI) cls [(q, .inr (15, F_5))] H := hP
  have hD : va_D A [(q, .inr (15, F_5))] := hD
  exact W.vret hx hb hr (fun t ht9 hW => ⟨⟨(F_5), rfl, ⟨trivial, L_F_5, K51_F_5⟩, by rw [ht9]; exact hP.sub [0] rfl, va_K.moved hW.alike (hK.sub [] rfl), hD.sub [0] (by decide) rfl⟩, hS.F ht9⟩) hS.2.2 dX15_end_35
set_option maxHeartbeats 4000000 in
set_option maxRecDepth 100000 in
theorem r_end_no (l : Launch) (dC : Nat → ClassId) (dI : Nat → Nat → Nat) (sz : Nat) (q : Nat) (fs : List Value) (p0 : Int32) (L_fs : fs.length = 163) (K53_fs : fs[53]? = some (.int 0)) (hp : ¬ p0 = 0) : Met l yX15_end (Cond.code yX15_end cX15_end 2 none :: tb) ({ frames := 1, cells := 0, slots := 0, locals := 25 }) (pcw [.ref q, .int p0] (dC, dI) [(q, .inr (15, fs))] [] sz) (va_Qv (fun (fs1 : List Value) => (True) ∧ (fs1.length = 163) ∧ (fs1[51]? = some (.int 1))) (bw (dC, dI) (va_A [(q, .inr (15, fs))] sz) (fun (fs1 : List Value) => [(q, .inr (15, fs1))]) (fun (fs1 : List Value) => [])) (va_A [(q, .inr (15, fs))] sz)) 0 0 (va_A [(q, .inr (15, fs))] sz) := by
  refine Met.ofW (cc := cX15_end) (maxL := 2) (ret := none) (by decide) rfl ?_
  intro p e s m args below meth c s₁ B hml hv
  obtain ⟨rfl, hsz, hP, hK, hD0⟩ := hv
  have hx := B.exec
  have hb := B.bytes
  have hr := B.returns
  have hts := atoms_spec (ws := Cond.code yX15_end cX15_end 2 none :: tb) B.pre
  have ht : ∀ w ∈ tb, w.before _ s = true := fun w h => hts w (List.mem_cons_of_mem _ h)
  have hown : s.vm.findClass RX15 = some m.cls := findClass_of_methodNamed B.named
  have hlocks := B.notSynchronized
  subst hsz
  have hD := hD0.self (sz := s.heap.size)
  generalize hAe : va_A [(q, .inr (15, fs))] s.heap.size = A at hD ⊢
  have hA : ∀ q : Nat, s.heap.size ≤ q → A q := fun q h => by rw [← hAe]; exact Or.inr h
  have hS : va_S A s.heap s.heap [] := va_S.rf
  have hl := lv_entry ([.ref q, .int p0]) (n := 2) (Nat.le_of_ble_eq_true rfl)
  rw [lg_entry_eq]
  generalize (lg_sl ([.ref q, .int p0]) ++ List.replicate (2 - (lg_sl ([.ref q, .int p0])).length) Slot.unset).toArray = ls at hl ⊢
  have hl : lv_has ls 2 [(0, .ref q), (1, .int p0)] := hl
  have hP : va_P (dC, dI) cls [(q, .inr (15, fs))] s.heap := hP
  refine lv_aload_n hx hb dX15_end_0 rfl (lv_at hl 0 rfl) ?_
  refine lv_iload_n hx hb dX15_end_1 rfl (lv_at hl 1 rfl) ?_
  refine lv_i2l hx hb dX15_end_2 rfl ?_
  refine lv_topl (fun x_1 ex_1 => ?_)
  refine lv_lconst (v := 0) hx hb dX15_end_3 (by decide) ?_
  refine lv_aload_n hx hb dX15_end_4 rfl (lv_at hl 0 rfl) ?_
  refine va_get (D := (dC, dI)) (ci := 15) (v := .int 0) (C := RX15) (T := TX15) (N := 163) hx hb ht uX15 hown hK hP 0 rfl rfl 53 (by decide) (ht _ k_11_1) (fun _ h9 => h9) K53_fs dX15_end_5 ?_
  refine lv_i2l (v := 0) hx hb dX15_end_8 (by decide) ?_
  refine ca_i (wr := [(q, .inr (15, fs))]) (va_runS (As := [.long x_1, .long 0, .long 0]) (rest := [.ref q]) ⟨hx, hb, hml, hown, ht⟩ (r_in l dC dI s.heap.size x_1 0 0  ) (cwS 3 ht (gdS k_12_216 k_12_214 k_12_215 k_1_17) rfl rfl rfl (by decide +kernel) ⟨Nat.le_of_ble_eq_true rfl, Nat.le_of_ble_eq_true rfl⟩) ⟨pcw_blind, pcw_at hP hD hK [] [] (by decide) rfl rfl rfl⟩ rfl rfl hl.1 rfl (lv_room (Nat.le_of_ble_eq_true rfl)) dX15_end_9 ⟨Nat.le_of_ble_eq_true rfl, Nat.le_of_ble_eq_true rfl⟩) hP hD hK hS hA [] [0] rfl rfl (by decide) (by decide) (fun r_2 u H locs w_3 hK hP hD hS => ?_)
  have hK : va_K (dC, dI) cls [] s := hK
  have hP : va_P (dC, dI) cls [(q, .inr (15, fs))] H := hP
  have hD : va_D A [(q, .inr (15, fs))] := hD
  rcases w_3 with ⟨rfl, n_4⟩ | ⟨rfl, n_4⟩
  · obtain ⟨n_4a, n_4b⟩ := in_yes (p := p0) (lo := 0) (hi := 0) ex_1 (by decide) (by decide) n_4
    exact absurd n_4b (end_no hp n_4a)
  · rcases in_no (p := p0) (lo := 0) (hi := 0) ex_1 (by decide) (by decide) n_4 with n_4c | n_4c
    · refine lv_if_eq (tgt := 19) hx hb dX15_end_12 (by decide) (fun _ => ?_) (fun c0 => absurd c0 (by decide))
      refine lv_iconst (v := 1) hx hb dX15_end_19 (by decide) ?_
      refine va_put (D := (dC, dI)) (ci := 15) (v := .int 1) (ty := .int) (C := RX15) (T := TX15) (N := 163) hx hb ht uX15 tyX15 tkX15 nmX15 hown hK hP hD hS 0 rfl rfl 51 (by decide) (ht _ k_10_239) (fun _ h9 => h9) rfl (by decide +kernel) rfl rfl (by rw [L_fs]; decide) dX15_end_20 (fun H locs hP hD hS => ?_)
      obtain ⟨F_5, eF_5⟩ : ∃ g : List Value, g = fs.set 51 (.int 1) := ⟨_, rfl⟩
      rw [← eF_5] at hP hD
      have K53_F_5 : F_5[53]? = some (.int 0) := by rw [eF_5, List.getElem?_set_ne (by decide)]; exact K53_fs
      have K51_F_5 : F_5[51]? = some (.int 1) := by rw [eF_5]; exact List.getElem?_set_self (by rw [L_fs]; decide)
      have L_F_5 : F_5.length = 163 := by rw [eF_5, List.length_set]; exact L_fs
      have hP : va_P (dC, dI) cls [(q, .inr (15, F_5))] H := hP
      have hD : va_D A [(q, .inr (15, F_5))] := hD
      refine lv_aload_n hx hb dX15_end_23 rfl (lv_at hl 0 rfl) ?_
      refine va_get (D := (dC, dI)) (ci := 15) (v := .int 1) (C := RX15) (T := TX15) (N := 163) hx hb ht uX15 hown hK hP 0 rfl rfl 51 (by decide) (ht _ k_10_239) (fun _ h9 => h9) K51_F_5 dX15_end_24 ?_
      refine lv_if_ne (tgt := 35) hx hb dX15_end_27 (by decide) (fun _ => ?_) (fun c0 => absurd c0 (by decide))
      exact W.vret hx hb hr (fun t ht9 hW => ⟨⟨(F_5), rfl, ⟨trivial, L_F_5, K51_F_5⟩, by rw [ht9]; exact hP.sub [0] rfl, va_K.moved hW.alike (hK.sub [] rfl), hD.sub [0] (by decide) rfl⟩, hS.F ht9⟩) hS.2.2 dX15_end_35
    · refine lv_if_eq (tgt := 19) hx hb dX15_end_12 (by decide) (fun _ => ?_) (fun c0 => absurd c0 (by decide))
      refine lv_iconst (v := 1) hx hb dX15_end_19 (by decide) ?_
      refine va_put (D := (dC, dI)) (ci := 15) (v := .int 1) (ty := .int) (C := RX15) (T := TX15) (N := 163) hx hb ht uX15 tyX15 tkX15 nmX15 hown hK hP hD hS 0 rfl rfl 51 (by decide) (ht _ k_10_239) (fun _ h9 => h9) rfl (by decide +kernel) rfl rfl (by rw [L_fs]; decide) dX15_end_20 (fun H locs hP hD hS => ?_)
      obtain ⟨F_6, eF_6⟩ : ∃ g : List Value, g = fs.set 51 (.int 1) := ⟨_, rfl⟩
      rw [← eF_6] at hP hD
      have K53_F_6 : F_6[53]? = some (.int 0) := by rw [eF_6, List.getElem?_set_ne (by decide)]; exact K53_fs
      have K51_F_6 : F_6[51]? = some (.int 1) := by rw [eF_6]; exact List.getElem?_set_self (by rw [L_fs]; decide)
      have L_F_6 : F_6.length = 163 := by rw [eF_6, List.length_set]; exact L_fs
      have hP : va_P (dC, dI) cls [(q, .inr (15, F_6))] H := hP
      have hD : va_D A [(q, .inr (15, F_6))] := hD
      refine lv_aload_n hx hb dX15_end_23 rfl (lv_at hl 0 rfl) ?_
      refine va_get (D := (dC, dI)) (ci := 15) (v := .int 1) (C := RX15) (T := TX15) (N := 163) hx hb ht uX15 hown hK hP 0 rfl rfl 51 (by decide) (ht _ k_10_239) (fun _ h9 => h9) K51_F_6 dX15_end_24 ?_
      refine lv_if_ne (tgt := 35) hx hb dX15_end_27 (by decide) (fun _ => ?_) (fun c0 => absurd c0 (by decide))
      exact W.vret hx hb hr (fun t ht9 hW => ⟨⟨(F_6), rfl, ⟨trivial, L_F_6, K51_F_6⟩, by rw [ht9]; exact hP.sub [0] rfl, va_K.moved hW.alike (hK.sub [] rfl), hD.sub [0] (by decide) rfl⟩, hS.F ht9⟩) hS.2.2 dX15_end_35
set_option maxHeartbeats 4000000 in
set_option maxRecDepth 100000 in
theorem r_thrown_0 (l : Launch) (dC : Nat → ClassId) (dI : Nat → Nat → Nat) (sz : Nat) (q : Nat) (fs : List Value) (L_fs : fs.length = 163) (K51_fs : fs[51]? = some (.int 0)) : Met l yX15_thrown (Cond.code yX15_thrown cX15_thrown 1 (some .int) :: tb) ({ frames := 0, cells := 0, slots := 0, locals := 0 }) (pcw [.ref q] (dC, dI) [(q, .inr (15, fs))] [] sz) (va_Qi (fun (r : Int32) => (fun (_ : Unit) => r = 0)) (bw (dC, dI) (va_A [(q, .inr (15, fs))] sz) (fun (_ : Unit) => []) (fun (_ : Unit) => [])) (va_A [(q, .inr (15, fs))] sz)) 0 0 (va_A [(q, .inr (15, fs))] sz) := by
  refine Met.ofW (cc := cX15_thrown) (maxL := 1) (ret := (some .int)) (by decide) rfl ?_
  intro p e s m args below meth c s₁ B hml hv
  obtain ⟨rfl, hsz, hP, hK, hD0⟩ := hv
  have hx := B.exec
  have hb := B.bytes
  have hr := B.returns
  have hts := atoms_spec (ws := Cond.code yX15_thrown cX15_thrown 1 (some .int) :: tb) B.pre
  have ht : ∀ w ∈ tb, w.before _ s = true := fun w h => hts w (List.mem_cons_of_mem _ h)
  have hown : s.vm.findClass RX15 = some m.cls := findClass_of_methodNamed B.named
  have hlocks := B.notSynchronized
  subst hsz
  have hD := hD0.self (sz := s.heap.size)
  generalize hAe : va_A [(q, .inr (15, fs))] s.heap.size = A at hD ⊢
  have hA : ∀ q : Nat, s.heap.size ≤ q → A q := fun q h => by rw [← hAe]; exact Or.inr h
  have hS : va_S A s.heap s.heap [] := va_S.rf
  have hl := lv_entry ([.ref q]) (n := 1) (Nat.le_of_ble_eq_true rfl)
  rw [lg_entry_eq]
  generalize (lg_sl ([.ref q]) ++ List.replicate (1 - (lg_sl ([.ref q])).length) Slot.unset).toArray = ls at hl ⊢
  have hl : lv_has ls 1 [(0, .ref q)] := hl
  have hP : va_P (dC, dI) cls [(q, .inr (15, fs))] s.heap := hP
  refine lv_aload_n hx hb dX15_thrown_0 rfl (lv_at hl 0 rfl) ?_
  refine va_get (D := (dC, dI)) (ci := 15) (v := .int 0) (C := RX15) (T := TX15) (N := 163) hx hb ht uX15 hown hK hP 0 rfl rfl 51 (by decide) (ht _ k_10_239) (fun _ h9 => h9) K51_fs dX15_thrown_1 ?_
  exact W.iret (v := 0) hx hb hr (fun t ht9 hW => ⟨⟨0, (), rfl, rfl, by rw [ht9]; exact hP.sub [] rfl, va_K.moved hW.alike (hK.sub [] rfl), hD.sub [] (by decide) rfl⟩, hS.F ht9⟩) hS.2.2 dX15_thrown_4
set_option maxHeartbeats 4000000 in
set_option maxRecDepth 100000 in
theorem r_thrown_1 (l : Launch) (dC : Nat → ClassId) (dI : Nat → Nat → Nat) (sz : Nat) (q : Nat) (fs : List Value) (L_fs : fs.length = 163) (K51_fs : fs[51]? = some (.int 1)) : Met l yX15_thrown (Cond.code yX15_thrown cX15_thrown 1 (some .int) :: tb) ({ frames := 0, cells := 0, slots := 0, locals := 0 }) (pcw [.ref q] (dC, dI) [(q, .inr (15, fs))] [] sz) (va_Qi (fun (r : Int32) => (fun (_ : Unit) => r = 1)) (bw (dC, dI) (va_A [(q, .inr (15, fs))] sz) (fun (_ : Unit) => []) (fun (_ : Unit) => [])) (va_A [(q, .inr (15, fs))] sz)) 0 0 (va_A [(q, .inr (15, fs))] sz) := by
  refine Met.ofW (cc := cX15_thrown) (maxL := 1) (ret := (some .int)) (by decide) rfl ?_
  intro p e s m args below meth c s₁ B hml hv
  obtain ⟨rfl, hsz, hP, hK, hD0⟩ := hv
  have hx := B.exec
  have hb := B.bytes
  have hr := B.returns
  have hts := atoms_spec (ws := Cond.code yX15_thrown cX15_thrown 1 (some .int) :: tb) B.pre
  have ht : ∀ w ∈ tb, w.before _ s = true := fun w h => hts w (List.mem_cons_of_mem _ h)
  have hown : s.vm.findClass RX15 = some m.cls := findClass_of_methodNamed B.named
  have hlocks := B.notSynchronized
  subst hsz
  have hD := hD0.self (sz := s.heap.size)
  generalize hAe : va_A [(q, .inr (15, fs))] s.heap.size = A at hD ⊢
  have hA : ∀ q : Nat, s.heap.size ≤ q → A q := fun q h => by rw [← hAe]; exact Or.inr h
  have hS : va_S A s.heap s.heap [] := va_S.rf
  have hl := lv_entry ([.ref q]) (n := 1) (Nat.le_of_ble_eq_true rfl)
  rw [lg_entry_eq]
  generalize (lg_sl ([.ref q]) ++ List.replicate (1 - (lg_sl ([.ref q])).length) Slot.unset).toArray = ls at hl ⊢
  have hl : lv_has ls 1 [(0, .ref q)] := hl
  have hP : va_P (dC, dI) cls [(q, .inr (15, fs))] s.heap := hP
  refine lv_aload_n hx hb dX15_thrown_0 rfl (lv_at hl 0 rfl) ?_
  refine va_get (D := (dC, dI)) (ci := 15) (v := .int 1) (C := RX15) (T := TX15) (N := 163) hx hb ht uX15 hown hK hP 0 rfl rfl 51 (by decide) (ht _ k_10_239) (fun _ h9 => h9) K51_fs dX15_thrown_1 ?_
  exact W.iret (v := 1) hx hb hr (fun t ht9 hW => ⟨⟨1, (), rfl, rfl, by rw [ht9]; exact hP.sub [] rfl, va_K.moved hW.alike (hK.sub [] rfl), hD.sub [] (by decide) rfl⟩, hS.F ht9⟩) hS.2.2 dX15_thrown_4
