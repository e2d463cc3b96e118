theorem dX11_end_0 : decode cX11_end 0 = .ok (.iload_n 1, 1) := by decide +kernel
theorem dX11_end_1 : decode cX11_end 1 = .ok (.ifCond .lt 11, 3) := by decide +kernel
theorem dX11_end_4 : decode cX11_end 4 = .ok (.iload_n 1, 1) := by decide +kernel
theorem dX11_end_5 : decode cX11_end 5 = .ok (.aload_n 0, 1) := by decide +kernel
theorem dX11_end_6 : decode cX11_end 6 = .ok (.getfield 88, 3) := by decide +kernel
theorem dX11_end_9 : decode cX11_end 9 = .ok (.if_icmp .le 13, 3) := by decide +kernel
theorem dX11_end_22 : decode cX11_end 22 = .ok (.aload_n 0, 1) := by decide +kernel
theorem dX11_end_23 : decode cX11_end 23 = .ok (.iload_n 1, 1) := by decide +kernel
theorem dX11_end_24 : decode cX11_end 24 = .ok (.putfield 88, 3) := by decide +kernel
theorem dX11_end_27 : decode cX11_end 27 = .ok (.return_, 1) := by decide +kernel
theorem at_X11_end_106 : ∀ w ∈ vx_atS RX11 106 "java/lang/IllegalArgumentException" ["java/lang/RuntimeException", "java/lang/Exception"], w ∈ lw_tbl := by decide +kernel
theorem dX11_end_12 : decode cX11_end 12 = .ok (.new 102, 3) := by decide +kernel
theorem dX11_end_15 : decode cX11_end 15 = .ok (.dup, 1) := by decide +kernel
theorem dX11_end_16 : decode cX11_end 16 = .ok (.ldc 104, 2) := by decide +kernel
theorem dX11_end_18 : decode cX11_end 18 = .ok (.invokespecial 106, 3) := by decide +kernel
theorem dX11_end_21 : decode cX11_end 21 = .ok (.athrow, 1) := by decide +kernel
theorem k_9_177 : Jvm.Cond.classLink "FinderHouse" (102 : Nat) "java/lang/IllegalArgumentException" ∈ tb := tb9 177 (by decide +kernel) (by decide +kernel)
theorem k_1_25 : Jvm.Cond.initialized "java/lang/IllegalArgumentException" ∈ tb := tb1 25 (by decide +kernel) (by decide +kernel)
theorem dX2_has_0 : decode cX2_has 0 = .ok (.iload_n 1, 1) := by decide +kernel
theorem dX2_has_1 : decode cX2_has 1 = .ok (.iconst 1, 1) := by decide +kernel
theorem dX2_has_2 : decode cX2_has 2 = .ok (.if_icmp .lt 25, 3) := by decide +kernel
theorem dX2_has_5 : decode cX2_has 5 = .ok (.iload_n 1, 1) := by decide +kernel
theorem dX2_has_6 : decode cX2_has 6 = .ok (.sipush 200, 3) := by decide +kernel
theorem dX2_has_9 : decode cX2_has 9 = .ok (.if_icmp .gt 18, 3) := by decide +kernel
theorem dX2_has_12 : decode cX2_has 12 = .ok (.iload_n 2, 1) := by decide +kernel
theorem dX2_has_13 : decode cX2_has 13 = .ok (.ifCond .lt 14, 3) := by decide +kernel
theorem dX2_has_16 : decode cX2_has 16 = .ok (.iload_n 2, 1) := by decide +kernel
theorem dX2_has_17 : decode cX2_has 17 = .ok (.sipush 128, 3) := by decide +kernel
theorem dX2_has_20 : decode cX2_has 20 = .ok (.if_icmp .ge 7, 3) := by decide +kernel
theorem dX2_has_23 : decode cX2_has 23 = .ok (.iconst 1, 1) := by decide +kernel
theorem dX2_has_24 : decode cX2_has 24 = .ok (.goto 4, 3) := by decide +kernel
theorem dX2_has_28 : decode cX2_has 28 = .ok (.ireturn, 1) := by decide +kernel
theorem dX2_has_27 : decode cX2_has 27 = .ok (.iconst 0, 1) := by decide +kernel
theorem dX2_at_0 : decode cX2_at 0 = .ok (.iload_n 0, 1) := by decide +kernel
theorem dX2_at_1 : decode cX2_at 1 = .ok (.iconst 1, 1) := by decide +kernel
theorem dX2_at_2 : decode cX2_at 2 = .ok (.isub, 1) := by decide +kernel
theorem dX2_at_3 : decode cX2_at 3 = .ok (.sipush 128, 3) := by decide +kernel
theorem dX2_at_6 : decode cX2_at 6 = .ok (.imul, 1) := by decide +kernel
theorem dX2_at_7 : decode cX2_at 7 = .ok (.iload_n 1, 1) := by decide +kernel
theorem dX2_at_8 : decode cX2_at 8 = .ok (.iadd, 1) := by decide +kernel
theorem dX2_at_9 : decode cX2_at 9 = .ok (.ireturn, 1) := by decide +kernel
theorem dX11_octet_0 : decode cX11_octet 0 = .ok (.aload_n 0, 1) := by decide +kernel
theorem dX11_octet_1 : decode cX11_octet 1 = .ok (.getfield 84, 3) := by decide +kernel
theorem dX11_octet_4 : decode cX11_octet 4 = .ok (.iload_n 1, 1) := by decide +kernel
theorem dX11_octet_5 : decode cX11_octet 5 = .ok (.iload_n 2, 1) := by decide +kernel
theorem k_9_204 : Jvm.Cond.code ({ cls := "FinderHouse$Disk", name := "has", desc := "(II)Z" } : Jvm.MethodName) prog_4_method_2_code (3 : Nat) (Option.some Jvm.ClassFile.FieldType.boolean) ∈ tb := tb9 204 (by decide +kernel) (by decide +kernel)
theorem k_9_201 : Jvm.Cond.methodLink "FinderHouse" (528 : Nat) ({ cls := "FinderHouse$Disk", name := "has", desc := "(II)Z" } : Jvm.MethodName) ∈ tb := tb9 201 (by decide +kernel) (by decide +kernel)
theorem k_9_202 : Jvm.Cond.instanceMethod ({ cls := "FinderHouse$Disk", name := "has", desc := "(II)Z" } : Jvm.MethodName) ∈ tb := tb9 202 (by decide +kernel) (by decide +kernel)
theorem k_9_203 : Jvm.Cond.selects "FinderHouse$Disk" ({ cls := "FinderHouse$Disk", name := "has", desc := "(II)Z" } : Jvm.MethodName) ({ cls := "FinderHouse$Disk", name := "has", desc := "(II)Z" } : Jvm.MethodName) ∈ tb := tb9 203 (by decide +kernel) (by decide +kernel)
theorem dX11_octet_6 : decode cX11_octet 6 = .ok (.invokevirtual 528, 3) := by decide +kernel
theorem dX11_octet_9 : decode cX11_octet 9 = .ok (.ifCond .ne 14, 3) := by decide +kernel
theorem dX11_octet_23 : decode cX11_octet 23 = .ok (.aload_n 0, 1) := by decide +kernel
theorem dX11_octet_24 : decode cX11_octet 24 = .ok (.getfield 84, 3) := by decide +kernel
theorem k_4_63 : Jvm.Cond.fieldLink "FinderHouse" (537 : Nat) "FinderHouse$Disk" "blocks" "[B" ∈ tb := tb4 63 (by decide +kernel) (by decide +kernel)
theorem dX11_octet_27 : decode cX11_octet 27 = .ok (.getfield 537, 3) := by decide +kernel
theorem dX11_octet_30 : decode cX11_octet 30 = .ok (.iload_n 1, 1) := by decide +kernel
theorem dX11_octet_31 : decode cX11_octet 31 = .ok (.iload_n 2, 1) := by decide +kernel
theorem k_9_45 : Jvm.Cond.code ({ cls := "FinderHouse$Disk", name := "at", desc := "(II)I" } : Jvm.MethodName) prog_4_method_3_code (2 : Nat) (Option.some Jvm.ClassFile.FieldType.int) ∈ tb := tb9 45 (by decide +kernel) (by decide +kernel)
theorem k_9_221 : Jvm.Cond.methodLink "FinderHouse" (540 : Nat) ({ cls := "FinderHouse$Disk", name := "at", desc := "(II)I" } : Jvm.MethodName) ∈ tb := tb9 221 (by decide +kernel) (by decide +kernel)
theorem k_9_44 : Jvm.Cond.static ({ cls := "FinderHouse$Disk", name := "at", desc := "(II)I" } : Jvm.MethodName) ∈ tb := tb9 44 (by decide +kernel) (by decide +kernel)
theorem dX11_octet_32 : decode cX11_octet 32 = .ok (.invokestatic 540, 3) := by decide +kernel
theorem dX11_octet_35 : decode cX11_octet 35 = .ok (.baload, 1) := by decide +kernel
theorem dX11_octet_36 : decode cX11_octet 36 = .ok (.sipush 255, 3) := by decide +kernel
theorem dX11_octet_39 : decode cX11_octet 39 = .ok (.iand, 1) := by decide +kernel
theorem dX11_octet_40 : decode cX11_octet 40 = .ok (.ireturn, 1) := by decide +kernel
theorem dX11_poke_0 : decode cX11_poke 0 = .ok (.aload_n 0, 1) := by decide +kernel
theorem dX11_poke_1 : decode cX11_poke 1 = .ok (.getfield 84, 3) := by decide +kernel
theorem dX11_poke_4 : decode cX11_poke 4 = .ok (.iload_n 1, 1) := by decide +kernel
theorem dX11_poke_5 : decode cX11_poke 5 = .ok (.iload_n 2, 1) := by decide +kernel
theorem dX11_poke_6 : decode cX11_poke 6 = .ok (.invokevirtual 528, 3) := by decide +kernel
theorem dX11_poke_9 : decode cX11_poke 9 = .ok (.ifCond .ne 14, 3) := by decide +kernel
theorem dX11_poke_23 : decode cX11_poke 23 = .ok (.iload_n 1, 1) := by decide +kernel
theorem dX11_poke_24 : decode cX11_poke 24 = .ok (.iload_n 2, 1) := by decide +kernel
theorem dX11_poke_25 : decode cX11_poke 25 = .ok (.invokestatic 540, 3) := by decide +kernel
theorem dX11_poke_28 : decode cX11_poke 28 = .ok (.istore 4, 2) := by decide +kernel
theorem dX11_poke_30 : decode cX11_poke 30 = .ok (.aload_n 0, 1) := by decide +kernel
theorem dX11_poke_31 : decode cX11_poke 31 = .ok (.getfield 84, 3) := by decide +kernel
theorem dX11_poke_34 : decode cX11_poke 34 = .ok (.getfield 537, 3) := by decide +kernel
theorem dX11_poke_37 : decode cX11_poke 37 = .ok (.iload 4, 2) := by decide +kernel
theorem dX11_poke_39 : decode cX11_poke 39 = .ok (.aload_n 0, 1) := by decide +kernel
theorem dX11_poke_40 : decode cX11_poke 40 = .ok (.getfield 84, 3) := by decide +kernel
theorem dX11_poke_43 : decode cX11_poke 43 = .ok (.getfield 537, 3) := by decide +kernel
theorem dX11_poke_46 : decode cX11_poke 46 = .ok (.iload 4, 2) := by decide +kernel
theorem dX11_poke_48 : decode cX11_poke 48 = .ok (.baload, 1) := by decide +kernel
theorem dX11_poke_49 : decode cX11_poke 49 = .ok (.iload_n 3, 1) := by decide +kernel
theorem dX11_poke_50 : decode cX11_poke 50 = .ok (.ixor, 1) := by decide +kernel
theorem dX11_poke_51 : decode cX11_poke 51 = .ok (.i2b, 1) := by decide +kernel
theorem dX11_poke_52 : decode cX11_poke 52 = .ok (.bastore, 1) := by decide +kernel
theorem dX11_poke_53 : decode cX11_poke 53 = .ok (.aload_n 0, 1) := by decide +kernel
theorem dX11_poke_54 : decode cX11_poke 54 = .ok (.getfield 84, 3) := by decide +kernel
theorem dX11_poke_57 : decode cX11_poke 57 = .ok (.getfield 537, 3) := by decide +kernel
theorem dX11_poke_60 : decode cX11_poke 60 = .ok (.iload 4, 2) := by decide +kernel
theorem dX11_poke_62 : decode cX11_poke 62 = .ok (.baload, 1) := by decide +kernel
theorem dX11_poke_63 : decode cX11_poke 63 = .ok (.sipush 255, 3) := by decide +kernel
theorem dX11_poke_66 : decode cX11_poke 66 = .ok (.iand, 1) := by decide +kernel
theorem dX11_poke_67 : decode cX11_poke 67 = .ok (.ireturn, 1) := by decide +kernel
theorem at_X11_octet_536 : ∀ w ∈ vx_atS RX11 536 "java/lang/IndexOutOfBoundsException" ["java/lang/RuntimeException", "java/lang/Exception"], w ∈ lw_tbl := by decide +kernel
theorem dX11_octet_12 : decode cX11_octet 12 = .ok (.new 532, 3) := by decide +kernel
theorem dX11_octet_15 : decode cX11_octet 15 = .ok (.dup, 1) := by decide +kernel
theorem dX11_octet_16 : decode cX11_octet 16 = .ok (.ldc_w 534, 3) := by decide +kernel
theorem dX11_octet_19 : decode cX11_octet 19 = .ok (.invokespecial 536, 3) := by decide +kernel
theorem dX11_octet_22 : decode cX11_octet 22 = .ok (.athrow, 1) := by decide +kernel
theorem k_9_205 : Jvm.Cond.classLink "FinderHouse" (532 : Nat) "java/lang/IndexOutOfBoundsException" ∈ tb := tb9 205 (by decide +kernel) (by decide +kernel)
theorem k_1_29 : Jvm.Cond.initialized "java/lang/IndexOutOfBoundsException" ∈ tb := tb1 29 (by decide +kernel) (by decide +kernel)
theorem at_X11_poke_536 : ∀ w ∈ vx_atS RX11 536 "java/lang/IndexOutOfBoundsException" ["java/lang/RuntimeException", "java/lang/Exception"], w ∈ lw_tbl := by decide +kernel
theorem dX11_poke_12 : decode cX11_poke 12 = .ok (.new 532, 3) := by decide +kernel
theorem dX11_poke_15 : decode cX11_poke 15 = .ok (.dup, 1) := by decide +kernel
theorem dX11_poke_16 : decode cX11_poke 16 = .ok (.ldc_w 534, 3) := by decide +kernel
theorem dX11_poke_19 : decode cX11_poke 19 = .ok (.invokespecial 536, 3) := by decide +kernel
theorem dX11_poke_22 : decode cX11_poke 22 = .ok (.athrow, 1) := by decide +kernel
theorem end_no {p : Int32} (h : ¬ p = 0) (h0 : ¬ p < 0) : ¬ p ≤ 0 := fun h1 => by
  have z1 := Int32.le_iff_toInt_le.mp (Int32.not_lt.mp h0)
  have z2 := Int32.le_iff_toInt_le.mp h1
  have z0 : (0 : Int32).toInt = 0 := by decide
  exact h (Int32.toInt_inj.mp (by omega))
/-- a block and a place on the disk -/
def dkin (b i : Int32) : Prop := ¬ b < 1 ∧ ¬ 200 < b ∧ ¬ i < 0 ∧ ¬ 128 ≤ i
theorem dk_nat {b i : Int32} (h : dkin b i) : ∃ m n : Nat, m < 200 ∧ n < 128 ∧ b = nI (m + 1) ∧ i = nI n := by
  obtain ⟨h1, h2, h3, h4⟩ := h
  obtain ⟨m, hm, rfl⟩ := nI_of2 (M := 200) (n := 200) (by decide) (fun h => h1 (by
    rw [Int32.lt_iff_toInt_lt] at h ⊢
    have z0 : (0 : Int32).toInt = 0 := by decide
    have z1 : (1 : Int32).toInt = 1 := by decide
    omega)) (Int32.not_lt.mp h2)
  obtain ⟨n, hn, rfl⟩ := nI_of2 (M := 127) (n := 127) (by decide) h3 (by
    have h4 := Int32.not_le.mp h4
    rw [Int32.lt_iff_toInt_lt] at h4
    rw [Int32.le_iff_toInt_le]
    have z0 : (128 : Int32).toInt = 128 := by decide
    have z1 : (127 : Int32).toInt = 127 := by decide
    omega)
  have hm1 : 1 ≤ m := by
    rcases Nat.eq_zero_or_pos m with rfl | h
    · exact absurd (by decide) h1
    · exact h
  exact ⟨m - 1, n, by omega, by omega, by rw [show m - 1 + 1 = m by omega], rfl⟩
theorem dk_at {b i r : Int32} (h : dkin b i) (e : r = (b - 1) * 128 + i) : vp_in r 25600 := by
  obtain ⟨m, n, hm, hn, rfl, rfl⟩ := dk_nat h
  rw [e, nI_pred, show (128 : Int32) = nI 128 from rfl, pk_mul, nI_add]
  exact vp_in_nI (by omega) (by omega)
set_option maxHeartbeats 4000000 in
set_option maxRecDepth 100000 in
theorem x_end_ok (l : Launch) (dC : Nat → ClassId) (dI : Nat → Nat → Nat) (sz : Nat) (q : Nat) (fs : List Value) (L_fs : fs.length = 18) (K1_fs : fs[1]? = some (.int 0)) : Met l yX11_end (Cond.code yX11_end cX11_end 2 none :: tb) ({ frames := 0, cells := 0, slots := 0, locals := 0 }) (pcw [.ref q, .int 0] (dC, dI) [(q, .inr (11, fs))] [] sz) (va_Qv (fun (_ : Unit) => True) (bw (dC, dI) (va_A [(q, .inr (11, fs))] sz) (fun (_ : Unit) => []) (fun (_ : Unit) => [])) (va_A [(q, .inr (11, fs))] sz)) 0 0 (va_A [(q, .inr (11, fs))] sz) := by
  refine Met.ofW (cc := cX11_end) (maxL := 2) (ret := none) (by decide) rfl ?_
  intro p e s m args below meth c s₁ B hml hv
  obtain ⟨rfl, hsz, hP, hK, hD0⟩ := hv
  have hx := B.exec
  have hb := B.bytes
  have hr := B.returns
  have hts := atoms_spec (ws := Cond.code yX11_end cX11_end 2 none :: tb) B.pre
  have ht : ∀ w ∈ tb, w.before _ s = true := fun w h => hts w (List.mem_cons_of_mem _ h)
  have hown : s.vm.findClass RX11 = some m.cls := findClass_of_methodNamed B.named
  have hlocks := B.notSynchronized
  subst hsz
  have hD := hD0.self (sz := s.heap.size)
  generalize hAe : va_A [(q, .inr (11, fs))] s.heap.size = A at hD ⊢
  have hA : ∀ q : Nat, s.heap.size ≤ q → A q := fun q h => by rw [← hAe]; exact Or.inr h
  have hS : va_S A s.heap s.heap [] := va_S.rf
  have hl := lv_entry ([.ref q, .int 0]) (n := 2) (Nat.le_of_ble_eq_true rfl)
  rw [lg_entry_eq]
  generalize (lg_sl ([.ref q, .int 0]) ++ List.replicate (2 - (lg_sl ([.ref q, .int 0])).length) Slot.unset).toArray = ls at hl ⊢
  have hl : lv_has ls 2 [(0, .ref q), (1, .int 0)] := hl
  have hP : va_P (dC, dI) cls [(q, .inr (11, fs))] s.heap := hP
  refine lv_iload_n hx hb dX11_end_0 rfl (lv_at hl 1 rfl) ?_
  refine lv_if_lt (tgt := 12) hx hb dX11_end_1 (by decide) (fun c0 => absurd c0 (by decide)) (fun _ => ?_)
  refine lv_iload_n hx hb dX11_end_4 rfl (lv_at hl 1 rfl) ?_
  refine lv_aload_n hx hb dX11_end_5 rfl (lv_at hl 0 rfl) ?_
  refine va_get (D := (dC, dI)) (ci := 11) (v := .int 0) (C := RX11) (T := TX11) (N := 18) hx hb ht uX11 hown hK hP 0 rfl rfl 1 (by decide) (ht _ k_4_92) (fun _ h9 => h9) K1_fs dX11_end_6 ?_
  refine lv_icmp_le (tgt := 22) hx hb dX11_end_9 (by decide) (fun _ => ?_) (fun c0 => absurd c0 (by decide))
  refine lv_aload_n hx hb dX11_end_22 rfl (lv_at hl 0 rfl) ?_
  refine lv_iload_n hx hb dX11_end_23 rfl (lv_at hl 1 rfl) ?_
  refine va_put (D := (dC, dI)) (ci := 11) (v := .int 0) (ty := .int) (C := RX11) (T := TX11) (N := 18) hx hb ht uX11 tyX11 tkX11 nmX11 hown hK hP hD hS 0 rfl rfl 1 (by decide) (ht _ k_4_92) (fun _ h9 => h9) rfl (by decide +kernel) rfl rfl (by rw [L_fs]; decide) dX11_end_24 (fun H locs hP hD hS => ?_)
  obtain ⟨F_1, eF_1⟩ : ∃ g : List Value, g = fs.set 1 (.int 0) := ⟨_, rfl⟩
  rw [← eF_1] at hP hD
  have K1_F_1 : F_1[1]? = some (.int 0) := by rw [eF_1]; exact List.getElem?_set_self (by rw [L_fs]; decide)
  have L_F_1 : F_1.length = 18 := by rw [eF_1, List.length_set]; exact L_fs
  have hP : va_P (dC, dI) cls [(q, .inr (11, F_1))] H := hP
  have hD : va_D A [(q, .inr (11, F_1))] := hD
  exact W.vret hx hb hr (fun t ht9 hW => ⟨⟨(), rfl, trivial, by rw [ht9]; exact hP.sub [] rfl, va_K.moved hW.alike (hK.sub [] rfl), hD.sub [] (by decide) rfl⟩, hS.F ht9⟩) hS.2.2 dX11_end_27
set_option maxHeartbeats 4000000 in
set_option maxRecDepth 100000 in
theorem x_end_no (l : Launch) (dC : Nat → ClassId) (dI : Nat → Nat → Nat) (sz : Nat) (q : Nat) (fs : List Value) (sa : Nat) (p0 : Int32) (L_fs : fs.length = 18) (K1_fs : fs[1]? = some (.int 0)) (hp : ¬ p0 = 0) (hlt : l.stackTraces = false) : vx_Met l yX11_end (Cond.code yX11_end cX11_end 2 none :: tb) ({ frames := 8, cells := 1, slots := 6, locals := 82 }) (pcx [.inr (.inl ("FinderHouse", 104, "the tape has not so many bytes", sa)), .inr (.inr (.inr (.inr (.inl ("java/lang/Throwable", "UNASSIGNED_STACK", "[Ljava/lang/StackTraceElement;"))))), .inr (.inr (.inr (.inr (.inl ("java/lang/Throwable", "SUPPRESSED_SENTINEL", "Ljava/util/List;"))))), .inr (.inr (.inr (.inr (.inr (.inr ())))))] [.ref q, .int p0] (dC, dI) [(q, .inr (11, fs))] [] sz) (va_Qv (fun (_ : Unit) => False) (bw (dC, dI) (va_A [(q, .inr (11, fs))] sz) (fun (_ : Unit) => []) (fun (_ : Unit) => [])) (va_A [(q, .inr (11, fs))] sz)) (vx_X (fun _ : Unit => True) (fun E9 _ _ => E9 = "java/lang/IllegalArgumentException") (va_A [(q, .inr (11, fs))] sz)) 1 6 (va_A [(q, .inr (11, fs))] sz) := by
  refine vx_ofW (cc := cX11_end) (maxL := 2) (ret := none) (by decide) rfl ?_
  intro p e s m args below meth c s₁ B hml htab hv
  obtain ⟨rfl, hsz, hP, hK, hD0, hE⟩ := hv
  have hx := B.exec
  have hb := B.bytes
  have hr := B.returns
  have hts := atoms_spec (ws := Cond.code yX11_end cX11_end 2 none :: tb) B.pre
  have ht : ∀ w ∈ tb, w.before _ s = true := fun w h => hts w (List.mem_cons_of_mem _ h)
  have hown : s.vm.findClass RX11 = some m.cls := findClass_of_methodNamed B.named
  have hlocks := B.notSynchronized
  subst hsz
  have hD := hD0.self (sz := s.heap.size)
  generalize hAe : va_A [(q, .inr (11, fs))] s.heap.size = A at hD hE ⊢
  have hA : ∀ q : Nat, s.heap.size ≤ q → A q := fun q h => by rw [← hAe]; exact Or.inr h
  have hS : va_S A s.heap s.heap [] := va_S.rf
  have hl := lv_entry ([.ref q, .int p0]) (n := 2) (Nat.le_of_ble_eq_true rfl)
  rw [lg_entry_eq]
  generalize (lg_sl ([.ref q, .int p0]) ++ List.replicate (2 - (lg_sl ([.ref q, .int p0])).length) Slot.unset).toArray = ls at hl ⊢
  have hl : lv_has ls 2 [(0, .ref q), (1, .int p0)] := hl
  have hP : va_P (dC, dI) cls [(q, .inr (11, fs))] s.heap := hP
  refine lv_iload_n hx hb dX11_end_0 rfl (lv_at hl 1 rfl) ?_
  refine lv_if_lt (tgt := 12) hx hb dX11_end_1 (by decide) (fun b_1 => ?_) (fun b_1 => ?_)
  · exact vx_throwS (own := RX11) (cls := "java/lang/IllegalArgumentException") (text := "the tape has not so many bytes") (names := ["java/lang/RuntimeException", "java/lang/Exception"]) (ik := 102) (is := 104) (ic := 106) (sa := sa) (A := A) hx hb hlt hown (by decide) (by decide) (ht _ k_9_177) (ht _ k_1_25) (xf_r hE 0 rfl) (tn_all at_X11_end_106 (by decide +kernel) ht (xf_n hE 3 rfl)) (by decide +kernel) (xf_q hE 1 rfl) (xf_q hE 2 rfl) hS (hl.1.trans hml.symm) dX11_end_12 dX11_end_15 dX11_end_16 dX11_end_18 dX11_end_21 (fun x hx9 => (htab x hx9).elim) (Nat.le_of_ble_eq_true rfl) (Nat.le_of_ble_eq_true rfl) (Nat.le_of_ble_eq_true rfl) (Nat.le_of_ble_eq_true rfl) hlocks (fun t hvm hz hk => ⟨(), trivial, rfl, ⟨Nat.le_trans hS.1 hz, fun q h1 h2 => (hk q (Nat.lt_of_lt_of_le h1 hS.1)).trans (hS.2.1 q h1 h2)⟩⟩) hS.2.2 (Nat.le_of_ble_eq_true rfl) (Nat.le_of_ble_eq_true rfl)
  · refine lv_iload_n hx hb dX11_end_4 rfl (lv_at hl 1 rfl) ?_
    refine lv_aload_n hx hb dX11_end_5 rfl (lv_at hl 0 rfl) ?_
    refine va_get (D := (dC, dI)) (ci := 11) (v := .int 0) (C := RX11) (T := TX11) (N := 18) hx hb ht uX11 hown hK hP 0 rfl rfl 1 (by decide) (ht _ k_4_92) (fun _ h9 => h9) K1_fs dX11_end_6 ?_
    refine lv_icmp_le (tgt := 22) hx hb dX11_end_9 (by decide) (fun c0 => absurd c0 ((end_no hp b_1))) (fun _ => ?_)
    exact vx_throwS (own := RX11) (cls := "java/lang/IllegalArgumentException") (text := "the tape has not so many bytes") (names := ["java/lang/RuntimeException", "java/lang/Exception"]) (ik := 102) (is := 104) (ic := 106) (sa := sa) (A := A) hx hb hlt hown (by decide) (by decide) (ht _ k_9_177) (ht _ k_1_25) (xf_r hE 0 rfl) (tn_all at_X11_end_106 (by decide +kernel) ht (xf_n hE 3 rfl)) (by decide +kernel) (xf_q hE 1 rfl) (xf_q hE 2 rfl) hS (hl.1.trans hml.symm) dX11_end_12 dX11_end_15 dX11_end_16 dX11_end_18 dX11_end_21 (fun x hx9 => (htab x hx9).elim) (Nat.le_of_ble_eq_true rfl) (Nat.le_of_ble_eq_true rfl) (Nat.le_of_ble_eq_true rfl) (Nat.le_of_ble_eq_true rfl) hlocks (fun t hvm hz hk => ⟨(), trivial, rfl, ⟨Nat.le_trans hS.1 hz, fun q h1 h2 => (hk q (Nat.lt_of_lt_of_le h1 hS.1)).trans (hS.2.1 q h1 h2)⟩⟩) hS.2.2 (Nat.le_of_ble_eq_true rfl) (Nat.le_of_ble_eq_true rfl)
set_option maxHeartbeats 4000000 in
set_option maxRecDepth 100000 in
theorem m2_has_y (l : Launch) (dC : Nat → ClassId) (dI : Nat → Nat → Nat) (sz : Nat) (d : Nat) (gd : List Value) (p0 : Int32) (p1 : Int32) (L_gd : gd.length = 7) (hi : dkin p0 p1) : Met l yX2_has (Cond.code yX2_has cX2_has 3 (some .boolean) :: tb) ({ frames := 0, cells := 0, slots := 0, locals := 0 }) (pcw [.ref d, .int p0, .int p1] (dC, dI) [(d, .inr (2, gd))] [] sz) (va_Qi (fun (r : Int32) => (fun (_ : Unit) => r = 1)) (bw (dC, dI) (va_A [(d, .inr (2, gd))] sz) (fun (_ : Unit) => [(d, .inr (2, gd))]) (fun (_ : Unit) => [])) (va_A [(d, .inr (2, gd))] sz)) 0 0 (va_A [(d, .inr (2, gd))] sz) := by
  refine Met.ofW (cc := cX2_has) (maxL := 3) (ret := (some .boolean)) (by decide) rfl ?_
  intro p e s m args below meth c s₁ B hml hv
  obtain ⟨rfl, hsz, hP, hK, hD0⟩ := hv
  have hx := B.exec
  have hb := B.bytes
  have hr := B.returns
  have hts := atoms_spec (ws := Cond.code yX2_has cX2_has 3 (some .boolean) :: tb) B.pre
  have ht : ∀ w ∈ tb, w.before _ s = true := fun w h => hts w (List.mem_cons_of_mem _ h)
  have hown : s.vm.findClass RX2 = some m.cls := findClass_of_methodNamed B.named
  have hlocks := B.notSynchronized
  subst hsz
  have hD := hD0.self (sz := s.heap.size)
  generalize hAe : va_A [(d, .inr (2, gd))] s.heap.size = A at hD ⊢
  have hA : ∀ q : Nat, s.heap.size ≤ q → A q := fun q h => by rw [← hAe]; exact Or.inr h
  have hS : va_S A s.heap s.heap [] := va_S.rf
  have hl := lv_entry ([.ref d, .int p0, .int p1]) (n := 3) (Nat.le_of_ble_eq_true rfl)
  rw [lg_entry_eq]
  generalize (lg_sl ([.ref d, .int p0, .int p1]) ++ List.replicate (3 - (lg_sl ([.ref d, .int p0, .int p1])).length) Slot.unset).toArray = ls at hl ⊢
  have hl : lv_has ls 3 [(0, .ref d), (1, .int p0), (2, .int p1)] := hl
  have hP : va_P (dC, dI) cls [(d, .inr (2, gd))] s.heap := hP
  refine lv_iload_n hx hb dX2_has_0 rfl (lv_at hl 1 rfl) ?_
  refine lv_iconst (v := 1) hx hb dX2_has_1 (by decide) ?_
  refine lv_icmp_lt (tgt := 27) hx hb dX2_has_2 (by decide) (fun c0 => absurd c0 (hi.1)) (fun _ => ?_)
  refine lv_iload_n hx hb dX2_has_5 rfl (lv_at hl 1 rfl) ?_
  refine lv_sipush (v := 200) hx hb dX2_has_6 (by decide) ?_
  refine lv_icmp_gt (tgt := 27) hx hb dX2_has_9 (by decide) (fun c0 => absurd c0 (hi.2.1)) (fun _ => ?_)
  refine lv_iload_n hx hb dX2_has_12 rfl (lv_at hl 2 rfl) ?_
  refine lv_if_lt (tgt := 27) hx hb dX2_has_13 (by decide) (fun c0 => absurd c0 (hi.2.2.1)) (fun _ => ?_)
  refine lv_iload_n hx hb dX2_has_16 rfl (lv_at hl 2 rfl) ?_
  refine lv_sipush (v := 128) hx hb dX2_has_17 (by decide) ?_
  refine lv_icmp_ge (tgt := 27) hx hb dX2_has_20 (by decide) (fun c0 => absurd c0 (hi.2.2.2)) (fun _ => ?_)
  refine lv_iconst (v := 1) hx hb dX2_has_23 (by decide) ?_
  refine lv_goto (tgt := 28) hx hb dX2_has_24 (by decide) ?_
  exact W.zret (v := 1) hx hb hr rfl (fun t ht9 hW => ⟨⟨1, (), rfl, rfl, by rw [ht9]; exact hP.sub [0] rfl, va_K.moved hW.alike (hK.sub [] rfl), hD.sub [0] (by decide) rfl⟩, hS.F ht9⟩) hS.2.2 dX2_has_28
set_option maxHeartbeats 4000000 in
set_option maxRecDepth 100000 in
theorem m2_has_n (l : Launch) (dC : Nat → ClassId) (dI : Nat → Nat → Nat) (sz : Nat) (d : Nat) (gd : List Value) (p0 : Int32) (p1 : Int32) (L_gd : gd.length = 7) (hn : ¬ dkin p0 p1) : Met l yX2_has (Cond.code yX2_has cX2_has 3 (some .boolean) :: tb) ({ frames := 0, cells := 0, slots := 0, locals := 0 }) (pcw [.ref d, .int p0, .int p1] (dC, dI) [(d, .inr (2, gd))] [] sz) (va_Qi (fun (r : Int32) => (fun (_ : Unit) => r = 0)) (bw (dC, dI) (va_A [(d, .inr (2, gd))] sz) (fun (_ : Unit) => [(d, .inr (2, gd))]) (fun (_ : Unit) => [])) (va_A [(d, .inr (2, gd))] sz)) 0 0 (va_A [(d, .inr (2, gd))] sz) := by
  refine Met.ofW (cc := cX2_has) (maxL := 3) (ret := (some .boolean)) (by decide) rfl ?_
  intro p e s m args below meth c s₁ B hml hv
  obtain ⟨rfl, hsz, hP, hK, hD0⟩ := hv
  have hx := B.exec
  have hb := B.bytes
  have hr := B.returns
  have hts := atoms_spec (ws := Cond.code yX2_has cX2_has 3 (some .boolean) :: tb) B.pre
  have ht : ∀ w ∈ tb, w.before _ s = true := fun w h => hts w (List.mem_cons_of_mem _ h)
  have hown : s.vm.findClass RX2 = some m.cls := findClass_of_methodNamed B.named
  have hlocks := B.notSynchronized
  subst hsz
  have hD := hD0.self (sz := s.heap.size)
  generalize hAe : va_A [(d, .inr (2, gd))] s.heap.size = A at hD ⊢
  have hA : ∀ q : Nat, s.heap.size ≤ q → A q := fun q h => by rw [← hAe]; exact Or.inr h
  have hS : va_S A s.heap s.heap [] := va_S.rf
  have hl := lv_entry ([.ref d, .int p0, .int p1]) (n := 3) (Nat.le_of_ble_eq_true rfl)
  rw [lg_entry_eq]
  generalize (lg_sl ([.ref d, .int p0, .int p1]) ++ List.replicate (3 - (lg_sl ([.ref d, .int p0, .int p1])).length) Slot.unset).toArray = ls at hl ⊢
  have hl : lv_has ls 3 [(0, .ref d), (1, .int p0), (2, .int p1)] := hl
  have hP : va_P (dC, dI) cls [(d, .inr (2, gd))] s.heap := hP
  refine lv_iload_n hx hb dX2_has_0 rfl (lv_at hl 1 rfl) ?_
  refine lv_iconst (v := 1) hx hb dX2_has_1 (by decide) ?_
  refine lv_icmp_lt (tgt := 27) hx hb dX2_has_2 (by decide) (fun b_1 => ?_) (fun b_1 => ?_)
  · refine lv_iconst (v := 0) hx hb dX2_has_27 (by decide) ?_
    exact W.zret (v := 0) hx hb hr rfl (fun t ht9 hW => ⟨⟨0, (), rfl, rfl, by rw [ht9]; exact hP.sub [0] rfl, va_K.moved hW.alike (hK.sub [] rfl), hD.sub [0] (by decide) rfl⟩, hS.F ht9⟩) hS.2.2 dX2_has_28
  · refine lv_iload_n hx hb dX2_has_5 rfl (lv_at hl 1 rfl) ?_
    refine lv_sipush (v := 200) hx hb dX2_has_6 (by decide) ?_
    refine lv_icmp_gt (tgt := 27) hx hb dX2_has_9 (by decide) (fun b_2 => ?_) (fun b_2 => ?_)
    · refine lv_iconst (v := 0) hx hb dX2_has_27 (by decide) ?_
      exact W.zret (v := 0) hx hb hr rfl (fun t ht9 hW => ⟨⟨0, (), rfl, rfl, by rw [ht9]; exact hP.sub [0] rfl, va_K.moved hW.alike (hK.sub [] rfl), hD.sub [0] (by decide) rfl⟩, hS.F ht9⟩) hS.2.2 dX2_has_28
    · refine lv_iload_n hx hb dX2_has_12 rfl (lv_at hl 2 rfl) ?_
      refine lv_if_lt (tgt := 27) hx hb dX2_has_13 (by decide) (fun b_3 => ?_) (fun b_3 => ?_)
      · refine lv_iconst (v := 0) hx hb dX2_has_27 (by decide) ?_
        exact W.zret (v := 0) hx hb hr rfl (fun t ht9 hW => ⟨⟨0, (), rfl, rfl, by rw [ht9]; exact hP.sub [0] rfl, va_K.moved hW.alike (hK.sub [] rfl), hD.sub [0] (by decide) rfl⟩, hS.F ht9⟩) hS.2.2 dX2_has_28
      · refine lv_iload_n hx hb dX2_has_16 rfl (lv_at hl 2 rfl) ?_
        refine lv_sipush (v := 128) hx hb dX2_has_17 (by decide) ?_
        refine lv_icmp_ge (tgt := 27) hx hb dX2_has_20 (by decide) (fun b_4 => ?_) (fun b_4 => ?_)
        · refine lv_iconst (v := 0) hx hb dX2_has_27 (by decide) ?_
          exact W.zret (v := 0) hx hb hr rfl (fun t ht9 hW => ⟨⟨0, (), rfl, rfl, by rw [ht9]; exact hP.sub [0] rfl, va_K.moved hW.alike (hK.sub [] rfl), hD.sub [0] (by decide) rfl⟩, hS.F ht9⟩) hS.2.2 dX2_has_28
        · exact absurd ⟨b_1, b_2, b_3, b_4⟩ hn
set_option maxHeartbeats 4000000 in
set_option maxRecDepth 100000 in
theorem m2_at (l : Launch) (dC : Nat → ClassId) (dI : Nat → Nat → Nat) (sz : Nat) (p0 : Int32) (p1 : Int32)  : Met l yX2_at (Cond.code yX2_at cX2_at 2 (some .int) :: tb) ({ frames := 0, cells := 0, slots := 0, locals := 0 }) (pcw [.int p0, .int p1] (dC, dI) [] [] sz) (va_Qi (fun (r : Int32) => (fun (_ : Unit) => r = (p0 - 1) * 128 + p1)) (bw (dC, dI) (va_A [] sz) (fun (_ : Unit) => []) (fun (_ : Unit) => [])) (va_A [] sz)) 0 0 (va_A [] sz) := by
  refine Met.ofW (cc := cX2_at) (maxL := 2) (ret := (some .int)) (by decide) rfl ?_
  intro p e s m args below meth c s₁ B hml hv
  obtain ⟨rfl, hsz, hP, hK, hD0⟩ := hv
  have hx := B.exec
  have hb := B.bytes
  have hr := B.returns
  have hts := atoms_spec (ws := Cond.code yX2_at cX2_at 2 (some .int) :: tb) B.pre
  have ht : ∀ w ∈ tb, w.before _ s = true := fun w h => hts w (List.mem_cons_of_mem _ h)
  have hown : s.vm.findClass RX2 = some m.cls := findClass_of_methodNamed B.named
  have hlocks := B.notSynchronized
  subst hsz
  have hD := hD0.self (sz := s.heap.size)
  generalize hAe : va_A [] s.heap.size = A at hD ⊢
  have hA : ∀ q : Nat, s.heap.size ≤ q → A q := fun q h => by rw [← hAe]; exact Or.inr h
  have hS : va_S A s.heap s.heap [] := va_S.rf
  have hl := lv_entry ([.int p0, .int p1]) (n := 2) (Nat.le_of_ble_eq_true rfl)
  rw [lg_entry_eq]
  generalize (lg_sl ([.int p0, .int p1]) ++ List.replicate (2 - (lg_sl ([.int p0, .int p1])).length) Slot.unset).toArray = ls at hl ⊢
  have hl : lv_has ls 2 [(0, .int p0), (1, .int p1)] := hl
  have hP : va_P (dC, dI) cls [] s.heap := hP
  refine lv_iload_n hx hb dX2_at_0 rfl (lv_at hl 0 rfl) ?_
  refine lv_iconst (v := 1) hx hb dX2_at_1 (by decide) ?_
  refine lv_isub hx hb dX2_at_2 ?_
  refine lv_topi (fun x_1 ex_1 => ?_)
  refine lv_sipush (v := 128) hx hb dX2_at_3 (by decide) ?_
  refine lv_imul hx hb dX2_at_6 ?_
  refine lv_topi (fun x_2 ex_2 => ?_)
  refine lv_iload_n hx hb dX2_at_7 rfl (lv_at hl 1 rfl) ?_
  refine lv_iadd hx hb dX2_at_8 ?_
  refine lv_topi (fun x_3 ex_3 => ?_)
  exact W.iret (v := x_3) hx hb hr (fun t ht9 hW => ⟨⟨x_3, (), rfl, (by rw [ex_3, ex_2, ex_1]), by rw [ht9]; exact hP.sub [] rfl, va_K.moved hW.alike (hK.sub [] rfl), hD.sub [] (by decide) rfl⟩, hS.F ht9⟩) hS.2.2 dX2_at_9
set_option maxHeartbeats 4000000 in
set_option maxRecDepth 100000 in
theorem x_octet_ok (l : Launch) (dC : Nat → ClassId) (dI : Nat → Nat → Nat) (sz : Nat) (q : Nat) (fs : List Value) (d : Nat) (gd : List Value) (bk : Nat) (cB : ClassId) (p0 : Int32) (p1 : Int32) (L_fs : fs.length = 18) (K17_fs : fs[17]? = some (.ref d)) (L_gd : gd.length = 7) (K0_gd : gd[0]? = some (.ref bk)) (hi : dkin p0 p1) : Met l yX11_octet (Cond.code yX11_octet cX11_octet 3 (some .int) :: tb) ({ frames := 1, cells := 0, slots := 0, locals := 22 }) (pcw [.ref q, .int p0, .int p1] (dC, dI) [(q, .inr (11, fs)), (d, .inr (2, gd)), (bk, .inl (cB, 25600, .inl (fun _ => 0)))] [(cB, .byte)] sz) (va_Qi (fun (r : Int32) => (fun (_ : Unit) => r = 0)) (bw (dC, dI) (va_A [(q, .inr (11, fs)), (d, .inr (2, gd)), (bk, .inl (cB, 25600, .inl (fun _ => 0)))] sz) (fun (_ : Unit) => []) (fun (_ : Unit) => [])) (va_A [(q, .inr (11, fs)), (d, .inr (2, gd)), (bk, .inl (cB, 25600, .inl (fun _ => 0)))] sz)) 0 0 (va_A [(q, .inr (11, fs)), (d, .inr (2, gd)), (bk, .inl (cB, 25600, .inl (fun _ => 0)))] sz) := by
  refine Met.ofW (cc := cX11_octet) (maxL := 3) (ret := (some .int)) (by decide) rfl ?_
  intro p e s m args below meth c s₁ B hml hv
  obtain ⟨rfl, hsz, hP, hK, hD0⟩ := hv
  have hx := B.exec
  have hb := B.bytes
  have hr := B.returns
  have hts := atoms_spec (ws := Cond.code yX11_octet cX11_octet 3 (some .int) :: tb) B.pre
  have ht : ∀ w ∈ tb, w.before _ s = true := fun w h => hts w (List.mem_cons_of_mem _ h)
  have hown : s.vm.findClass RX11 = some m.cls := findClass_of_methodNamed B.named
  have hlocks := B.notSynchronized
  subst hsz
  have hD := hD0.self (sz := s.heap.size)
  generalize hAe : va_A [(q, .inr (11, fs)), (d, .inr (2, gd)), (bk, .inl (cB, 25600, .inl (fun _ => 0)))] s.heap.size = A at hD ⊢
  have hA : ∀ q : Nat, s.heap.size ≤ q → A q := fun q h => by rw [← hAe]; exact Or.inr h
  have hS : va_S A s.heap s.heap [] := va_S.rf
  have hl := lv_entry ([.ref q, .int p0, .int p1]) (n := 3) (Nat.le_of_ble_eq_true rfl)
  rw [lg_entry_eq]
  generalize (lg_sl ([.ref q, .int p0, .int p1]) ++ List.replicate (3 - (lg_sl ([.ref q, .int p0, .int p1])).length) Slot.unset).toArray = ls at hl ⊢
  have hl : lv_has ls 3 [(0, .ref q), (1, .int p0), (2, .int p1)] := hl
  have hP : va_P (dC, dI) cls [(q, .inr (11, fs)), (d, .inr (2, gd)), (bk, .inl (cB, 25600, .inl (fun _ => 0)))] s.heap := hP
  refine lv_aload_n hx hb dX11_octet_0 rfl (lv_at hl 0 rfl) ?_
  refine va_get (D := (dC, dI)) (ci := 11) (v := .ref d) (C := RX11) (T := TX11) (N := 18) hx hb ht uX11 hown hK hP 0 rfl rfl 17 (by decide) (ht _ k_4_108) (fun _ h9 => h9) K17_fs dX11_octet_1 ?_
  refine lv_iload_n hx hb dX11_octet_4 rfl (lv_at hl 1 rfl) ?_
  refine lv_iload_n hx hb dX11_octet_5 rfl (lv_at hl 2 rfl) ?_
  refine ca_i (wr := [(q, .inr (11, fs)), (bk, .inl (cB, 25600, .inl (fun _ => 0)))]) (va_runV (As := [.int p0, .int p1]) (rest := []) ⟨hx, hb, hml, hown, ht⟩ (m2_has_y l dC dI s.heap.size d gd p0 p1 L_gd (by assumption)) (cwV 2 ht (gdV k_9_204 k_9_201 k_9_202 k_9_203 k_1_16) rfl rfl rfl (by decide +kernel) ⟨Nat.le_of_ble_eq_true rfl, Nat.le_of_ble_eq_true rfl⟩) ⟨pcw_blind, va_recv hK hP (ci := 2) (q0 := 1) rfl rfl, pcw_at hP hD hK [1] [] (by decide) rfl rfl rfl⟩ rfl rfl hl.1 rfl (lv_room (Nat.le_of_ble_eq_true rfl)) dX11_octet_6 ⟨Nat.le_of_ble_eq_true rfl, Nat.le_of_ble_eq_true rfl⟩) hP hD hK hS hA [1] [0, 2] rfl rfl (by decide) (by decide) (fun r_1 u H locs w_2 hK hP hD hS => ?_)
  have hK : va_K (dC, dI) cls [(cB, .byte)] s := hK
  have hP : va_P (dC, dI) cls [(q, .inr (11, fs)), (bk, .inl (cB, 25600, .inl (fun _ => 0))), (d, .inr (2, gd))] H := hP
  have hD : va_D A [(q, .inr (11, fs)), (bk, .inl (cB, 25600, .inl (fun _ => 0))), (d, .inr (2, gd))] := hD
  obtain rfl : r_1 = 1 := w_2
  refine lv_if_ne (tgt := 23) hx hb dX11_octet_9 (by decide) (fun _ => ?_) (fun c0 => absurd c0 (by decide))
  refine lv_aload_n hx hb dX11_octet_23 rfl (lv_at hl 0 rfl) ?_
  refine va_get (D := (dC, dI)) (ci := 11) (v := .ref d) (C := RX11) (T := TX11) (N := 18) hx hb ht uX11 hown hK hP 0 rfl rfl 17 (by decide) (ht _ k_4_108) (fun _ h9 => h9) K17_fs dX11_octet_24 ?_
  refine va_get (D := (dC, dI)) (ci := 2) (v := .ref bk) (C := RX2) (T := TX2) (N := 7) hx hb ht uX2 hown hK hP 2 rfl rfl 0 (by decide) (ht _ k_4_63) (fun _ h9 => h9) K0_gd dX11_octet_27 ?_
  refine lv_iload_n hx hb dX11_octet_30 rfl (lv_at hl 1 rfl) ?_
  refine lv_iload_n hx hb dX11_octet_31 rfl (lv_at hl 2 rfl) ?_
  refine ca_i (wr := [(q, .inr (11, fs)), (bk, .inl (cB, 25600, .inl (fun _ => 0))), (d, .inr (2, gd))]) (va_runS (As := [.int p0, .int p1]) (rest := [.ref bk]) ⟨hx, hb, hml, hown, ht⟩ (m2_at l dC dI H.size p0 p1  ) (cwS2 2 ht (gdI k_9_45) rfl rfl rfl (ht _ k_1_16) (ht _ k_9_221) (ht _ k_9_44) (by decide +kernel) ⟨Nat.le_of_ble_eq_true rfl, Nat.le_of_ble_eq_true rfl⟩) ⟨pcw_blind, pcw_at hP hD hK [] [] (by decide) rfl rfl rfl⟩ rfl rfl hl.1 rfl (lv_room (Nat.le_of_ble_eq_true rfl)) dX11_octet_32 ⟨Nat.le_of_ble_eq_true rfl, Nat.le_of_ble_eq_true rfl⟩) hP hD hK hS hA [] [0, 1, 2] rfl rfl (by decide) (by decide) (fun r_3 u H locs w_4 hK hP hD hS => ?_)
  have hK : va_K (dC, dI) cls [(cB, .byte)] s := hK
  have hP : va_P (dC, dI) cls [(q, .inr (11, fs)), (bk, .inl (cB, 25600, .inl (fun _ => 0))), (d, .inr (2, gd))] H := hP
  have hD : va_D A [(q, .inr (11, fs)), (bk, .inl (cB, 25600, .inl (fun _ => 0))), (d, .inr (2, gd))] := hD
  refine va_bald hx hb hK hP 1 0 rfl rfl (dk_at hi w_4) dX11_octet_35 ?_
  refine lv_topi (fun x_5 ex_5 => ?_)
  refine lv_sipush (v := 255) hx hb dX11_octet_36 (by decide) ?_
  refine lv_iand hx hb dX11_octet_39 ?_
  refine lv_topi (fun x_6 ex_6 => ?_)
  exact W.iret (v := x_6) hx hb hr (fun t ht9 hW => ⟨⟨x_6, (), rfl, (by rw [ex_6, ex_5]; decide), by rw [ht9]; exact hP.sub [] rfl, va_K.moved hW.alike (hK.sub [] rfl), hD.sub [] (by decide) rfl⟩, hS.F ht9⟩) hS.2.2 dX11_octet_40
theorem bp_b (x : Int32) : x.toInt8.toInt32 &&& 255 = x &&& 255 := by
  apply Int32.toBitVec_inj.mp
  rw [Int32.toBitVec_and, Int32.toBitVec_and, Int8.toBitVec_toInt32, Int32.toBitVec_toInt8]
  apply BitVec.eq_of_getLsbD_eq
  intro i hi
  rw [BitVec.getLsbD_and, BitVec.getLsbD_and]
  have hm : ∀ i < 32, 8 ≤ i → (255 : Int32).toBitVec.getLsbD i = false := by decide
  rcases Nat.lt_or_ge i 8 with z | z
  · rw [BitVec.getLsbD_signExtend, BitVec.getLsbD_signExtend, if_pos z, if_pos hi]
    simp only [z, hi, decide_true, Bool.true_and]
  · rw [hm i hi z]; simp
theorem poke_val (m : Int32) : (((0 : Int32) ^^^ m).toInt8.toInt32) &&& 255 = m &&& 255 := by
  rw [bp_b]
  congr 1
  apply Int32.toBitVec_inj.mp
  simp
set_option maxHeartbeats 4000000 in
set_option maxRecDepth 100000 in
theorem x_poke_ok (l : Launch) (dC : Nat → ClassId) (dI : Nat → Nat → Nat) (sz : Nat) (q : Nat) (fs : List Value) (d : Nat) (gd : List Value) (bk : Nat) (cB : ClassId) (p0 : Int32) (p1 : Int32) (p2 : Int32) (L_fs : fs.length = 18) (K17_fs : fs[17]? = some (.ref d)) (L_gd : gd.length = 7) (K0_gd : gd[0]? = some (.ref bk)) (hi : dkin p0 p1) : Met l yX11_poke (Cond.code yX11_poke cX11_poke 5 (some .int) :: tb) ({ frames := 1, cells := 0, slots := 0, locals := 22 }) (pcw [.ref q, .int p0, .int p1, .int p2] (dC, dI) [(q, .inr (11, fs)), (d, .inr (2, gd)), (bk, .inl (cB, 25600, .inl (fun _ => 0)))] [(cB, .byte)] sz) (va_Qi (fun (r : Int32) => (fun (_ : Unit) => r = p2 &&& 255)) (bw (dC, dI) (va_A [(q, .inr (11, fs)), (d, .inr (2, gd)), (bk, .inl (cB, 25600, .inl (fun _ => 0)))] sz) (fun (_ : Unit) => []) (fun (_ : Unit) => [])) (va_A [(q, .inr (11, fs)), (d, .inr (2, gd)), (bk, .inl (cB, 25600, .inl (fun _ => 0)))] sz)) 0 0 (va_A [(q, .inr (11, fs)), (d, .inr (2, gd)), (bk, .inl (cB, 25600, .inl (fun _ => 0)))] sz) := by
  refine Met.ofW (cc := cX11_poke) (maxL := 5) (ret := (some .int)) (by decide) rfl ?_
  intro p e s m args below meth c s₁ B hml hv
  obtain ⟨rfl, hsz, hP, hK, hD0⟩ := hv
  have hx := B.exec
  have hb := B.bytes
  have hr := B.returns
  have hts := atoms_spec (ws := Cond.code yX11_poke cX11_poke 5 (some .int) :: tb) B.pre
  have ht : ∀ w ∈ tb, w.before _ s = true := fun w h => hts w (List.mem_cons_of_mem _ h)
  have hown : s.vm.findClass RX11 = some m.cls := findClass_of_methodNamed B.named
  have hlocks := B.notSynchronized
  subst hsz
  have hD := hD0.self (sz := s.heap.size)
  generalize hAe : va_A [(q, .inr (11, fs)), (d, .inr (2, gd)), (bk, .inl (cB, 25600, .inl (fun _ => 0)))] s.heap.size = A at hD ⊢
  have hA : ∀ q : Nat, s.heap.size ≤ q → A q := fun q h => by rw [← hAe]; exact Or.inr h
  have hS : va_S A s.heap s.heap [] := va_S.rf
  have hl := lv_entry ([.ref q, .int p0, .int p1, .int p2]) (n := 5) (Nat.le_of_ble_eq_true rfl)
  rw [lg_entry_eq]
  generalize (lg_sl ([.ref q, .int p0, .int p1, .int p2]) ++ List.replicate (5 - (lg_sl ([.ref q, .int p0, .int p1, .int p2])).length) Slot.unset).toArray = ls at hl ⊢
  have hl : lv_has ls 5 [(0, .ref q), (1, .int p0), (2, .int p1), (3, .int p2)] := hl
  have hP : va_P (dC, dI) cls [(q, .inr (11, fs)), (d, .inr (2, gd)), (bk, .inl (cB, 25600, .inl (fun _ => 0)))] s.heap := hP
  refine lv_aload_n hx hb dX11_poke_0 rfl (lv_at hl 0 rfl) ?_
  refine va_get (D := (dC, dI)) (ci := 11) (v := .ref d) (C := RX11) (T := TX11) (N := 18) hx hb ht uX11 hown hK hP 0 rfl rfl 17 (by decide) (ht _ k_4_108) (fun _ h9 => h9) K17_fs dX11_poke_1 ?_
  refine lv_iload_n hx hb dX11_poke_4 rfl (lv_at hl 1 rfl) ?_
  refine lv_iload_n hx hb dX11_poke_5 rfl (lv_at hl 2 rfl) ?_
  refine ca_i (wr := [(q, .inr (11, fs)), (bk, .inl (cB, 25600, .inl (fun _ => 0)))]) (va_runV (As := [.int p0, .int p1]) (rest := []) ⟨hx, hb, hml, hown, ht⟩ (m2_has_y l dC dI s.heap.size d gd p0 p1 L_gd (by assumption)) (cwV 2 ht (gdV k_9_204 k_9_201 k_9_202 k_9_203 k_1_16) rfl rfl rfl (by decide +kernel) ⟨Nat.le_of_ble_eq_true rfl, Nat.le_of_ble_eq_true rfl⟩) ⟨pcw_blind, va_recv hK hP (ci := 2) (q0 := 1) rfl rfl, pcw_at hP hD hK [1] [] (by decide) rfl rfl rfl⟩ rfl rfl hl.1 rfl (lv_room (Nat.le_of_ble_eq_true rfl)) dX11_poke_6 ⟨Nat.le_of_ble_eq_true rfl, Nat.le_of_ble_eq_true rfl⟩) hP hD hK hS hA [1] [0, 2] rfl rfl (by decide) (by decide) (fun r_1 u H locs w_2 hK hP hD hS => ?_)
  have hK : va_K (dC, dI) cls [(cB, .byte)] s := hK
  have hP : va_P (dC, dI) cls [(q, .inr (11, fs)), (bk, .inl (cB, 25600, .inl (fun _ => 0))), (d, .inr (2, gd))] H := hP
  have hD : va_D A [(q, .inr (11, fs)), (bk, .inl (cB, 25600, .inl (fun _ => 0))), (d, .inr (2, gd))] := hD
  obtain rfl : r_1 = 1 := w_2
  refine lv_if_ne (tgt := 23) hx hb dX11_poke_9 (by decide) (fun _ => ?_) (fun c0 => absurd c0 (by decide))
  refine lv_iload_n hx hb dX11_poke_23 rfl (lv_at hl 1 rfl) ?_
  refine lv_iload_n hx hb dX11_poke_24 rfl (lv_at hl 2 rfl) ?_
  refine ca_i (wr := [(q, .inr (11, fs)), (bk, .inl (cB, 25600, .inl (fun _ => 0))), (d, .inr (2, gd))]) (va_runS (As := [.int p0, .int p1]) (rest := []) ⟨hx, hb, hml, hown, ht⟩ (m2_at l dC dI H.size p0 p1  ) (cwS2 2 ht (gdI k_9_45) rfl rfl rfl (ht _ k_1_16) (ht _ k_9_221) (ht _ k_9_44) (by decide +kernel) ⟨Nat.le_of_ble_eq_true rfl, Nat.le_of_ble_eq_true rfl⟩) ⟨pcw_blind, pcw_at hP hD hK [] [] (by decide) rfl rfl rfl⟩ rfl rfl hl.1 rfl (lv_room (Nat.le_of_ble_eq_true rfl)) dX11_poke_25 ⟨Nat.le_of_ble_eq_true rfl, Nat.le_of_ble_eq_true rfl⟩) hP hD hK hS hA [] [0, 1, 2] rfl rfl (by decide) (by decide) (fun r_3 u H locs w_4 hK hP hD hS => ?_)
  have hK : va_K (dC, dI) cls [(cB, .byte)] s := hK
  have hP : va_P (dC, dI) cls [(q, .inr (11, fs)), (bk, .inl (cB, 25600, .inl (fun _ => 0))), (d, .inr (2, gd))] H := hP
  have hD : va_D A [(q, .inr (11, fs)), (bk, .inl (cB, 25600, .inl (fun _ => 0))), (d, .inr (2, gd))] := hD
  refine lv_istore (lv' := [(4, .int r_3), (0, .ref q), (1, .int p0), (2, .int p1), (3, .int p2)]) hx hb dX11_poke_28 hl (by decide) rfl (fun ls hl => ?_)
  refine lv_aload_n hx hb dX11_poke_30 rfl (lv_at hl 1 rfl) ?_
  refine va_get (D := (dC, dI)) (ci := 11) (v := .ref d) (C := RX11) (T := TX11) (N := 18) hx hb ht uX11 hown hK hP 0 rfl rfl 17 (by decide) (ht _ k_4_108) (fun _ h9 => h9) K17_fs dX11_poke_31 ?_
  refine va_get (D := (dC, dI)) (ci := 2) (v := .ref bk) (C := RX2) (T := TX2) (N := 7) hx hb ht uX2 hown hK hP 2 rfl rfl 0 (by decide) (ht _ k_4_63) (fun _ h9 => h9) K0_gd dX11_poke_34 ?_
  refine lv_iload hx hb dX11_poke_37 (lv_at hl 0 rfl) ?_
  refine lv_aload_n hx hb dX11_poke_39 rfl (lv_at hl 1 rfl) ?_
  refine va_get (D := (dC, dI)) (ci := 11) (v := .ref d) (C := RX11) (T := TX11) (N := 18) hx hb ht uX11 hown hK hP 0 rfl rfl 17 (by decide) (ht _ k_4_108) (fun _ h9 => h9) K17_fs dX11_poke_40 ?_
  refine va_get (D := (dC, dI)) (ci := 2) (v := .ref bk) (C := RX2) (T := TX2) (N := 7) hx hb ht uX2 hown hK hP 2 rfl rfl 0 (by decide) (ht _ k_4_63) (fun _ h9 => h9) K0_gd dX11_poke_43 ?_
  refine lv_iload hx hb dX11_poke_46 (lv_at hl 0 rfl) ?_
  refine va_bald hx hb hK hP 1 0 rfl rfl (dk_at hi w_4) dX11_poke_48 ?_
  refine lv_topi (fun x_5 ex_5 => ?_)
  refine lv_iload_n hx hb dX11_poke_49 rfl (lv_at hl 4 rfl) ?_
  refine lv_ixor hx hb dX11_poke_50 ?_
  refine lv_topi (fun x_6 ex_6 => ?_)
  refine lv_i2b hx hb dX11_poke_51 rfl ?_
  refine lv_topi (fun x_7 ex_7 => ?_)
  refine va_bast (i := r_3) (x := x_7) hx hb hK hP hD hS 1 0 rfl rfl (dk_at hi w_4) dX11_poke_52 (fun H locs hP hD hS => ?_)
  obtain ⟨f_8, ef_8⟩ : ∃ g : Nat → Int32, g = upd (fun _ => 0) r_3.toNatClampNeg (vp_nar .byte x_7) := ⟨_, rfl⟩
  rw [← ef_8] at hP hD
  have hP : va_P (dC, dI) cls [(q, .inr (11, fs)), (bk, .inl (cB, 25600, .inl f_8)), (d, .inr (2, gd))] H := hP
  have hD : va_D A [(q, .inr (11, fs)), (bk, .inl (cB, 25600, .inl f_8)), (d, .inr (2, gd))] := hD
  refine lv_aload_n hx hb dX11_poke_53 rfl (lv_at hl 1 rfl) ?_
  refine va_get (D := (dC, dI)) (ci := 11) (v := .ref d) (C := RX11) (T := TX11) (N := 18) hx hb ht uX11 hown hK hP 0 rfl rfl 17 (by decide) (ht _ k_4_108) (fun _ h9 => h9) K17_fs dX11_poke_54 ?_
  refine va_get (D := (dC, dI)) (ci := 2) (v := .ref bk) (C := RX2) (T := TX2) (N := 7) hx hb ht uX2 hown hK hP 2 rfl rfl 0 (by decide) (ht _ k_4_63) (fun _ h9 => h9) K0_gd dX11_poke_57 ?_
  refine lv_iload hx hb dX11_poke_60 (lv_at hl 0 rfl) ?_
  refine va_bald hx hb hK hP 1 0 rfl rfl (dk_at hi w_4) dX11_poke_62 ?_
  refine lv_topi (fun x_9 ex_9 => ?_)
  refine lv_sipush (v := 255) hx hb dX11_poke_63 (by decide) ?_
  refine lv_iand hx hb dX11_poke_66 ?_
  refine lv_topi (fun x_10 ex_10 => ?_)
  exact W.iret (v := x_10) hx hb hr (fun t ht9 hW => ⟨⟨x_10, (), rfl, (by rw [ex_10, ex_9, ef_8, pk_us, ex_7, pk_vb, ex_6, ex_5]; exact poke_val p2), by rw [ht9]; exact hP.sub [] rfl, va_K.moved hW.alike (hK.sub [] rfl), hD.sub [] (by decide) rfl⟩, hS.F ht9⟩) hS.2.2 dX11_poke_67
set_option maxHeartbeats 4000000 in
set_option maxRecDepth 100000 in
theorem x_octet_no (l : Launch) (dC : Nat → ClassId) (dI : Nat → Nat → Nat) (sz : Nat) (q : Nat) (fs : List Value) (d : Nat) (gd : List Value) (sa : Nat) (p0 : Int32) (p1 : Int32) (L_fs : fs.length = 18) (K17_fs : fs[17]? = some (.ref d)) (L_gd : gd.length = 7) (hn : ¬ dkin p0 p1) (hlt : l.stackTraces = false) : vx_Met l yX11_octet (Cond.code yX11_octet cX11_octet 3 (some .int) :: tb) ({ frames := 8, cells := 1, slots := 6, locals := 82 }) (pcx [.inr (.inl ("FinderHouse", 534, "no such byte on the disk", sa)), .inr (.inr (.inr (.inr (.inl ("java/lang/Throwable", "UNASSIGNED_STACK", "[Ljava/lang/StackTraceElement;"))))), .inr (.inr (.inr (.inr (.inl ("java/lang/Throwable", "SUPPRESSED_SENTINEL", "Ljava/util/List;"))))), .inr (.inr (.inr (.inr (.inr (.inr ())))))] [.ref q, .int p0, .int p1] (dC, dI) [(q, .inr (11, fs)), (d, .inr (2, gd))] [] sz) (va_Qi (fun (r : Int32) => (fun (_ : Unit) => False)) (bw (dC, dI) (va_A [(q, .inr (11, fs)), (d, .inr (2, gd))] sz) (fun (_ : Unit) => []) (fun (_ : Unit) => [])) (va_A [(q, .inr (11, fs)), (d, .inr (2, gd))] sz)) (vx_X (fun _ : Unit => True) (fun E9 _ _ => E9 = "java/lang/IndexOutOfBoundsException") (va_A [(q, .inr (11, fs)), (d, .inr (2, gd))] sz)) 1 6 (va_A [(q, .inr (11, fs)), (d, .inr (2, gd))] sz) := by
  refine vx_ofW (cc := cX11_octet) (maxL := 3) (ret := (some .int)) (by decide) rfl ?_
  intro p e s m args below meth c s₁ B hml htab hv
  obtain ⟨rfl, hsz, hP, hK, hD0, hE⟩ := hv
  have hx := B.exec
  have hb := B.bytes
  have hr := B.returns
  have hts := atoms_spec (ws := Cond.code yX11_octet cX11_octet 3 (some .int) :: tb) B.pre
  have ht : ∀ w ∈ tb, w.before _ s = true := fun w h => hts w (List.mem_cons_of_mem _ h)
  have hown : s.vm.findClass RX11 = some m.cls := findClass_of_methodNamed B.named
  have hlocks := B.notSynchronized
  subst hsz
  have hD := hD0.self (sz := s.heap.size)
  generalize hAe : va_A [(q, .inr (11, fs)), (d, .inr (2, gd))] s.heap.size = A at hD hE ⊢
  have hA : ∀ q : Nat, s.heap.size ≤ q → A q := fun q h => by rw [← hAe]; exact Or.inr h
  have hS : va_S A s.heap s.heap [] := va_S.rf
  have hl := lv_entry ([.ref q, .int p0, .int p1]) (n := 3) (Nat.le_of_ble_eq_true rfl)
  rw [lg_entry_eq]
  generalize (lg_sl ([.ref q, .int p0, .int p1]) ++ List.replicate (3 - (lg_sl ([.ref q, .int p0, .int p1])).length) Slot.unset).toArray = ls at hl ⊢
  have hl : lv_has ls 3 [(0, .ref q), (1, .int p0), (2, .int p1)] := hl
  have hP : va_P (dC, dI) cls [(q, .inr (11, fs)), (d, .inr (2, gd))] s.heap := hP
  refine lv_aload_n hx hb dX11_octet_0 rfl (lv_at hl 0 rfl) ?_
  refine va_get (D := (dC, dI)) (ci := 11) (v := .ref d) (C := RX11) (T := TX11) (N := 18) hx hb ht uX11 hown hK hP 0 rfl rfl 17 (by decide) (ht _ k_4_108) (fun _ h9 => h9) K17_fs dX11_octet_1 ?_
  refine lv_iload_n hx hb dX11_octet_4 rfl (lv_at hl 1 rfl) ?_
  refine lv_iload_n hx hb dX11_octet_5 rfl (lv_at hl 2 rfl) ?_
  refine ca_i (wr := [(q, .inr (11, fs))]) (va_runV (As := [.int p0, .int p1]) (rest := []) ⟨hx, hb, hml, hown, ht⟩ (m2_has_n l dC dI s.heap.size d gd p0 p1 L_gd (by assumption)) (cwV 2 ht (gdV k_9_204 k_9_201 k_9_202 k_9_203 k_1_16) rfl rfl rfl (by decide +kernel) ⟨Nat.le_of_ble_eq_true rfl, Nat.le_of_ble_eq_true rfl⟩) ⟨pcw_blind, va_recv hK hP (ci := 2) (q0 := 1) rfl rfl, pcw_at hP hD hK [1] [] (by decide) rfl rfl rfl⟩ rfl rfl hl.1 rfl (lv_room (Nat.le_of_ble_eq_true rfl)) dX11_octet_6 ⟨Nat.le_of_ble_eq_true rfl, Nat.le_of_ble_eq_true rfl⟩) hP hD hK hS hA [1] [0] rfl rfl (by decide) (by decide) (fun r_1 u H locs w_2 hK hP hD hS => ?_)
  have hK : va_K (dC, dI) cls [] s := hK
  have hP : va_P (dC, dI) cls [(q, .inr (11, fs)), (d, .inr (2, gd))] H := hP
  have hD : va_D A [(q, .inr (11, fs)), (d, .inr (2, gd))] := hD
  obtain rfl : r_1 = 0 := w_2
  refine lv_if_ne (tgt := 23) hx hb dX11_octet_9 (by decide) (fun c0 => absurd c0 (by decide)) (fun _ => ?_)
  exact vx_throwSW (own := RX11) (cls := "java/lang/IndexOutOfBoundsException") (text := "no such byte on the disk") (names := ["java/lang/RuntimeException", "java/lang/Exception"]) (ik := 532) (is := 534) (ic := 536) (sa := sa) (A := A) hx hb hlt hown (by decide) (by decide) (ht _ k_9_205) (ht _ k_1_29) (xf_r hE 0 rfl) (tn_all at_X11_octet_536 (by decide +kernel) ht (xf_n hE 3 rfl)) (by decide +kernel) (xf_q hE 1 rfl) (xf_q hE 2 rfl) hS (hl.1.trans hml.symm) dX11_octet_12 dX11_octet_15 dX11_octet_16 dX11_octet_19 dX11_octet_22 (fun x hx9 => (htab x hx9).elim) (Nat.le_of_ble_eq_true rfl) (Nat.le_of_ble_eq_true rfl) (Nat.le_of_ble_eq_true rfl) (Nat.le_of_ble_eq_true rfl) hlocks (fun t hvm hz hk => ⟨(), trivial, rfl, ⟨Nat.le_trans hS.1 hz, fun q h1 h2 => (hk q (Nat.lt_of_lt_of_le h1 hS.1)).trans (hS.2.1 q h1 h2)⟩⟩) hS.2.2 (Nat.le_of_ble_eq_true rfl) (Nat.le_of_ble_eq_true rfl)
set_option maxHeartbeats 4000000 in
set_option maxRecDepth 100000 in
theorem x_poke_no (l : Launch) (dC : Nat → ClassId) (dI : Nat → Nat → Nat) (sz : Nat) (q : Nat) (fs : List Value) (d : Nat) (gd : List Value) (sa : Nat) (p0 : Int32) (p1 : Int32) (p2 : Int32) (L_fs : fs.length = 18) (K17_fs : fs[17]? = some (.ref d)) (L_gd : gd.length = 7) (hn : ¬ dkin p0 p1) (hlt : l.stackTraces = false) : vx_Met l yX11_poke (Cond.code yX11_poke cX11_poke 5 (some .int) :: tb) ({ frames := 8, cells := 1, slots := 6, locals := 82 }) (pcx [.inr (.inl ("FinderHouse", 534, "no such byte on the disk", sa)), .inr (.inr (.inr (.inr (.inl ("java/lang/Throwable", "UNASSIGNED_STACK", "[Ljava/lang/StackTraceElement;"))))), .inr (.inr (.inr (.inr (.inl ("java/lang/Throwable", "SUPPRESSED_SENTINEL", "Ljava/util/List;"))))), .inr (.inr (.inr (.inr (.inr (.inr ())))))] [.ref q, .int p0, .int p1, .int p2] (dC, dI) [(q, .inr (11, fs)), (d, .inr (2, gd))] [] sz) (va_Qi (fun (r : Int32) => (fun (_ : Unit) => False)) (bw (dC, dI) (va_A [(q, .inr (11, fs)), (d, .inr (2, gd))] sz) (fun (_ : Unit) => []) (fun (_ : Unit) => [])) (va_A [(q, .inr (11, fs)), (d, .inr (2, gd))] sz)) (vx_X (fun _ : Unit => True) (fun E9 _ _ => E9 = "java/lang/IndexOutOfBoundsException") (va_A [(q, .inr (11, fs)), (d, .inr (2, gd))] sz)) 1 6 (va_A [(q, .inr (11, fs)), (d, .inr (2, gd))] sz) := by
  refine vx_ofW (cc := cX11_poke) (maxL := 5) (ret := (some .int)) (by decide) rfl ?_
  intro p e s m args below meth c s₁ B hml htab hv
  obtain ⟨rfl, hsz, hP, hK, hD0, hE⟩ := hv
  have hx := B.exec
  have hb := B.bytes
  have hr := B.returns
  have hts := atoms_spec (ws := Cond.code yX11_poke cX11_poke 5 (some .int) :: tb) B.pre
  have ht : ∀ w ∈ tb, w.before _ s = true := fun w h => hts w (List.mem_cons_of_mem _ h)
  have hown : s.vm.findClass RX11 = some m.cls := findClass_of_methodNamed B.named
  have hlocks := B.notSynchronized
  subst hsz
  have hD := hD0.self (sz := s.heap.size)
  generalize hAe : va_A [(q, .inr (11, fs)), (d, .inr (2, gd))] s.heap.size = A at hD hE ⊢
  have hA : ∀ q : Nat, s.heap.size ≤ q → A q := fun q h => by rw [← hAe]; exact Or.inr h
  have hS : va_S A s.heap s.heap [] := va_S.rf
  have hl := lv_entry ([.ref q, .int p0, .int p1, .int p2]) (n := 5) (Nat.le_of_ble_eq_true rfl)
  rw [lg_entry_eq]
  generalize (lg_sl ([.ref q, .int p0, .int p1, .int p2]) ++ List.replicate (5 - (lg_sl ([.ref q, .int p0, .int p1, .int p2])).length) Slot.unset).toArray = ls at hl ⊢
  have hl : lv_has ls 5 [(0, .ref q), (1, .int p0), (2, .int p1), (3, .int p2)] := hl
  have hP : va_P (dC, dI) cls [(q, .inr (11, fs)), (d, .inr (2, gd))] s.heap := hP
  refine lv_aload_n hx hb dX11_poke_0 rfl (lv_at hl 0 rfl) ?_
  refine va_get (D := (dC, dI)) (ci := 11) (v := .ref d) (C := RX11) (T := TX11) (N := 18) hx hb ht uX11 hown hK hP 0 rfl rfl 17 (by decide) (ht _ k_4_108) (fun _ h9 => h9) K17_fs dX11_poke_1 ?_
  refine lv_iload_n hx hb dX11_poke_4 rfl (lv_at hl 1 rfl) ?_
  refine lv_iload_n hx hb dX11_poke_5 rfl (lv_at hl 2 rfl) ?_
  refine ca_i (wr := [(q, .inr (11, fs))]) (va_runV (As := [.int p0, .int p1]) (rest := []) ⟨hx, hb, hml, hown, ht⟩ (m2_has_n l dC dI s.heap.size d gd p0 p1 L_gd (by assumption)) (cwV 2 ht (gdV k_9_204 k_9_201 k_9_202 k_9_203 k_1_16) rfl rfl rfl (by decide +kernel) ⟨Nat.le_of_ble_eq_true rfl, Nat.le_of_ble_eq_true rfl⟩) ⟨pcw_blind, va_recv hK hP (ci := 2) (q0 := 1) rfl rfl, pcw_at hP hD hK [1] [] (by decide) rfl rfl rfl⟩ rfl rfl hl.1 rfl (lv_room (Nat.le_of_ble_eq_true rfl)) dX11_poke_6 ⟨Nat.le_of_ble_eq_true rfl, Nat.le_of_ble_eq_true rfl⟩) hP hD hK hS hA [1] [0] rfl rfl (by decide) (by decide) (fun r_1 u H locs w_2 hK hP hD hS => ?_)
  have hK : va_K (dC, dI) cls [] s := hK
  have hP : va_P (dC, dI) cls [(q, .inr (11, fs)), (d, .inr (2, gd))] H := hP
  have hD : va_D A [(q, .inr (11, fs)), (d, .inr (2, gd))] := hD
  obtain rfl : r_1 = 0 := w_2
  refine lv_if_ne (tgt := 23) hx hb dX11_poke_9 (by decide) (fun c0 => absurd c0 (by decide)) (fun _ => ?_)
  exact vx_throwSW (own := RX11) (cls := "java/lang/IndexOutOfBoundsException") (text := "no such byte on the disk") (names := ["java/lang/RuntimeException", "java/lang/Exception"]) (ik := 532) (is := 534) (ic := 536) (sa := sa) (A := A) hx hb hlt hown (by decide) (by decide) (ht _ k_9_205) (ht _ k_1_29) (xf_r hE 0 rfl) (tn_all at_X11_poke_536 (by decide +kernel) ht (xf_n hE 3 rfl)) (by decide +kernel) (xf_q hE 1 rfl) (xf_q hE 2 rfl) hS (hl.1.trans hml.symm) dX11_poke_12 dX11_poke_15 dX11_poke_16 dX11_poke_19 dX11_poke_22 (fun x hx9 => (htab x hx9).elim) (Nat.le_of_ble_eq_true rfl) (Nat.le_of_ble_eq_true rfl) (Nat.le_of_ble_eq_true rfl) (Nat.le_of_ble_eq_true rfl) hlocks (fun t hvm hz hk => ⟨(), trivial, rfl, ⟨Nat.le_trans hS.1 hz, fun q h1 h2 => (hk q (Nat.lt_of_lt_of_le h1 hS.1)).trans (hS.2.1 q h1 h2)⟩⟩) hS.2.2 (Nat.le_of_ble_eq_true rfl) (Nat.le_of_ble_eq_true rfl)
