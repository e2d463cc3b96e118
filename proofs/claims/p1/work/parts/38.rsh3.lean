theorem dX15_tellRow_0 : decode cX15_tellRow 0 = .ok (.aload_n 0, 1) := by decide +kernel
theorem dX15_tellRow_1 : decode cX15_tellRow 1 = .ok (.iload_n 1, 1) := by decide +kernel
theorem dX15_tellRow_2 : decode cX15_tellRow 2 = .ok (.putfield 1238, 3) := by decide +kernel
theorem dX15_tellRow_5 : decode cX15_tellRow 5 = .ok (.iload_n 2, 1) := by decide +kernel
theorem dX15_tellRow_6 : decode cX15_tellRow 6 = .ok (.istore 4, 2) := by decide +kernel
theorem dX15_tellRow_8 : decode cX15_tellRow 8 = .ok (.iload_n 1, 1) := by decide +kernel
theorem dX15_tellRow_9 : decode cX15_tellRow 9 = .ok (.iconst 5, 1) := by decide +kernel
theorem dX15_tellRow_10 : decode cX15_tellRow 10 = .ok (.if_icmp .ne 10, 3) := by decide +kernel
theorem dX15_tellRow_20 : decode cX15_tellRow 20 = .ok (.iload_n 1, 1) := by decide +kernel
theorem dX15_tellRow_21 : decode cX15_tellRow 21 = .ok (.iconst 4, 1) := by decide +kernel
theorem k_mmin : Cond.code Lib.Math.min.name Lib.Math.min.code 2 (some .int) ∈ tb := tb7 236 (by decide +kernel) (by decide +kernel)
theorem k_13_25 : Jvm.Cond.methodLink "FinderHouseModel" (319 : Nat) ({ cls := "java/lang/Math", name := "min", desc := "(II)I" } : Jvm.MethodName) ∈ tb := tb13 25 (by decide +kernel) (by decide +kernel)
theorem k_7_235 : Jvm.Cond.static ({ cls := "java/lang/Math", name := "min", desc := "(II)I" } : Jvm.MethodName) ∈ tb := tb7 235 (by decide +kernel) (by decide +kernel)
theorem dX15_tellRow_22 : decode cX15_tellRow 22 = .ok (.invokestatic 319, 3) := by decide +kernel
theorem dX15_tellRow_25 : decode cX15_tellRow 25 = .ok (.iconst 1, 1) := by decide +kernel
theorem dX15_tellRow_26 : decode cX15_tellRow 26 = .ok (.isub, 1) := by decide +kernel
theorem dX15_tellRow_27 : decode cX15_tellRow 27 = .ok (.istore 5, 2) := by decide +kernel
theorem dX15_tellRow_29 : decode cX15_tellRow 29 = .ok (.iload 5, 2) := by decide +kernel
theorem dX15_tellRow_31 : decode cX15_tellRow 31 = .ok (.ifCond .lt 32, 3) := by decide +kernel
theorem dX15_tellRow_63 : decode cX15_tellRow 63 = .ok (.iload_n 1, 1) := by decide +kernel
theorem dX15_tellRow_64 : decode cX15_tellRow 64 = .ok (.ireturn, 1) := by decide +kernel
theorem dX15_tellRow_34 : decode cX15_tellRow 34 = .ok (.aload_n 0, 1) := by decide +kernel
theorem k_11_86 : Jvm.Cond.fieldLink "FinderHouseModel" (286 : Nat) "FinderHouseModel" "step" "[I" ∈ tb := tb11 86 (by decide +kernel) (by decide +kernel)
theorem dX15_tellRow_35 : decode cX15_tellRow 35 = .ok (.getfield 286, 3) := by decide +kernel
theorem dX15_tellRow_38 : decode cX15_tellRow 38 = .ok (.iload 5, 2) := by decide +kernel
theorem dX15_tellRow_40 : decode cX15_tellRow 40 = .ok (.aload_n 0, 1) := by decide +kernel
theorem dX15_tellRow_41 : decode cX15_tellRow 41 = .ok (.getfield 1191, 3) := by decide +kernel
theorem dX15_tellRow_44 : decode cX15_tellRow 44 = .ok (.iload 4, 2) := by decide +kernel
theorem dX15_tellRow_46 : decode cX15_tellRow 46 = .ok (.baload, 1) := by decide +kernel
theorem dX15_tellRow_47 : decode cX15_tellRow 47 = .ok (.iastore, 1) := by decide +kernel
theorem dX15_tellRow_48 : decode cX15_tellRow 48 = .ok (.aload_n 0, 1) := by decide +kernel
theorem dX15_tellRow_49 : decode cX15_tellRow 49 = .ok (.getfield 1188, 3) := by decide +kernel
theorem dX15_tellRow_52 : decode cX15_tellRow 52 = .ok (.iload 4, 2) := by decide +kernel
theorem dX15_tellRow_54 : decode cX15_tellRow 54 = .ok (.iaload, 1) := by decide +kernel
theorem dX15_tellRow_55 : decode cX15_tellRow 55 = .ok (.istore 4, 2) := by decide +kernel
theorem dX15_tellRow_57 : decode cX15_tellRow 57 = .ok (.iinc 5 (-1), 3) := by decide +kernel
theorem dX15_tellRow_60 : decode cX15_tellRow 60 = .ok (.goto (-31), 3) := by decide +kernel
theorem dX15_tellRow_13 : decode cX15_tellRow 13 = .ok (.aload_n 0, 1) := by decide +kernel
theorem dX15_tellRow_14 : decode cX15_tellRow 14 = .ok (.getfield 286, 3) := by decide +kernel
theorem dX15_tellRow_17 : decode cX15_tellRow 17 = .ok (.iconst 4, 1) := by decide +kernel
theorem dX15_tellRow_18 : decode cX15_tellRow 18 = .ok (.iload_n 3, 1) := by decide +kernel
theorem dX15_tellRow_19 : decode cX15_tellRow 19 = .ok (.iastore, 1) := by decide +kernel
theorem dX15_addLast_0 : decode cX15_addLast 0 = .ok (.lload_n 1, 1) := by decide +kernel
theorem dX15_addLast_1 : decode cX15_addLast 1 = .ok (.lconst 0, 1) := by decide +kernel
theorem dX15_addLast_2 : decode cX15_addLast 2 = .ok (.bipush 19, 2) := by decide +kernel
theorem dX15_addLast_4 : decode cX15_addLast 4 = .ok (.invokestatic 1171, 3) := by decide +kernel
theorem dX15_addLast_7 : decode cX15_addLast 7 = .ok (.istore 5, 2) := by decide +kernel
theorem dX15_addLast_9 : decode cX15_addLast 9 = .ok (.aload_n 0, 1) := by decide +kernel
theorem k_11_99 : Jvm.Cond.fieldLink "FinderHouseModel" (1210 : Nat) "FinderHouseModel" "lastMet" "[I" ∈ tb := tb11 99 (by decide +kernel) (by decide +kernel)
theorem dX15_addLast_10 : decode cX15_addLast 10 = .ok (.getfield 1210, 3) := by decide +kernel
theorem dX15_addLast_13 : decode cX15_addLast 13 = .ok (.iload 5, 2) := by decide +kernel
theorem dX15_addLast_15 : decode cX15_addLast 15 = .ok (.iaload, 1) := by decide +kernel
theorem dX15_addLast_16 : decode cX15_addLast 16 = .ok (.ifCond .le 36, 3) := by decide +kernel
theorem dX15_addLast_52 : decode cX15_addLast 52 = .ok (.aload_n 0, 1) := by decide +kernel
theorem k_11_100 : Jvm.Cond.fieldLink "FinderHouseModel" (1217 : Nat) "FinderHouseModel" "lastMany" "I" ∈ tb := tb11 100 (by decide +kernel) (by decide +kernel)
theorem dX15_addLast_53 : decode cX15_addLast 53 = .ok (.getfield 1217, 3) := by decide +kernel
theorem dX15_addLast_56 : decode cX15_addLast 56 = .ok (.ldc_w 1199, 3) := by decide +kernel
theorem dX15_addLast_59 : decode cX15_addLast 59 = .ok (.if_icmp .ne 9, 3) := by decide +kernel
theorem dX15_addLast_68 : decode cX15_addLast 68 = .ok (.aload_n 0, 1) := by decide +kernel
theorem k_11_97 : Jvm.Cond.fieldLink "FinderHouseModel" (1213 : Nat) "FinderHouseModel" "lastA" "[J" ∈ tb := tb11 97 (by decide +kernel) (by decide +kernel)
theorem dX15_addLast_69 : decode cX15_addLast 69 = .ok (.getfield 1213, 3) := by decide +kernel
theorem dX15_addLast_72 : decode cX15_addLast 72 = .ok (.aload_n 0, 1) := by decide +kernel
theorem dX15_addLast_73 : decode cX15_addLast 73 = .ok (.getfield 1217, 3) := by decide +kernel
theorem dX15_addLast_76 : decode cX15_addLast 76 = .ok (.lload_n 1, 1) := by decide +kernel
theorem dX15_addLast_77 : decode cX15_addLast 77 = .ok (.lastore, 1) := by decide +kernel
theorem dX15_addLast_78 : decode cX15_addLast 78 = .ok (.aload_n 0, 1) := by decide +kernel
theorem k_11_98 : Jvm.Cond.fieldLink "FinderHouseModel" (1223 : Nat) "FinderHouseModel" "lastBy" "[I" ∈ tb := tb11 98 (by decide +kernel) (by decide +kernel)
theorem dX15_addLast_79 : decode cX15_addLast 79 = .ok (.getfield 1223, 3) := by decide +kernel
theorem dX15_addLast_82 : decode cX15_addLast 82 = .ok (.aload_n 0, 1) := by decide +kernel
theorem dX15_addLast_83 : decode cX15_addLast 83 = .ok (.getfield 1217, 3) := by decide +kernel
theorem dX15_addLast_86 : decode cX15_addLast 86 = .ok (.bipush 32, 2) := by decide +kernel
theorem dX15_addLast_88 : decode cX15_addLast 88 = .ok (.iload_n 3, 1) := by decide +kernel
theorem dX15_addLast_89 : decode cX15_addLast 89 = .ok (.imul, 1) := by decide +kernel
theorem dX15_addLast_90 : decode cX15_addLast 90 = .ok (.iload 4, 2) := by decide +kernel
theorem dX15_addLast_92 : decode cX15_addLast 92 = .ok (.iadd, 1) := by decide +kernel
theorem dX15_addLast_93 : decode cX15_addLast 93 = .ok (.iastore, 1) := by decide +kernel
theorem dX15_addLast_94 : decode cX15_addLast 94 = .ok (.aload_n 0, 1) := by decide +kernel
theorem dX15_addLast_95 : decode cX15_addLast 95 = .ok (.dup, 1) := by decide +kernel
theorem dX15_addLast_96 : decode cX15_addLast 96 = .ok (.getfield 1217, 3) := by decide +kernel
theorem dX15_addLast_99 : decode cX15_addLast 99 = .ok (.iconst 1, 1) := by decide +kernel
theorem dX15_addLast_100 : decode cX15_addLast 100 = .ok (.iadd, 1) := by decide +kernel
theorem dX15_addLast_101 : decode cX15_addLast 101 = .ok (.putfield 1217, 3) := by decide +kernel
theorem dX15_addLast_104 : decode cX15_addLast 104 = .ok (.aload_n 0, 1) := by decide +kernel
theorem dX15_addLast_105 : decode cX15_addLast 105 = .ok (.getfield 1210, 3) := by decide +kernel
theorem dX15_addLast_108 : decode cX15_addLast 108 = .ok (.iload 5, 2) := by decide +kernel
theorem dX15_addLast_110 : decode cX15_addLast 110 = .ok (.aload_n 0, 1) := by decide +kernel
theorem dX15_addLast_111 : decode cX15_addLast 111 = .ok (.getfield 1217, 3) := by decide +kernel
theorem dX15_addLast_114 : decode cX15_addLast 114 = .ok (.iastore, 1) := by decide +kernel
theorem dX15_addLast_115 : decode cX15_addLast 115 = .ok (.return_, 1) := by decide +kernel
theorem dX15_addLast_62 : decode cX15_addLast 62 = .ok (.aload_n 0, 1) := by decide +kernel
theorem dX15_addLast_63 : decode cX15_addLast 63 = .ok (.iconst 0, 1) := by decide +kernel
theorem k_11_101 : Jvm.Cond.fieldLink "FinderHouseModel" (1220 : Nat) "FinderHouseModel" "areAllLast" "Z" ∈ tb := tb11 101 (by decide +kernel) (by decide +kernel)
theorem dX15_addLast_64 : decode cX15_addLast 64 = .ok (.putfield 1220, 3) := by decide +kernel
theorem dX15_addLast_67 : decode cX15_addLast 67 = .ok (.return_, 1) := by decide +kernel
theorem dX15_addLast_19 : decode cX15_addLast 19 = .ok (.aload_n 0, 1) := by decide +kernel
theorem dX15_addLast_20 : decode cX15_addLast 20 = .ok (.getfield 1213, 3) := by decide +kernel
theorem dX15_addLast_23 : decode cX15_addLast 23 = .ok (.aload_n 0, 1) := by decide +kernel
theorem dX15_addLast_24 : decode cX15_addLast 24 = .ok (.getfield 1210, 3) := by decide +kernel
theorem dX15_addLast_27 : decode cX15_addLast 27 = .ok (.iload 5, 2) := by decide +kernel
theorem dX15_addLast_29 : decode cX15_addLast 29 = .ok (.iaload, 1) := by decide +kernel
theorem dX15_addLast_30 : decode cX15_addLast 30 = .ok (.iconst 1, 1) := by decide +kernel
theorem dX15_addLast_31 : decode cX15_addLast 31 = .ok (.isub, 1) := by decide +kernel
theorem dX15_addLast_32 : decode cX15_addLast 32 = .ok (.laload, 1) := by decide +kernel
theorem dX15_addLast_33 : decode cX15_addLast 33 = .ok (.lload_n 1, 1) := by decide +kernel
theorem dX15_addLast_34 : decode cX15_addLast 34 = .ok (.lcmp, 1) := by decide +kernel
theorem dX15_addLast_35 : decode cX15_addLast 35 = .ok (.ifCond .ne 4, 3) := by decide +kernel
theorem dX15_addLast_39 : decode cX15_addLast 39 = .ok (.iload 5, 2) := by decide +kernel
theorem dX15_addLast_41 : decode cX15_addLast 41 = .ok (.iconst 1, 1) := by decide +kernel
theorem dX15_addLast_42 : decode cX15_addLast 42 = .ok (.iadd, 1) := by decide +kernel
theorem k_16_42 : Jvm.Cond.constant "FinderHouseModel" (1216 : Nat) (524287 : Int32) ∈ tb := tb16 42 (by decide +kernel) (by decide +kernel)
theorem dX15_addLast_43 : decode cX15_addLast 43 = .ok (.ldc_w 1216, 3) := by decide +kernel
theorem dX15_addLast_46 : decode cX15_addLast 46 = .ok (.iand, 1) := by decide +kernel
theorem dX15_addLast_47 : decode cX15_addLast 47 = .ok (.istore 5, 2) := by decide +kernel
theorem dX15_addLast_49 : decode cX15_addLast 49 = .ok (.goto (-40), 3) := by decide +kernel
theorem dX15_addLast_38 : decode cX15_addLast 38 = .ok (.return_, 1) := by decide +kernel
set_option maxHeartbeats 4000000 in
set_option maxRecDepth 100000 in
theorem r_tellRow_0 (l : Launch) (dC : Nat → ClassId) (dI : Nat → Nat → Nat) (sz : Nat) (q : Nat) (fs : List Value) (sf : Nat) (sy : Nat) (se : Nat) (kf : ClassId) (ky : ClassId) (ke : ClassId) (bf : Nat → Int32) (fy : Nat → Int32) (fe : Nat → Int32) (k : Nat) (p3 : Int32) (L : Nat → Nat) (fA : Nat → Int64) (fB : Nat → Int64) (L_fs : fs.length = 163) (K138_fs : fs[138]? = some (.ref se)) (K143_fs : fs[143]? = some (.ref sf)) (K144_fs : fs[144]? = some (.ref sy)) (hV : LV 1 L fA fB bf) (hk1 : L 0 ≤ k) (hk2 : k < L 1) : Met l yX15_tellRow (Cond.code yX15_tellRow cX15_tellRow 6 (some .int) :: tb) ({ frames := 1, cells := 0, slots := 0, locals := 13 }) (pcw [.ref q, .int 0, .int (nI k), .int p3] (dC, dI) [(q, .inr (15, fs)), (sf, .inl (kf, 111152, .inl bf)), (sy, .inl (ky, 111152, .inl fy)), (se, .inl (ke, 5, .inl fe))] [(kf, .int), (ky, .byte), (ke, .int)] sz) (va_Qi (fun (r : Int32) => (fun (_ : Unit) => r = 0)) (bw (dC, dI) (va_A [(q, .inr (15, fs)), (sf, .inl (kf, 111152, .inl bf)), (sy, .inl (ky, 111152, .inl fy)), (se, .inl (ke, 5, .inl fe))] sz) (fun (_ : Unit) => []) (fun (_ : Unit) => [])) (va_A [(q, .inr (15, fs)), (sf, .inl (kf, 111152, .inl bf)), (sy, .inl (ky, 111152, .inl fy)), (se, .inl (ke, 5, .inl fe))] sz)) 0 0 (va_A [(q, .inr (15, fs)), (sf, .inl (kf, 111152, .inl bf)), (sy, .inl (ky, 111152, .inl fy)), (se, .inl (ke, 5, .inl fe))] sz) := by
  refine Met.ofW (cc := cX15_tellRow) (maxL := 6) (ret := (some .int)) (by decide) rfl ?_
  intro p e s m args below meth c s₁ B hml hv
  obtain ⟨rfl, hsz, hP, hK, hD0⟩ := hv
  have hx := B.exec
  have hb := B.bytes
  have hr := B.returns
  have hts := atoms_spec (ws := Cond.code yX15_tellRow cX15_tellRow 6 (some .int) :: tb) B.pre
  have ht : ∀ w ∈ tb, w.before _ s = true := fun w h => hts w (List.mem_cons_of_mem _ h)
  have hown : s.vm.findClass RX15 = some m.cls := findClass_of_methodNamed B.named
  have hlocks := B.notSynchronized
  subst hsz
  have hD := hD0.self (sz := s.heap.size)
  generalize hAe : va_A [(q, .inr (15, fs)), (sf, .inl (kf, 111152, .inl bf)), (sy, .inl (ky, 111152, .inl fy)), (se, .inl (ke, 5, .inl fe))] s.heap.size = A at hD ⊢
  have hA : ∀ q : Nat, s.heap.size ≤ q → A q := fun q h => by rw [← hAe]; exact Or.inr h
  have hS : va_S A s.heap s.heap [] := va_S.rf
  have hl := lv_entry ([.ref q, .int 0, .int (nI k), .int p3]) (n := 6) (Nat.le_of_ble_eq_true rfl)
  rw [lg_entry_eq]
  generalize (lg_sl ([.ref q, .int 0, .int (nI k), .int p3]) ++ List.replicate (6 - (lg_sl ([.ref q, .int 0, .int (nI k), .int p3])).length) Slot.unset).toArray = ls at hl ⊢
  have hl : lv_has ls 6 [(0, .ref q), (1, .int 0), (2, .int (nI k)), (3, .int p3)] := hl
  have hP : va_P (dC, dI) cls [(q, .inr (15, fs)), (sf, .inl (kf, 111152, .inl bf)), (sy, .inl (ky, 111152, .inl fy)), (se, .inl (ke, 5, .inl fe))] s.heap := hP
  refine lv_aload_n hx hb dX15_tellRow_0 rfl (lv_at hl 0 rfl) ?_
  refine lv_iload_n hx hb dX15_tellRow_1 rfl (lv_at hl 1 rfl) ?_
  refine va_put (D := (dC, dI)) (ci := 15) (v := .int 0) (ty := .int) (C := RX15) (T := TX15) (N := 163) hx hb ht uX15 tyX15 tkX15 nmX15 hown hK hP hD hS 0 rfl rfl 137 (by decide) (ht _ k_11_85) (fun _ h9 => h9) rfl (by decide +kernel) rfl rfl (by rw [L_fs]; decide) dX15_tellRow_2 (fun H locs hP hD hS => ?_)
  obtain ⟨F_1, eF_1⟩ : ∃ g : List Value, g = fs.set 137 (.int 0) := ⟨_, rfl⟩
  rw [← eF_1] at hP hD
  have K138_F_1 : F_1[138]? = some (.ref se) := by rw [eF_1, List.getElem?_set_ne (by decide)]; exact K138_fs
  have K143_F_1 : F_1[143]? = some (.ref sf) := by rw [eF_1, List.getElem?_set_ne (by decide)]; exact K143_fs
  have K144_F_1 : F_1[144]? = some (.ref sy) := by rw [eF_1, List.getElem?_set_ne (by decide)]; exact K144_fs
  have K137_F_1 : F_1[137]? = some (.int 0) := by rw [eF_1]; exact List.getElem?_set_self (by rw [L_fs]; decide)
  have L_F_1 : F_1.length = 163 := by rw [eF_1, List.length_set]; exact L_fs
  have hP : va_P (dC, dI) cls [(q, .inr (15, F_1)), (sf, .inl (kf, 111152, .inl bf)), (sy, .inl (ky, 111152, .inl fy)), (se, .inl (ke, 5, .inl fe))] H := hP
  have hD : va_D A [(q, .inr (15, F_1)), (sf, .inl (kf, 111152, .inl bf)), (sy, .inl (ky, 111152, .inl fy)), (se, .inl (ke, 5, .inl fe))] := hD
  refine lv_iload_n hx hb dX15_tellRow_5 rfl (lv_at hl 2 rfl) ?_
  refine lv_istore (lv' := [(4, .int (nI k)), (0, .ref q), (1, .int 0), (2, .int (nI k)), (3, .int p3)]) hx hb dX15_tellRow_6 hl (by decide) rfl (fun ls hl => ?_)
  refine lv_iload_n hx hb dX15_tellRow_8 rfl (lv_at hl 2 rfl) ?_
  refine lv_iconst (v := 5) hx hb dX15_tellRow_9 (by decide) ?_
  refine lv_icmp_ne (tgt := 20) hx hb dX15_tellRow_10 (by decide) (fun _ => ?_) (fun c0 => absurd c0 (by decide))
  refine lv_iload_n hx hb dX15_tellRow_20 rfl (lv_at hl 2 rfl) ?_
  refine lv_iconst (v := 4) hx hb dX15_tellRow_21 (by decide) ?_
  refine va_mmin hx hb (hml.trans hl.1.symm) hown (ht _ k_13_25) (ht _ k_7_235) (ht _ k_1_27) (ht _ k_mmin) (Nat.le_of_ble_eq_true rfl) (Nat.le_of_ble_eq_true rfl) (Nat.le_of_ble_eq_true rfl) (Nat.le_of_ble_eq_true rfl) dX15_tellRow_22 ?_
  refine tk_i (y := 0) (by decide) ?_
  refine lv_iconst (v := 1) hx hb dX15_tellRow_25 (by decide) ?_
  refine lv_isub hx hb dX15_tellRow_26 ?_
  refine tk_i (y := (-1)) (by decide) ?_
  refine lv_istore (lv' := [(5, .int (-1)), (4, .int (nI k)), (0, .ref q), (1, .int 0), (2, .int (nI k)), (3, .int p3)]) hx hb dX15_tellRow_27 hl (by decide) rfl (fun ls hl => ?_)
  refine lv_iload hx hb dX15_tellRow_29 (lv_at hl 0 rfl) ?_
  refine lv_if_lt (tgt := 63) hx hb dX15_tellRow_31 (by decide) (fun _ => ?_) (fun c0 => absurd c0 (by decide))
  refine lv_iload_n hx hb dX15_tellRow_63 rfl (lv_at hl 3 rfl) ?_
  exact W.iret (v := 0) hx hb hr (fun t ht9 hW => ⟨⟨0, (), rfl, rfl, by rw [ht9]; exact hP.sub [] rfl, va_K.moved hW.alike (hK.sub [] rfl), hD.sub [] (by decide) rfl⟩, hS.F ht9⟩) hS.2.2 dX15_tellRow_64
set_option maxHeartbeats 4000000 in
set_option maxRecDepth 100000 in
theorem r_tellRow_1 (l : Launch) (dC : Nat → ClassId) (dI : Nat → Nat → Nat) (sz : Nat) (q : Nat) (fs : List Value) (sf : Nat) (sy : Nat) (se : Nat) (kf : ClassId) (ky : ClassId) (ke : ClassId) (bf : Nat → Int32) (fy : Nat → Int32) (fe : Nat → Int32) (k : Nat) (p3 : Int32) (L : Nat → Nat) (fA : Nat → Int64) (fB : Nat → Int64) (L_fs : fs.length = 163) (K138_fs : fs[138]? = some (.ref se)) (K143_fs : fs[143]? = some (.ref sf)) (K144_fs : fs[144]? = some (.ref sy)) (hV : LV 2 L fA fB bf) (hk1 : L 1 ≤ k) (hk2 : k < L 2) : Met l yX15_tellRow (Cond.code yX15_tellRow cX15_tellRow 6 (some .int) :: tb) ({ frames := 1, cells := 0, slots := 0, locals := 13 }) (pcw [.ref q, .int 1, .int (nI k), .int p3] (dC, dI) [(q, .inr (15, fs)), (sf, .inl (kf, 111152, .inl bf)), (sy, .inl (ky, 111152, .inl fy)), (se, .inl (ke, 5, .inl fe))] [(kf, .int), (ky, .byte), (ke, .int)] sz) (va_Qi (fun (r : Int32) => (fun (_ : Unit) => r = 1)) (bw (dC, dI) (va_A [(q, .inr (15, fs)), (sf, .inl (kf, 111152, .inl bf)), (sy, .inl (ky, 111152, .inl fy)), (se, .inl (ke, 5, .inl fe))] sz) (fun (_ : Unit) => []) (fun (_ : Unit) => [])) (va_A [(q, .inr (15, fs)), (sf, .inl (kf, 111152, .inl bf)), (sy, .inl (ky, 111152, .inl fy)), (se, .inl (ke, 5, .inl fe))] sz)) 0 0 (va_A [(q, .inr (15, fs)), (sf, .inl (kf, 111152, .inl bf)), (sy, .inl (ky, 111152, .inl fy)), (se, .inl (ke, 5, .inl fe))] sz) := by
  refine Met.ofW (cc := cX15_tellRow) (maxL := 6) (ret := (some .int)) (by decide) rfl ?_
  intro p e s m args below meth c s₁ B hml hv
  obtain ⟨rfl, hsz, hP, hK, hD0⟩ := hv
  have hx := B.exec
  have hb := B.bytes
  have hr := B.returns
  have hts := atoms_spec (ws := Cond.code yX15_tellRow cX15_tellRow 6 (some .int) :: tb) B.pre
  have ht : ∀ w ∈ tb, w.before _ s = true := fun w h => hts w (List.mem_cons_of_mem _ h)
  have hown : s.vm.findClass RX15 = some m.cls := findClass_of_methodNamed B.named
  have hlocks := B.notSynchronized
  subst hsz
  have hD := hD0.self (sz := s.heap.size)
  generalize hAe : va_A [(q, .inr (15, fs)), (sf, .inl (kf, 111152, .inl bf)), (sy, .inl (ky, 111152, .inl fy)), (se, .inl (ke, 5, .inl fe))] s.heap.size = A at hD ⊢
  have hA : ∀ q : Nat, s.heap.size ≤ q → A q := fun q h => by rw [← hAe]; exact Or.inr h
  have hS : va_S A s.heap s.heap [] := va_S.rf
  have hl := lv_entry ([.ref q, .int 1, .int (nI k), .int p3]) (n := 6) (Nat.le_of_ble_eq_true rfl)
  rw [lg_entry_eq]
  generalize (lg_sl ([.ref q, .int 1, .int (nI k), .int p3]) ++ List.replicate (6 - (lg_sl ([.ref q, .int 1, .int (nI k), .int p3])).length) Slot.unset).toArray = ls at hl ⊢
  have hl : lv_has ls 6 [(0, .ref q), (1, .int 1), (2, .int (nI k)), (3, .int p3)] := hl
  have hP : va_P (dC, dI) cls [(q, .inr (15, fs)), (sf, .inl (kf, 111152, .inl bf)), (sy, .inl (ky, 111152, .inl fy)), (se, .inl (ke, 5, .inl fe))] s.heap := hP
  refine lv_aload_n hx hb dX15_tellRow_0 rfl (lv_at hl 0 rfl) ?_
  refine lv_iload_n hx hb dX15_tellRow_1 rfl (lv_at hl 1 rfl) ?_
  refine va_put (D := (dC, dI)) (ci := 15) (v := .int 1) (ty := .int) (C := RX15) (T := TX15) (N := 163) hx hb ht uX15 tyX15 tkX15 nmX15 hown hK hP hD hS 0 rfl rfl 137 (by decide) (ht _ k_11_85) (fun _ h9 => h9) rfl (by decide +kernel) rfl rfl (by rw [L_fs]; decide) dX15_tellRow_2 (fun H locs hP hD hS => ?_)
  obtain ⟨F_1, eF_1⟩ : ∃ g : List Value, g = fs.set 137 (.int 1) := ⟨_, rfl⟩
  rw [← eF_1] at hP hD
  have K138_F_1 : F_1[138]? = some (.ref se) := by rw [eF_1, List.getElem?_set_ne (by decide)]; exact K138_fs
  have K143_F_1 : F_1[143]? = some (.ref sf) := by rw [eF_1, List.getElem?_set_ne (by decide)]; exact K143_fs
  have K144_F_1 : F_1[144]? = some (.ref sy) := by rw [eF_1, List.getElem?_set_ne (by decide)]; exact K144_fs
  have K137_F_1 : F_1[137]? = some (.int 1) := by rw [eF_1]; exact List.getElem?_set_self (by rw [L_fs]; decide)
  have L_F_1 : F_1.length = 163 := by rw [eF_1, List.length_set]; exact L_fs
  have hP : va_P (dC, dI) cls [(q, .inr (15, F_1)), (sf, .inl (kf, 111152, .inl bf)), (sy, .inl (ky, 111152, .inl fy)), (se, .inl (ke, 5, .inl fe))] H := hP
  have hD : va_D A [(q, .inr (15, F_1)), (sf, .inl (kf, 111152, .inl bf)), (sy, .inl (ky, 111152, .inl fy)), (se, .inl (ke, 5, .inl fe))] := hD
  refine lv_iload_n hx hb dX15_tellRow_5 rfl (lv_at hl 2 rfl) ?_
  refine lv_istore (lv' := [(4, .int (nI k)), (0, .ref q), (1, .int 1), (2, .int (nI k)), (3, .int p3)]) hx hb dX15_tellRow_6 hl (by decide) rfl (fun ls hl => ?_)
  refine lv_iload_n hx hb dX15_tellRow_8 rfl (lv_at hl 2 rfl) ?_
  refine lv_iconst (v := 5) hx hb dX15_tellRow_9 (by decide) ?_
  refine lv_icmp_ne (tgt := 20) hx hb dX15_tellRow_10 (by decide) (fun _ => ?_) (fun c0 => absurd c0 (by decide))
  refine lv_iload_n hx hb dX15_tellRow_20 rfl (lv_at hl 2 rfl) ?_
  refine lv_iconst (v := 4) hx hb dX15_tellRow_21 (by decide) ?_
  refine va_mmin hx hb (hml.trans hl.1.symm) hown (ht _ k_13_25) (ht _ k_7_235) (ht _ k_1_27) (ht _ k_mmin) (Nat.le_of_ble_eq_true rfl) (Nat.le_of_ble_eq_true rfl) (Nat.le_of_ble_eq_true rfl) (Nat.le_of_ble_eq_true rfl) dX15_tellRow_22 ?_
  refine tk_i (y := 1) (by decide) ?_
  refine lv_iconst (v := 1) hx hb dX15_tellRow_25 (by decide) ?_
  refine lv_isub hx hb dX15_tellRow_26 ?_
  refine tk_i (y := 0) (by decide) ?_
  refine lv_istore (lv' := [(5, .int 0), (4, .int (nI k)), (0, .ref q), (1, .int 1), (2, .int (nI k)), (3, .int p3)]) hx hb dX15_tellRow_27 hl (by decide) rfl (fun ls hl => ?_)
  refine lv_iload hx hb dX15_tellRow_29 (lv_at hl 0 rfl) ?_
  refine lv_if_lt (tgt := 63) hx hb dX15_tellRow_31 (by decide) (fun c0 => absurd c0 (by decide)) (fun _ => ?_)
  have hg0 : k < 111152 := by have := (LV_big hV (by decide) 2 (by decide)).1; omega
  obtain ⟨bq0, eq0, hq0a, hq0b⟩ : ∃ b, bf k = nI b ∧ L 0 ≤ b ∧ b < L 1 := hV.2.2.2.2 0 k (by decide) hk1 hk2
  refine lv_aload_n hx hb dX15_tellRow_34 rfl (lv_at hl 2 rfl) ?_
  refine va_get (D := (dC, dI)) (ci := 15) (v := .ref se) (C := RX15) (T := TX15) (N := 163) hx hb ht uX15 hown hK hP 0 rfl rfl 138 (by decide) (ht _ k_11_86) (fun _ h9 => h9) K138_F_1 dX15_tellRow_35 ?_
  refine lv_iload hx hb dX15_tellRow_38 (lv_at hl 0 rfl) ?_
  refine lv_aload_n hx hb dX15_tellRow_40 rfl (lv_at hl 2 rfl) ?_
  refine va_get (D := (dC, dI)) (ci := 15) (v := .ref sy) (C := RX15) (T := TX15) (N := 163) hx hb ht uX15 hown hK hP 0 rfl rfl 144 (by decide) (ht _ k_11_92) (fun _ h9 => h9) K144_F_1 dX15_tellRow_41 ?_
  refine lv_iload hx hb dX15_tellRow_44 (lv_at hl 1 rfl) ?_
  refine va_bald hx hb hK hP 2 1 rfl rfl (vp_in_nI (by omega) (by decide)) dX15_tellRow_46 ?_
  refine lv_topi (fun x_2 ex_2 => ?_)
  refine va_iast (i := 0) (x := x_2) hx hb hK hP hD hS 3 2 rfl rfl (by unfold vp_in; decide) dX15_tellRow_47 (fun H locs hP hD hS => ?_)
  obtain ⟨f_3, ef_3⟩ : ∃ g : Nat → Int32, g = upd fe (0 : Int32).toNatClampNeg x_2 := ⟨_, rfl⟩
  rw [← ef_3] at hP hD
  have hP : va_P (dC, dI) cls [(q, .inr (15, F_1)), (sf, .inl (kf, 111152, .inl bf)), (sy, .inl (ky, 111152, .inl fy)), (se, .inl (ke, 5, .inl f_3))] H := hP
  have hD : va_D A [(q, .inr (15, F_1)), (sf, .inl (kf, 111152, .inl bf)), (sy, .inl (ky, 111152, .inl fy)), (se, .inl (ke, 5, .inl f_3))] := hD
  refine lv_aload_n hx hb dX15_tellRow_48 rfl (lv_at hl 2 rfl) ?_
  refine va_get (D := (dC, dI)) (ci := 15) (v := .ref sf) (C := RX15) (T := TX15) (N := 163) hx hb ht uX15 hown hK hP 0 rfl rfl 143 (by decide) (ht _ k_11_91) (fun _ h9 => h9) K143_F_1 dX15_tellRow_49 ?_
  refine lv_iload hx hb dX15_tellRow_52 (lv_at hl 1 rfl) ?_
  refine va_iald hx hb hK hP 1 0 rfl rfl (vp_in_nI (by omega) (by decide)) dX15_tellRow_54 ?_
  refine tk_i (y := (nI bq0)) (by rw [nI_clamp (by omega)]; exact eq0) ?_
  refine lv_istore (lv' := [(4, .int (nI bq0)), (5, .int 0), (0, .ref q), (1, .int 1), (2, .int (nI k)), (3, .int p3)]) hx hb dX15_tellRow_55 hl (by decide) rfl (fun ls hl => ?_)
  refine lv_iinc (v := (-1)) (lv' := [(5, .int (-1)), (4, .int (nI bq0)), (0, .ref q), (1, .int 1), (2, .int (nI k)), (3, .int p3)]) hx hb dX15_tellRow_57 hl (k := 1) rfl (by decide) (by decide) rfl (fun ls hl => ?_)
  refine lv_goto (tgt := 29) hx hb dX15_tellRow_60 (by decide) ?_
  refine lv_iload hx hb dX15_tellRow_29 (lv_at hl 0 rfl) ?_
  refine lv_if_lt (tgt := 63) hx hb dX15_tellRow_31 (by decide) (fun _ => ?_) (fun c0 => absurd c0 (by decide))
  refine lv_iload_n hx hb dX15_tellRow_63 rfl (lv_at hl 3 rfl) ?_
  exact W.iret (v := 1) hx hb hr (fun t ht9 hW => ⟨⟨1, (), rfl, rfl, by rw [ht9]; exact hP.sub [] rfl, va_K.moved hW.alike (hK.sub [] rfl), hD.sub [] (by decide) rfl⟩, hS.F ht9⟩) hS.2.2 dX15_tellRow_64
set_option maxHeartbeats 4000000 in
set_option maxRecDepth 100000 in
theorem r_tellRow_2 (l : Launch) (dC : Nat → ClassId) (dI : Nat → Nat → Nat) (sz : Nat) (q : Nat) (fs : List Value) (sf : Nat) (sy : Nat) (se : Nat) (kf : ClassId) (ky : ClassId) (ke : ClassId) (bf : Nat → Int32) (fy : Nat → Int32) (fe : Nat → Int32) (k : Nat) (p3 : Int32) (L : Nat → Nat) (fA : Nat → Int64) (fB : Nat → Int64) (L_fs : fs.length = 163) (K138_fs : fs[138]? = some (.ref se)) (K143_fs : fs[143]? = some (.ref sf)) (K144_fs : fs[144]? = some (.ref sy)) (hV : LV 3 L fA fB bf) (hk1 : L 2 ≤ k) (hk2 : k < L 3) : Met l yX15_tellRow (Cond.code yX15_tellRow cX15_tellRow 6 (some .int) :: tb) ({ frames := 1, cells := 0, slots := 0, locals := 13 }) (pcw [.ref q, .int 2, .int (nI k), .int p3] (dC, dI) [(q, .inr (15, fs)), (sf, .inl (kf, 111152, .inl bf)), (sy, .inl (ky, 111152, .inl fy)), (se, .inl (ke, 5, .inl fe))] [(kf, .int), (ky, .byte), (ke, .int)] sz) (va_Qi (fun (r : Int32) => (fun (_ : Unit) => r = 2)) (bw (dC, dI) (va_A [(q, .inr (15, fs)), (sf, .inl (kf, 111152, .inl bf)), (sy, .inl (ky, 111152, .inl fy)), (se, .inl (ke, 5, .inl fe))] sz) (fun (_ : Unit) => []) (fun (_ : Unit) => [])) (va_A [(q, .inr (15, fs)), (sf, .inl (kf, 111152, .inl bf)), (sy, .inl (ky, 111152, .inl fy)), (se, .inl (ke, 5, .inl fe))] sz)) 0 0 (va_A [(q, .inr (15, fs)), (sf, .inl (kf, 111152, .inl bf)), (sy, .inl (ky, 111152, .inl fy)), (se, .inl (ke, 5, .inl fe))] sz) := by
  refine Met.ofW (cc := cX15_tellRow) (maxL := 6) (ret := (some .int)) (by decide) rfl ?_
  intro p e s m args below meth c s₁ B hml hv
  obtain ⟨rfl, hsz, hP, hK, hD0⟩ := hv
  have hx := B.exec
  have hb := B.bytes
  have hr := B.returns
  have hts := atoms_spec (ws := Cond.code yX15_tellRow cX15_tellRow 6 (some .int) :: tb) B.pre
  have ht : ∀ w ∈ tb, w.before _ s = true := fun w h => hts w (List.mem_cons_of_mem _ h)
  have hown : s.vm.findClass RX15 = some m.cls := findClass_of_methodNamed B.named
  have hlocks := B.notSynchronized
  subst hsz
  have hD := hD0.self (sz := s.heap.size)
  generalize hAe : va_A [(q, .inr (15, fs)), (sf, .inl (kf, 111152, .inl bf)), (sy, .inl (ky, 111152, .inl fy)), (se, .inl (ke, 5, .inl fe))] s.heap.size = A at hD ⊢
  have hA : ∀ q : Nat, s.heap.size ≤ q → A q := fun q h => by rw [← hAe]; exact Or.inr h
  have hS : va_S A s.heap s.heap [] := va_S.rf
  have hl := lv_entry ([.ref q, .int 2, .int (nI k), .int p3]) (n := 6) (Nat.le_of_ble_eq_true rfl)
  rw [lg_entry_eq]
  generalize (lg_sl ([.ref q, .int 2, .int (nI k), .int p3]) ++ List.replicate (6 - (lg_sl ([.ref q, .int 2, .int (nI k), .int p3])).length) Slot.unset).toArray = ls at hl ⊢
  have hl : lv_has ls 6 [(0, .ref q), (1, .int 2), (2, .int (nI k)), (3, .int p3)] := hl
  have hP : va_P (dC, dI) cls [(q, .inr (15, fs)), (sf, .inl (kf, 111152, .inl bf)), (sy, .inl (ky, 111152, .inl fy)), (se, .inl (ke, 5, .inl fe))] s.heap := hP
  refine lv_aload_n hx hb dX15_tellRow_0 rfl (lv_at hl 0 rfl) ?_
  refine lv_iload_n hx hb dX15_tellRow_1 rfl (lv_at hl 1 rfl) ?_
  refine va_put (D := (dC, dI)) (ci := 15) (v := .int 2) (ty := .int) (C := RX15) (T := TX15) (N := 163) hx hb ht uX15 tyX15 tkX15 nmX15 hown hK hP hD hS 0 rfl rfl 137 (by decide) (ht _ k_11_85) (fun _ h9 => h9) rfl (by decide +kernel) rfl rfl (by rw [L_fs]; decide) dX15_tellRow_2 (fun H locs hP hD hS => ?_)
  obtain ⟨F_1, eF_1⟩ : ∃ g : List Value, g = fs.set 137 (.int 2) := ⟨_, rfl⟩
  rw [← eF_1] at hP hD
  have K138_F_1 : F_1[138]? = some (.ref se) := by rw [eF_1, List.getElem?_set_ne (by decide)]; exact K138_fs
  have K143_F_1 : F_1[143]? = some (.ref sf) := by rw [eF_1, List.getElem?_set_ne (by decide)]; exact K143_fs
  have K144_F_1 : F_1[144]? = some (.ref sy) := by rw [eF_1, List.getElem?_set_ne (by decide)]; exact K144_fs
  have K137_F_1 : F_1[137]? = some (.int 2) := by rw [eF_1]; exact List.getElem?_set_self (by rw [L_fs]; decide)
  have L_F_1 : F_1.length = 163 := by rw [eF_1, List.length_set]; exact L_fs
  have hP : va_P (dC, dI) cls [(q, .inr (15, F_1)), (sf, .inl (kf, 111152, .inl bf)), (sy, .inl (ky, 111152, .inl fy)), (se, .inl (ke, 5, .inl fe))] H := hP
  have hD : va_D A [(q, .inr (15, F_1)), (sf, .inl (kf, 111152, .inl bf)), (sy, .inl (ky, 111152, .inl fy)), (se, .inl (ke, 5, .inl fe))] := hD
  refine lv_iload_n hx hb dX15_tellRow_5 rfl (lv_at hl 2 rfl) ?_
  refine lv_istore (lv' := [(4, .int (nI k)), (0, .ref q), (1, .int 2), (2, .int (nI k)), (3, .int p3)]) hx hb dX15_tellRow_6 hl (by decide) rfl (fun ls hl => ?_)
  refine lv_iload_n hx hb dX15_tellRow_8 rfl (lv_at hl 2 rfl) ?_
  refine lv_iconst (v := 5) hx hb dX15_tellRow_9 (by decide) ?_
  refine lv_icmp_ne (tgt := 20) hx hb dX15_tellRow_10 (by decide) (fun _ => ?_) (fun c0 => absurd c0 (by decide))
  refine lv_iload_n hx hb dX15_tellRow_20 rfl (lv_at hl 2 rfl) ?_
  refine lv_iconst (v := 4) hx hb dX15_tellRow_21 (by decide) ?_
  refine va_mmin hx hb (hml.trans hl.1.symm) hown (ht _ k_13_25) (ht _ k_7_235) (ht _ k_1_27) (ht _ k_mmin) (Nat.le_of_ble_eq_true rfl) (Nat.le_of_ble_eq_true rfl) (Nat.le_of_ble_eq_true rfl) (Nat.le_of_ble_eq_true rfl) dX15_tellRow_22 ?_
  refine tk_i (y := 2) (by decide) ?_
  refine lv_iconst (v := 1) hx hb dX15_tellRow_25 (by decide) ?_
  refine lv_isub hx hb dX15_tellRow_26 ?_
  refine tk_i (y := 1) (by decide) ?_
  refine lv_istore (lv' := [(5, .int 1), (4, .int (nI k)), (0, .ref q), (1, .int 2), (2, .int (nI k)), (3, .int p3)]) hx hb dX15_tellRow_27 hl (by decide) rfl (fun ls hl => ?_)
  refine lv_iload hx hb dX15_tellRow_29 (lv_at hl 0 rfl) ?_
  refine lv_if_lt (tgt := 63) hx hb dX15_tellRow_31 (by decide) (fun c0 => absurd c0 (by decide)) (fun _ => ?_)
  have hg1 : k < 111152 := by have := (LV_big hV (by decide) 3 (by decide)).1; omega
  obtain ⟨bq1, eq1, hq1a, hq1b⟩ : ∃ b, bf k = nI b ∧ L 1 ≤ b ∧ b < L 2 := hV.2.2.2.2 1 k (by decide) hk1 hk2
  refine lv_aload_n hx hb dX15_tellRow_34 rfl (lv_at hl 2 rfl) ?_
  refine va_get (D := (dC, dI)) (ci := 15) (v := .ref se) (C := RX15) (T := TX15) (N := 163) hx hb ht uX15 hown hK hP 0 rfl rfl 138 (by decide) (ht _ k_11_86) (fun _ h9 => h9) K138_F_1 dX15_tellRow_35 ?_
  refine lv_iload hx hb dX15_tellRow_38 (lv_at hl 0 rfl) ?_
  refine lv_aload_n hx hb dX15_tellRow_40 rfl (lv_at hl 2 rfl) ?_
  refine va_get (D := (dC, dI)) (ci := 15) (v := .ref sy) (C := RX15) (T := TX15) (N := 163) hx hb ht uX15 hown hK hP 0 rfl rfl 144 (by decide) (ht _ k_11_92) (fun _ h9 => h9) K144_F_1 dX15_tellRow_41 ?_
  refine lv_iload hx hb dX15_tellRow_44 (lv_at hl 1 rfl) ?_
  refine va_bald hx hb hK hP 2 1 rfl rfl (vp_in_nI (by omega) (by decide)) dX15_tellRow_46 ?_
  refine lv_topi (fun x_2 ex_2 => ?_)
  refine va_iast (i := 1) (x := x_2) hx hb hK hP hD hS 3 2 rfl rfl (by unfold vp_in; decide) dX15_tellRow_47 (fun H locs hP hD hS => ?_)
  obtain ⟨f_3, ef_3⟩ : ∃ g : Nat → Int32, g = upd fe (1 : Int32).toNatClampNeg x_2 := ⟨_, rfl⟩
  rw [← ef_3] at hP hD
  have hP : va_P (dC, dI) cls [(q, .inr (15, F_1)), (sf, .inl (kf, 111152, .inl bf)), (sy, .inl (ky, 111152, .inl fy)), (se, .inl (ke, 5, .inl f_3))] H := hP
  have hD : va_D A [(q, .inr (15, F_1)), (sf, .inl (kf, 111152, .inl bf)), (sy, .inl (ky, 111152, .inl fy)), (se, .inl (ke, 5, .inl f_3))] := hD
  refine lv_aload_n hx hb dX15_tellRow_48 rfl (lv_at hl 2 rfl) ?_
  refine va_get (D := (dC, dI)) (ci := 15) (v := .ref sf) (C := RX15) (T := TX15) (N := 163) hx hb ht uX15 hown hK hP 0 rfl rfl 143 (by decide) (ht _ k_11_91) (fun _ h9 => h9) K143_F_1 dX15_tellRow_49 ?_
  refine lv_iload hx hb dX15_tellRow_52 (lv_at hl 1 rfl) ?_
  refine va_iald hx hb hK hP 1 0 rfl rfl (vp_in_nI (by omega) (by decide)) dX15_tellRow_54 ?_
  refine tk_i (y := (nI bq1)) (by rw [nI_clamp (by omega)]; exact eq1) ?_
  refine lv_istore (lv' := [(4, .int (nI bq1)), (5, .int 1), (0, .ref q), (1, .int 2), (2, .int (nI k)), (3, .int p3)]) hx hb dX15_tellRow_55 hl (by decide) rfl (fun ls hl => ?_)
  refine lv_iinc (v := 0) (lv' := [(5, .int 0), (4, .int (nI bq1)), (0, .ref q), (1, .int 2), (2, .int (nI k)), (3, .int p3)]) hx hb dX15_tellRow_57 hl (k := 1) rfl (by decide) (by decide) rfl (fun ls hl => ?_)
  refine lv_goto (tgt := 29) hx hb dX15_tellRow_60 (by decide) ?_
  refine lv_iload hx hb dX15_tellRow_29 (lv_at hl 0 rfl) ?_
  refine lv_if_lt (tgt := 63) hx hb dX15_tellRow_31 (by decide) (fun c0 => absurd c0 (by decide)) (fun _ => ?_)
  have hg0 : bq1 < 111152 := by have := (LV_big hV (by decide) 2 (by decide)).1; omega
  obtain ⟨bq0, eq0, hq0a, hq0b⟩ : ∃ b, bf bq1 = nI b ∧ L 0 ≤ b ∧ b < L 1 := hV.2.2.2.2 0 bq1 (by decide) hq1a hq1b
  refine lv_aload_n hx hb dX15_tellRow_34 rfl (lv_at hl 2 rfl) ?_
  refine va_get (D := (dC, dI)) (ci := 15) (v := .ref se) (C := RX15) (T := TX15) (N := 163) hx hb ht uX15 hown hK hP 0 rfl rfl 138 (by decide) (ht _ k_11_86) (fun _ h9 => h9) K138_F_1 dX15_tellRow_35 ?_
  refine lv_iload hx hb dX15_tellRow_38 (lv_at hl 0 rfl) ?_
  refine lv_aload_n hx hb dX15_tellRow_40 rfl (lv_at hl 2 rfl) ?_
  refine va_get (D := (dC, dI)) (ci := 15) (v := .ref sy) (C := RX15) (T := TX15) (N := 163) hx hb ht uX15 hown hK hP 0 rfl rfl 144 (by decide) (ht _ k_11_92) (fun _ h9 => h9) K144_F_1 dX15_tellRow_41 ?_
  refine lv_iload hx hb dX15_tellRow_44 (lv_at hl 1 rfl) ?_
  refine va_bald hx hb hK hP 2 1 rfl rfl (vp_in_nI (by omega) (by decide)) dX15_tellRow_46 ?_
  refine lv_topi (fun x_4 ex_4 => ?_)
  refine va_iast (i := 0) (x := x_4) hx hb hK hP hD hS 3 2 rfl rfl (by unfold vp_in; decide) dX15_tellRow_47 (fun H locs hP hD hS => ?_)
  obtain ⟨f_5, ef_5⟩ : ∃ g : Nat → Int32, g = upd f_3 (0 : Int32).toNatClampNeg x_4 := ⟨_, rfl⟩
  rw [← ef_5] at hP hD
  have hP : va_P (dC, dI) cls [(q, .inr (15, F_1)), (sf, .inl (kf, 111152, .inl bf)), (sy, .inl (ky, 111152, .inl fy)), (se, .inl (ke, 5, .inl f_5))] H := hP
  have hD : va_D A [(q, .inr (15, F_1)), (sf, .inl (kf, 111152, .inl bf)), (sy, .inl (ky, 111152, .inl fy)), (se, .inl (ke, 5, .inl f_5))] := hD
  refine lv_aload_n hx hb dX15_tellRow_48 rfl (lv_at hl 2 rfl) ?_
  refine va_get (D := (dC, dI)) (ci := 15) (v := .ref sf) (C := RX15) (T := TX15) (N := 163) hx hb ht uX15 hown hK hP 0 rfl rfl 143 (by decide) (ht _ k_11_91) (fun _ h9 => h9) K143_F_1 dX15_tellRow_49 ?_
  refine lv_iload hx hb dX15_tellRow_52 (lv_at hl 1 rfl) ?_
  refine va_iald hx hb hK hP 1 0 rfl rfl (vp_in_nI (by omega) (by decide)) dX15_tellRow_54 ?_
  refine tk_i (y := (nI bq0)) (by rw [nI_clamp (by omega)]; exact eq0) ?_
  refine lv_istore (lv' := [(4, .int (nI bq0)), (5, .int 0), (0, .ref q), (1, .int 2), (2, .int (nI k)), (3, .int p3)]) hx hb dX15_tellRow_55 hl (by decide) rfl (fun ls hl => ?_)
  refine lv_iinc (v := (-1)) (lv' := [(5, .int (-1)), (4, .int (nI bq0)), (0, .ref q), (1, .int 2), (2, .int (nI k)), (3, .int p3)]) hx hb dX15_tellRow_57 hl (k := 1) rfl (by decide) (by decide) rfl (fun ls hl => ?_)
  refine lv_goto (tgt := 29) hx hb dX15_tellRow_60 (by decide) ?_
  refine lv_iload hx hb dX15_tellRow_29 (lv_at hl 0 rfl) ?_
  refine lv_if_lt (tgt := 63) hx hb dX15_tellRow_31 (by decide) (fun _ => ?_) (fun c0 => absurd c0 (by decide))
  refine lv_iload_n hx hb dX15_tellRow_63 rfl (lv_at hl 3 rfl) ?_
  exact W.iret (v := 2) hx hb hr (fun t ht9 hW => ⟨⟨2, (), rfl, rfl, by rw [ht9]; exact hP.sub [] rfl, va_K.moved hW.alike (hK.sub [] rfl), hD.sub [] (by decide) rfl⟩, hS.F ht9⟩) hS.2.2 dX15_tellRow_64
set_option maxHeartbeats 4000000 in
set_option maxRecDepth 100000 in
theorem r_tellRow_3 (l : Launch) (dC : Nat → ClassId) (dI : Nat → Nat → Nat) (sz : Nat) (q : Nat) (fs : List Value) (sf : Nat) (sy : Nat) (se : Nat) (kf : ClassId) (ky : ClassId) (ke : ClassId) (bf : Nat → Int32) (fy : Nat → Int32) (fe : Nat → Int32) (k : Nat) (p3 : Int32) (L : Nat → Nat) (fA : Nat → Int64) (fB : Nat → Int64) (L_fs : fs.length = 163) (K138_fs : fs[138]? = some (.ref se)) (K143_fs : fs[143]? = some (.ref sf)) (K144_fs : fs[144]? = some (.ref sy)) (hV : LV 4 L fA fB bf) (hk1 : L 3 ≤ k) (hk2 : k < L 4) : Met l yX15_tellRow (Cond.code yX15_tellRow cX15_tellRow 6 (some .int) :: tb) ({ frames := 1, cells := 0, slots := 0, locals := 13 }) (pcw [.ref q, .int 3, .int (nI k), .int p3] (dC, dI) [(q, .inr (15, fs)), (sf, .inl (kf, 111152, .inl bf)), (sy, .inl (ky, 111152, .inl fy)), (se, .inl (ke, 5, .inl fe))] [(kf, .int), (ky, .byte), (ke, .int)] sz) (va_Qi (fun (r : Int32) => (fun (_ : Unit) => r = 3)) (bw (dC, dI) (va_A [(q, .inr (15, fs)), (sf, .inl (kf, 111152, .inl bf)), (sy, .inl (ky, 111152, .inl fy)), (se, .inl (ke, 5, .inl fe))] sz) (fun (_ : Unit) => []) (fun (_ : Unit) => [])) (va_A [(q, .inr (15, fs)), (sf, .inl (kf, 111152, .inl bf)), (sy, .inl (ky, 111152, .inl fy)), (se, .inl (ke, 5, .inl fe))] sz)) 0 0 (va_A [(q, .inr (15, fs)), (sf, .inl (kf, 111152, .inl bf)), (sy, .inl (ky, 111152, .inl fy)), (se, .inl (ke, 5, .inl fe))] sz) := by
  refine Met.ofW (cc := cX15_tellRow) (maxL := 6) (ret := (some .int)) (by decide) rfl ?_
  intro p e s m args below meth c s₁ B hml hv
  obtain ⟨rfl, hsz, hP, hK, hD0⟩ := hv
  have hx := B.exec
  have hb := B.bytes
  have hr := B.returns
  have hts := atoms_spec (ws := Cond.code yX15_tellRow cX15_tellRow 6 (some .int) :: tb) B.pre
  have ht : ∀ w ∈ tb, w.before _ s = true := fun w h => hts w (List.mem_cons_of_mem _ h)
  have hown : s.vm.findClass RX15 = some m.cls := findClass_of_methodNamed B.named
  have hlocks := B.notSynchronized
  subst hsz
  have hD := hD0.self (sz := s.heap.size)
  generalize hAe : va_A [(q, .inr (15, fs)), (sf, .inl (kf, 111152, .inl bf)), (sy, .inl (ky, 111152, .inl fy)), (se, .inl (ke, 5, .inl fe))] s.heap.size = A at hD ⊢
  have hA : ∀ q : Nat, s.heap.size ≤ q → A q := fun q h => by rw [← hAe]; exact Or.inr h
  have hS : va_S A s.heap s.heap [] := va_S.rf
  have hl := lv_entry ([.ref q, .int 3, .int (nI k), .int p3]) (n := 6) (Nat.le_of_ble_eq_true rfl)
  rw [lg_entry_eq]
  generalize (lg_sl ([.ref q, .int 3, .int (nI k), .int p3]) ++ List.replicate (6 - (lg_sl ([.ref q, .int 3, .int (nI k), .int p3])).length) Slot.unset).toArray = ls at hl ⊢
  have hl : lv_has ls 6 [(0, .ref q), (1, .int 3), (2, .int (nI k)), (3, .int p3)] := hl
  have hP : va_P (dC, dI) cls [(q, .inr (15, fs)), (sf, .inl (kf, 111152, .inl bf)), (sy, .inl (ky, 111152, .inl fy)), (se, .inl (ke, 5, .inl fe))] s.heap := hP
  refine lv_aload_n hx hb dX15_tellRow_0 rfl (lv_at hl 0 rfl) ?_
  refine lv_iload_n hx hb dX15_tellRow_1 rfl (lv_at hl 1 rfl) ?_
  refine va_put (D := (dC, dI)) (ci := 15) (v := .int 3) (ty := .int) (C := RX15) (T := TX15) (N := 163) hx hb ht uX15 tyX15 tkX15 nmX15 hown hK hP hD hS 0 rfl rfl 137 (by decide) (ht _ k_11_85) (fun _ h9 => h9) rfl (by decide +kernel) rfl rfl (by rw [L_fs]; decide) dX15_tellRow_2 (fun H locs hP hD hS => ?_)
  obtain ⟨F_1, eF_1⟩ : ∃ g : List Value, g = fs.set 137 (.int 3) := ⟨_, rfl⟩
  rw [← eF_1] at hP hD
  have K138_F_1 : F_1[138]? = some (.ref se) := by rw [eF_1, List.getElem?_set_ne (by decide)]; exact K138_fs
  have K143_F_1 : F_1[143]? = some (.ref sf) := by rw [eF_1, List.getElem?_set_ne (by decide)]; exact K143_fs
  have K144_F_1 : F_1[144]? = some (.ref sy) := by rw [eF_1, List.getElem?_set_ne (by decide)]; exact K144_fs
  have K137_F_1 : F_1[137]? = some (.int 3) := by rw [eF_1]; exact List.getElem?_set_self (by rw [L_fs]; decide)
  have L_F_1 : F_1.length = 163 := by rw [eF_1, List.length_set]; exact L_fs
  have hP : va_P (dC, dI) cls [(q, .inr (15, F_1)), (sf, .inl (kf, 111152, .inl bf)), (sy, .inl (ky, 111152, .inl fy)), (se, .inl (ke, 5, .inl fe))] H := hP
  have hD : va_D A [(q, .inr (15, F_1)), (sf, .inl (kf, 111152, .inl bf)), (sy, .inl (ky, 111152, .inl fy)), (se, .inl (ke, 5, .inl fe))] := hD
  refine lv_iload_n hx hb dX15_tellRow_5 rfl (lv_at hl 2 rfl) ?_
  refine lv_istore (lv' := [(4, .int (nI k)), (0, .ref q), (1, .int 3), (2, .int (nI k)), (3, .int p3)]) hx hb dX15_tellRow_6 hl (by decide) rfl (fun ls hl => ?_)
  refine lv_iload_n hx hb dX15_tellRow_8 rfl (lv_at hl 2 rfl) ?_
  refine lv_iconst (v := 5) hx hb dX15_tellRow_9 (by decide) ?_
  refine lv_icmp_ne (tgt := 20) hx hb dX15_tellRow_10 (by decide) (fun _ => ?_) (fun c0 => absurd c0 (by decide))
  refine lv_iload_n hx hb dX15_tellRow_20 rfl (lv_at hl 2 rfl) ?_
  refine lv_iconst (v := 4) hx hb dX15_tellRow_21 (by decide) ?_
  refine va_mmin hx hb (hml.trans hl.1.symm) hown (ht _ k_13_25) (ht _ k_7_235) (ht _ k_1_27) (ht _ k_mmin) (Nat.le_of_ble_eq_true rfl) (Nat.le_of_ble_eq_true rfl) (Nat.le_of_ble_eq_true rfl) (Nat.le_of_ble_eq_true rfl) dX15_tellRow_22 ?_
  refine tk_i (y := 3) (by decide) ?_
  refine lv_iconst (v := 1) hx hb dX15_tellRow_25 (by decide) ?_
  refine lv_isub hx hb dX15_tellRow_26 ?_
  refine tk_i (y := 2) (by decide) ?_
  refine lv_istore (lv' := [(5, .int 2), (4, .int (nI k)), (0, .ref q), (1, .int 3), (2, .int (nI k)), (3, .int p3)]) hx hb dX15_tellRow_27 hl (by decide) rfl (fun ls hl => ?_)
  refine lv_iload hx hb dX15_tellRow_29 (lv_at hl 0 rfl) ?_
  refine lv_if_lt (tgt := 63) hx hb dX15_tellRow_31 (by decide) (fun c0 => absurd c0 (by decide)) (fun _ => ?_)
  have hg2 : k < 111152 := by have := (LV_big hV (by decide) 4 (by decide)).1; omega
  obtain ⟨bq2, eq2, hq2a, hq2b⟩ : ∃ b, bf k = nI b ∧ L 2 ≤ b ∧ b < L 3 := hV.2.2.2.2 2 k (by decide) hk1 hk2
  refine lv_aload_n hx hb dX15_tellRow_34 rfl (lv_at hl 2 rfl) ?_
  refine va_get (D := (dC, dI)) (ci := 15) (v := .ref se) (C := RX15) (T := TX15) (N := 163) hx hb ht uX15 hown hK hP 0 rfl rfl 138 (by decide) (ht _ k_11_86) (fun _ h9 => h9) K138_F_1 dX15_tellRow_35 ?_
  refine lv_iload hx hb dX15_tellRow_38 (lv_at hl 0 rfl) ?_
  refine lv_aload_n hx hb dX15_tellRow_40 rfl (lv_at hl 2 rfl) ?_
  refine va_get (D := (dC, dI)) (ci := 15) (v := .ref sy) (C := RX15) (T := TX15) (N := 163) hx hb ht uX15 hown hK hP 0 rfl rfl 144 (by decide) (ht _ k_11_92) (fun _ h9 => h9) K144_F_1 dX15_tellRow_41 ?_
  refine lv_iload hx hb dX15_tellRow_44 (lv_at hl 1 rfl) ?_
  refine va_bald hx hb hK hP 2 1 rfl rfl (vp_in_nI (by omega) (by decide)) dX15_tellRow_46 ?_
  refine lv_topi (fun x_2 ex_2 => ?_)
  refine va_iast (i := 2) (x := x_2) hx hb hK hP hD hS 3 2 rfl rfl (by unfold vp_in; decide) dX15_tellRow_47 (fun H locs hP hD hS => ?_)
  obtain ⟨f_3, ef_3⟩ : ∃ g : Nat → Int32, g = upd fe (2 : Int32).toNatClampNeg x_2 := ⟨_, rfl⟩
  rw [← ef_3] at hP hD
  have hP : va_P (dC, dI) cls [(q, .inr (15, F_1)), (sf, .inl (kf, 111152, .inl bf)), (sy, .inl (ky, 111152, .inl fy)), (se, .inl (ke, 5, .inl f_3))] H := hP
  have hD : va_D A [(q, .inr (15, F_1)), (sf, .inl (kf, 111152, .inl bf)), (sy, .inl (ky, 111152, .inl fy)), (se, .inl (ke, 5, .inl f_3))] := hD
  refine lv_aload_n hx hb dX15_tellRow_48 rfl (lv_at hl 2 rfl) ?_
  refine va_get (D := (dC, dI)) (ci := 15) (v := .ref sf) (C := RX15) (T := TX15) (N := 163) hx hb ht uX15 hown hK hP 0 rfl rfl 143 (by decide) (ht _ k_11_91) (fun _ h9 => h9) K143_F_1 dX15_tellRow_49 ?_
  refine lv_iload hx hb dX15_tellRow_52 (lv_at hl 1 rfl) ?_
  refine va_iald hx hb hK hP 1 0 rfl rfl (vp_in_nI (by omega) (by decide)) dX15_tellRow_54 ?_
  refine tk_i (y := (nI bq2)) (by rw [nI_clamp (by omega)]; exact eq2) ?_
  refine lv_istore (lv' := [(4, .int (nI bq2)), (5, .int 2), (0, .ref q), (1, .int 3), (2, .int (nI k)), (3, .int p3)]) hx hb dX15_tellRow_55 hl (by decide) rfl (fun ls hl => ?_)
  refine lv_iinc (v := 1) (lv' := [(5, .int 1), (4, .int (nI bq2)), (0, .ref q), (1, .int 3), (2, .int (nI k)), (3, .int p3)]) hx hb dX15_tellRow_57 hl (k := 1) rfl (by decide) (by decide) rfl (fun ls hl => ?_)
  refine lv_goto (tgt := 29) hx hb dX15_tellRow_60 (by decide) ?_
  refine lv_iload hx hb dX15_tellRow_29 (lv_at hl 0 rfl) ?_
  refine lv_if_lt (tgt := 63) hx hb dX15_tellRow_31 (by decide) (fun c0 => absurd c0 (by decide)) (fun _ => ?_)
  have hg1 : bq2 < 111152 := by have := (LV_big hV (by decide) 3 (by decide)).1; omega
  obtain ⟨bq1, eq1, hq1a, hq1b⟩ : ∃ b, bf bq2 = nI b ∧ L 1 ≤ b ∧ b < L 2 := hV.2.2.2.2 1 bq2 (by decide) hq2a hq2b
  refine lv_aload_n hx hb dX15_tellRow_34 rfl (lv_at hl 2 rfl) ?_
  refine va_get (D := (dC, dI)) (ci := 15) (v := .ref se) (C := RX15) (T := TX15) (N := 163) hx hb ht uX15 hown hK hP 0 rfl rfl 138 (by decide) (ht _ k_11_86) (fun _ h9 => h9) K138_F_1 dX15_tellRow_35 ?_
  refine lv_iload hx hb dX15_tellRow_38 (lv_at hl 0 rfl) ?_
  refine lv_aload_n hx hb dX15_tellRow_40 rfl (lv_at hl 2 rfl) ?_
  refine va_get (D := (dC, dI)) (ci := 15) (v := .ref sy) (C := RX15) (T := TX15) (N := 163) hx hb ht uX15 hown hK hP 0 rfl rfl 144 (by decide) (ht _ k_11_92) (fun _ h9 => h9) K144_F_1 dX15_tellRow_41 ?_
  refine lv_iload hx hb dX15_tellRow_44 (lv_at hl 1 rfl) ?_
  refine va_bald hx hb hK hP 2 1 rfl rfl (vp_in_nI (by omega) (by decide)) dX15_tellRow_46 ?_
  refine lv_topi (fun x_4 ex_4 => ?_)
  refine va_iast (i := 1) (x := x_4) hx hb hK hP hD hS 3 2 rfl rfl (by unfold vp_in; decide) dX15_tellRow_47 (fun H locs hP hD hS => ?_)
  obtain ⟨f_5, ef_5⟩ : ∃ g : Nat → Int32, g = upd f_3 (1 : Int32).toNatClampNeg x_4 := ⟨_, rfl⟩
  rw [← ef_5] at hP hD
  have hP : va_P (dC, dI) cls [(q, .inr (15, F_1)), (sf, .inl (kf, 111152, .inl bf)), (sy, .inl (ky, 111152, .inl fy)), (se, .inl (ke, 5, .inl f_5))] H := hP
  have hD : va_D A [(q, .inr (15, F_1)), (sf, .inl (kf, 111152, .inl bf)), (sy, .inl (ky, 111152, .inl fy)), (se, .inl (ke, 5, .inl f_5))] := hD
  refine lv_aload_n hx hb dX15_tellRow_48 rfl (lv_at hl 2 rfl) ?_
  refine va_get (D := (dC, dI)) (ci := 15) (v := .ref sf) (C := RX15) (T := TX15) (N := 163) hx hb ht uX15 hown hK hP 0 rfl rfl 143 (by decide) (ht _ k_11_91) (fun _ h9 => h9) K143_F_1 dX15_tellRow_49 ?_
  refine lv_iload hx hb dX15_tellRow_52 (lv_at hl 1 rfl) ?_
  refine va_iald hx hb hK hP 1 0 rfl rfl (vp_in_nI (by omega) (by decide)) dX15_tellRow_54 ?_
  refine tk_i (y := (nI bq1)) (by rw [nI_clamp (by omega)]; exact eq1) ?_
  refine lv_istore (lv' := [(4, .int (nI bq1)), (5, .int 1), (0, .ref q), (1, .int 3), (2, .int (nI k)), (3, .int p3)]) hx hb dX15_tellRow_55 hl (by decide) rfl (fun ls hl => ?_)
  refine lv_iinc (v := 0) (lv' := [(5, .int 0), (4, .int (nI bq1)), (0, .ref q), (1, .int 3), (2, .int (nI k)), (3, .int p3)]) hx hb dX15_tellRow_57 hl (k := 1) rfl (by decide) (by decide) rfl (fun ls hl => ?_)
  refine lv_goto (tgt := 29) hx hb dX15_tellRow_60 (by decide) ?_
  refine lv_iload hx hb dX15_tellRow_29 (lv_at hl 0 rfl) ?_
  refine lv_if_lt (tgt := 63) hx hb dX15_tellRow_31 (by decide) (fun c0 => absurd c0 (by decide)) (fun _ => ?_)
  have hg0 : bq1 < 111152 := by have := (LV_big hV (by decide) 2 (by decide)).1; omega
  obtain ⟨bq0, eq0, hq0a, hq0b⟩ : ∃ b, bf bq1 = nI b ∧ L 0 ≤ b ∧ b < L 1 := hV.2.2.2.2 0 bq1 (by decide) hq1a hq1b
  refine lv_aload_n hx hb dX15_tellRow_34 rfl (lv_at hl 2 rfl) ?_
  refine va_get (D := (dC, dI)) (ci := 15) (v := .ref se) (C := RX15) (T := TX15) (N := 163) hx hb ht uX15 hown hK hP 0 rfl rfl 138 (by decide) (ht _ k_11_86) (fun _ h9 => h9) K138_F_1 dX15_tellRow_35 ?_
  refine lv_iload hx hb dX15_tellRow_38 (lv_at hl 0 rfl) ?_
  refine lv_aload_n hx hb dX15_tellRow_40 rfl (lv_at hl 2 rfl) ?_
  refine va_get (D := (dC, dI)) (ci := 15) (v := .ref sy) (C := RX15) (T := TX15) (N := 163) hx hb ht uX15 hown hK hP 0 rfl rfl 144 (by decide) (ht _ k_11_92) (fun _ h9 => h9) K144_F_1 dX15_tellRow_41 ?_
  refine lv_iload hx hb dX15_tellRow_44 (lv_at hl 1 rfl) ?_
  refine va_bald hx hb hK hP 2 1 rfl rfl (vp_in_nI (by omega) (by decide)) dX15_tellRow_46 ?_
  refine lv_topi (fun x_6 ex_6 => ?_)
  refine va_iast (i := 0) (x := x_6) hx hb hK hP hD hS 3 2 rfl rfl (by unfold vp_in; decide) dX15_tellRow_47 (fun H locs hP hD hS => ?_)
  obtain ⟨f_7, ef_7⟩ : ∃ g : Nat → Int32, g = upd f_5 (0 : Int32).toNatClampNeg x_6 := ⟨_, rfl⟩
  rw [← ef_7] at hP hD
  have hP : va_P (dC, dI) cls [(q, .inr (15, F_1)), (sf, .inl (kf, 111152, .inl bf)), (sy, .inl (ky, 111152, .inl fy)), (se, .inl (ke, 5, .inl f_7))] H := hP
  have hD : va_D A [(q, .inr (15, F_1)), (sf, .inl (kf, 111152, .inl bf)), (sy, .inl (ky, 111152, .inl fy)), (se, .inl (ke, 5, .inl f_7))] := hD
  refine lv_aload_n hx hb dX15_tellRow_48 rfl (lv_at hl 2 rfl) ?_
  refine va_get (D := (dC, dI)) (ci := 15) (v := .ref sf) (C := RX15) (T := TX15) (N := 163) hx hb ht uX15 hown hK hP 0 rfl rfl 143 (by decide) (ht _ k_11_91) (fun _ h9 => h9) K143_F_1 dX15_tellRow_49 ?_
  refine lv_iload hx hb dX15_tellRow_52 (lv_at hl 1 rfl) ?_
  refine va_iald hx hb hK hP 1 0 rfl rfl (vp_in_nI (by omega) (by decide)) dX15_tellRow_54 ?_
  refine tk_i (y := (nI bq0)) (by rw [nI_clamp (by omega)]; exact eq0) ?_
  refine lv_istore (lv' := [(4, .int (nI bq0)), (5, .int 0), (0, .ref q), (1, .int 3), (2, .int (nI k)), (3, .int p3)]) hx hb dX15_tellRow_55 hl (by decide) rfl (fun ls hl => ?_)
  refine lv_iinc (v := (-1)) (lv' := [(5, .int (-1)), (4, .int (nI bq0)), (0, .ref q), (1, .int 3), (2, .int (nI k)), (3, .int p3)]) hx hb dX15_tellRow_57 hl (k := 1) rfl (by decide) (by decide) rfl (fun ls hl => ?_)
  refine lv_goto (tgt := 29) hx hb dX15_tellRow_60 (by decide) ?_
  refine lv_iload hx hb dX15_tellRow_29 (lv_at hl 0 rfl) ?_
  refine lv_if_lt (tgt := 63) hx hb dX15_tellRow_31 (by decide) (fun _ => ?_) (fun c0 => absurd c0 (by decide))
  refine lv_iload_n hx hb dX15_tellRow_63 rfl (lv_at hl 3 rfl) ?_
  exact W.iret (v := 3) hx hb hr (fun t ht9 hW => ⟨⟨3, (), rfl, rfl, by rw [ht9]; exact hP.sub [] rfl, va_K.moved hW.alike (hK.sub [] rfl), hD.sub [] (by decide) rfl⟩, hS.F ht9⟩) hS.2.2 dX15_tellRow_64
set_option maxHeartbeats 4000000 in
set_option maxRecDepth 100000 in
theorem r_tellRow_4 (l : Launch) (dC : Nat → ClassId) (dI : Nat → Nat → Nat) (sz : Nat) (q : Nat) (fs : List Value) (sf : Nat) (sy : Nat) (se : Nat) (kf : ClassId) (ky : ClassId) (ke : ClassId) (bf : Nat → Int32) (fy : Nat → Int32) (fe : Nat → Int32) (k : Nat) (p3 : Int32) (L : Nat → Nat) (fA : Nat → Int64) (fB : Nat → Int64) (L_fs : fs.length = 163) (K138_fs : fs[138]? = some (.ref se)) (K143_fs : fs[143]? = some (.ref sf)) (K144_fs : fs[144]? = some (.ref sy)) (hV : LV 5 L fA fB bf) (hk1 : L 4 ≤ k) (hk2 : k < L 5) : Met l yX15_tellRow (Cond.code yX15_tellRow cX15_tellRow 6 (some .int) :: tb) ({ frames := 1, cells := 0, slots := 0, locals := 13 }) (pcw [.ref q, .int 4, .int (nI k), .int p3] (dC, dI) [(q, .inr (15, fs)), (sf, .inl (kf, 111152, .inl bf)), (sy, .inl (ky, 111152, .inl fy)), (se, .inl (ke, 5, .inl fe))] [(kf, .int), (ky, .byte), (ke, .int)] sz) (va_Qi (fun (r : Int32) => (fun (_ : Unit) => r = 4)) (bw (dC, dI) (va_A [(q, .inr (15, fs)), (sf, .inl (kf, 111152, .inl bf)), (sy, .inl (ky, 111152, .inl fy)), (se, .inl (ke, 5, .inl fe))] sz) (fun (_ : Unit) => []) (fun (_ : Unit) => [])) (va_A [(q, .inr (15, fs)), (sf, .inl (kf, 111152, .inl bf)), (sy, .inl (ky, 111152, .inl fy)), (se, .inl (ke, 5, .inl fe))] sz)) 0 0 (va_A [(q, .inr (15, fs)), (sf, .inl (kf, 111152, .inl bf)), (sy, .inl (ky, 111152, .inl fy)), (se, .inl (ke, 5, .inl fe))] sz) := by
  refine Met.ofW (cc := cX15_tellRow) (maxL := 6) (ret := (some .int)) (by decide) rfl ?_
  intro p e s m args below meth c s₁ B hml hv
  obtain ⟨rfl, hsz, hP, hK, hD0⟩ := hv
  have hx := B.exec
  have hb := B.bytes
  have hr := B.returns
  have hts := atoms_spec (ws := Cond.code yX15_tellRow cX15_tellRow 6 (some .int) :: tb) B.pre
  have ht : ∀ w ∈ tb, w.before _ s = true := fun w h => hts w (List.mem_cons_of_mem _ h)
  have hown : s.vm.findClass RX15 = some m.cls := findClass_of_methodNamed B.named
  have hlocks := B.notSynchronized
  subst hsz
  have hD := hD0.self (sz := s.heap.size)
  generalize hAe : va_A [(q, .inr (15, fs)), (sf, .inl (kf, 111152, .inl bf)), (sy, .inl (ky, 111152, .inl fy)), (se, .inl (ke, 5, .inl fe))] s.heap.size = A at hD ⊢
  have hA : ∀ q : Nat, s.heap.size ≤ q → A q := fun q h => by rw [← hAe]; exact Or.inr h
  have hS : va_S A s.heap s.heap [] := va_S.rf
  have hl := lv_entry ([.ref q, .int 4, .int (nI k), .int p3]) (n := 6) (Nat.le_of_ble_eq_true rfl)
  rw [lg_entry_eq]
  generalize (lg_sl ([.ref q, .int 4, .int (nI k), .int p3]) ++ List.replicate (6 - (lg_sl ([.ref q, .int 4, .int (nI k), .int p3])).length) Slot.unset).toArray = ls at hl ⊢
  have hl : lv_has ls 6 [(0, .ref q), (1, .int 4), (2, .int (nI k)), (3, .int p3)] := hl
  have hP : va_P (dC, dI) cls [(q, .inr (15, fs)), (sf, .inl (kf, 111152, .inl bf)), (sy, .inl (ky, 111152, .inl fy)), (se, .inl (ke, 5, .inl fe))] s.heap := hP
  refine lv_aload_n hx hb dX15_tellRow_0 rfl (lv_at hl 0 rfl) ?_
  refine lv_iload_n hx hb dX15_tellRow_1 rfl (lv_at hl 1 rfl) ?_
  refine va_put (D := (dC, dI)) (ci := 15) (v := .int 4) (ty := .int) (C := RX15) (T := TX15) (N := 163) hx hb ht uX15 tyX15 tkX15 nmX15 hown hK hP hD hS 0 rfl rfl 137 (by decide) (ht _ k_11_85) (fun _ h9 => h9) rfl (by decide +kernel) rfl rfl (by rw [L_fs]; decide) dX15_tellRow_2 (fun H locs hP hD hS => ?_)
  obtain ⟨F_1, eF_1⟩ : ∃ g : List Value, g = fs.set 137 (.int 4) := ⟨_, rfl⟩
  rw [← eF_1] at hP hD
  have K138_F_1 : F_1[138]? = some (.ref se) := by rw [eF_1, List.getElem?_set_ne (by decide)]; exact K138_fs
  have K143_F_1 : F_1[143]? = some (.ref sf) := by rw [eF_1, List.getElem?_set_ne (by decide)]; exact K143_fs
  have K144_F_1 : F_1[144]? = some (.ref sy) := by rw [eF_1, List.getElem?_set_ne (by decide)]; exact K144_fs
  have K137_F_1 : F_1[137]? = some (.int 4) := by rw [eF_1]; exact List.getElem?_set_self (by rw [L_fs]; decide)
  have L_F_1 : F_1.length = 163 := by rw [eF_1, List.length_set]; exact L_fs
  have hP : va_P (dC, dI) cls [(q, .inr (15, F_1)), (sf, .inl (kf, 111152, .inl bf)), (sy, .inl (ky, 111152, .inl fy)), (se, .inl (ke, 5, .inl fe))] H := hP
  have hD : va_D A [(q, .inr (15, F_1)), (sf, .inl (kf, 111152, .inl bf)), (sy, .inl (ky, 111152, .inl fy)), (se, .inl (ke, 5, .inl fe))] := hD
  refine lv_iload_n hx hb dX15_tellRow_5 rfl (lv_at hl 2 rfl) ?_
  refine lv_istore (lv' := [(4, .int (nI k)), (0, .ref q), (1, .int 4), (2, .int (nI k)), (3, .int p3)]) hx hb dX15_tellRow_6 hl (by decide) rfl (fun ls hl => ?_)
  refine lv_iload_n hx hb dX15_tellRow_8 rfl (lv_at hl 2 rfl) ?_
  refine lv_iconst (v := 5) hx hb dX15_tellRow_9 (by decide) ?_
  refine lv_icmp_ne (tgt := 20) hx hb dX15_tellRow_10 (by decide) (fun _ => ?_) (fun c0 => absurd c0 (by decide))
  refine lv_iload_n hx hb dX15_tellRow_20 rfl (lv_at hl 2 rfl) ?_
  refine lv_iconst (v := 4) hx hb dX15_tellRow_21 (by decide) ?_
  refine va_mmin hx hb (hml.trans hl.1.symm) hown (ht _ k_13_25) (ht _ k_7_235) (ht _ k_1_27) (ht _ k_mmin) (Nat.le_of_ble_eq_true rfl) (Nat.le_of_ble_eq_true rfl) (Nat.le_of_ble_eq_true rfl) (Nat.le_of_ble_eq_true rfl) dX15_tellRow_22 ?_
  refine tk_i (y := 4) (by decide) ?_
  refine lv_iconst (v := 1) hx hb dX15_tellRow_25 (by decide) ?_
  refine lv_isub hx hb dX15_tellRow_26 ?_
  refine tk_i (y := 3) (by decide) ?_
  refine lv_istore (lv' := [(5, .int 3), (4, .int (nI k)), (0, .ref q), (1, .int 4), (2, .int (nI k)), (3, .int p3)]) hx hb dX15_tellRow_27 hl (by decide) rfl (fun ls hl => ?_)
  refine lv_iload hx hb dX15_tellRow_29 (lv_at hl 0 rfl) ?_
  refine lv_if_lt (tgt := 63) hx hb dX15_tellRow_31 (by decide) (fun c0 => absurd c0 (by decide)) (fun _ => ?_)
  have hg3 : k < 111152 := by have := (LV_big hV (by decide) 5 (by decide)).1; omega
  obtain ⟨bq3, eq3, hq3a, hq3b⟩ : ∃ b, bf k = nI b ∧ L 3 ≤ b ∧ b < L 4 := hV.2.2.2.2 3 k (by decide) hk1 hk2
  refine lv_aload_n hx hb dX15_tellRow_34 rfl (lv_at hl 2 rfl) ?_
  refine va_get (D := (dC, dI)) (ci := 15) (v := .ref se) (C := RX15) (T := TX15) (N := 163) hx hb ht uX15 hown hK hP 0 rfl rfl 138 (by decide) (ht _ k_11_86) (fun _ h9 => h9) K138_F_1 dX15_tellRow_35 ?_
  refine lv_iload hx hb dX15_tellRow_38 (lv_at hl 0 rfl) ?_
  refine lv_aload_n hx hb dX15_tellRow_40 rfl (lv_at hl 2 rfl) ?_
  refine va_get (D := (dC, dI)) (ci := 15) (v := .ref sy) (C := RX15) (T := TX15) (N := 163) hx hb ht uX15 hown hK hP 0 rfl rfl 144 (by decide) (ht _ k_11_92) (fun _ h9 => h9) K144_F_1 dX15_tellRow_41 ?_
  refine lv_iload hx hb dX15_tellRow_44 (lv_at hl 1 rfl) ?_
  refine va_bald hx hb hK hP 2 1 rfl rfl (vp_in_nI (by omega) (by decide)) dX15_tellRow_46 ?_
  refine lv_topi (fun x_2 ex_2 => ?_)
  refine va_iast (i := 3) (x := x_2) hx hb hK hP hD hS 3 2 rfl rfl (by unfold vp_in; decide) dX15_tellRow_47 (fun H locs hP hD hS => ?_)
  obtain ⟨f_3, ef_3⟩ : ∃ g : Nat → Int32, g = upd fe (3 : Int32).toNatClampNeg x_2 := ⟨_, rfl⟩
  rw [← ef_3] at hP hD
  have hP : va_P (dC, dI) cls [(q, .inr (15, F_1)), (sf, .inl (kf, 111152, .inl bf)), (sy, .inl (ky, 111152, .inl fy)), (se, .inl (ke, 5, .inl f_3))] H := hP
  have hD : va_D A [(q, .inr (15, F_1)), (sf, .inl (kf, 111152, .inl bf)), (sy, .inl (ky, 111152, .inl fy)), (se, .inl (ke, 5, .inl f_3))] := hD
  refine lv_aload_n hx hb dX15_tellRow_48 rfl (lv_at hl 2 rfl) ?_
  refine va_get (D := (dC, dI)) (ci := 15) (v := .ref sf) (C := RX15) (T := TX15) (N := 163) hx hb ht uX15 hown hK hP 0 rfl rfl 143 (by decide) (ht _ k_11_91) (fun _ h9 => h9) K143_F_1 dX15_tellRow_49 ?_
  refine lv_iload hx hb dX15_tellRow_52 (lv_at hl 1 rfl) ?_
  refine va_iald hx hb hK hP 1 0 rfl rfl (vp_in_nI (by omega) (by decide)) dX15_tellRow_54 ?_
  refine tk_i (y := (nI bq3)) (by rw [nI_clamp (by omega)]; exact eq3) ?_
  refine lv_istore (lv' := [(4, .int (nI bq3)), (5, .int 3), (0, .ref q), (1, .int 4), (2, .int (nI k)), (3, .int p3)]) hx hb dX15_tellRow_55 hl (by decide) rfl (fun ls hl => ?_)
  refine lv_iinc (v := 2) (lv' := [(5, .int 2), (4, .int (nI bq3)), (0, .ref q), (1, .int 4), (2, .int (nI k)), (3, .int p3)]) hx hb dX15_tellRow_57 hl (k := 1) rfl (by decide) (by decide) rfl (fun ls hl => ?_)
  refine lv_goto (tgt := 29) hx hb dX15_tellRow_60 (by decide) ?_
  refine lv_iload hx hb dX15_tellRow_29 (lv_at hl 0 rfl) ?_
  refine lv_if_lt (tgt := 63) hx hb dX15_tellRow_31 (by decide) (fun c0 => absurd c0 (by decide)) (fun _ => ?_)
  have hg2 : bq3 < 111152 := by have := (LV_big hV (by decide) 4 (by decide)).1; omega
  obtain ⟨bq2, eq2, hq2a, hq2b⟩ : ∃ b, bf bq3 = nI b ∧ L 2 ≤ b ∧ b < L 3 := hV.2.2.2.2 2 bq3 (by decide) hq3a hq3b
  refine lv_aload_n hx hb dX15_tellRow_34 rfl (lv_at hl 2 rfl) ?_
  refine va_get (D := (dC, dI)) (ci := 15) (v := .ref se) (C := RX15) (T := TX15) (N := 163) hx hb ht uX15 hown hK hP 0 rfl rfl 138 (by decide) (ht _ k_11_86) (fun _ h9 => h9) K138_F_1 dX15_tellRow_35 ?_
  refine lv_iload hx hb dX15_tellRow_38 (lv_at hl 0 rfl) ?_
  refine lv_aload_n hx hb dX15_tellRow_40 rfl (lv_at hl 2 rfl) ?_
  refine va_get (D := (dC, dI)) (ci := 15) (v := .ref sy) (C := RX15) (T := TX15) (N := 163) hx hb ht uX15 hown hK hP 0 rfl rfl 144 (by decide) (ht _ k_11_92) (fun _ h9 => h9) K144_F_1 dX15_tellRow_41 ?_
  refine lv_iload hx hb dX15_tellRow_44 (lv_at hl 1 rfl) ?_
  refine va_bald hx hb hK hP 2 1 rfl rfl (vp_in_nI (by omega) (by decide)) dX15_tellRow_46 ?_
  refine lv_topi (fun x_4 ex_4 => ?_)
  refine va_iast (i := 2) (x := x_4) hx hb hK hP hD hS 3 2 rfl rfl (by unfold vp_in; decide) dX15_tellRow_47 (fun H locs hP hD hS => ?_)
  obtain ⟨f_5, ef_5⟩ : ∃ g : Nat → Int32, g = upd f_3 (2 : Int32).toNatClampNeg x_4 := ⟨_, rfl⟩
  rw [← ef_5] at hP hD
  have hP : va_P (dC, dI) cls [(q, .inr (15, F_1)), (sf, .inl (kf, 111152, .inl bf)), (sy, .inl (ky, 111152, .inl fy)), (se, .inl (ke, 5, .inl f_5))] H := hP
  have hD : va_D A [(q, .inr (15, F_1)), (sf, .inl (kf, 111152, .inl bf)), (sy, .inl (ky, 111152, .inl fy)), (se, .inl (ke, 5, .inl f_5))] := hD
  refine lv_aload_n hx hb dX15_tellRow_48 rfl (lv_at hl 2 rfl) ?_
  refine va_get (D := (dC, dI)) (ci := 15) (v := .ref sf) (C := RX15) (T := TX15) (N := 163) hx hb ht uX15 hown hK hP 0 rfl rfl 143 (by decide) (ht _ k_11_91) (fun _ h9 => h9) K143_F_1 dX15_tellRow_49 ?_
  refine lv_iload hx hb dX15_tellRow_52 (lv_at hl 1 rfl) ?_
  refine va_iald hx hb hK hP 1 0 rfl rfl (vp_in_nI (by omega) (by decide)) dX15_tellRow_54 ?_
  refine tk_i (y := (nI bq2)) (by rw [nI_clamp (by omega)]; exact eq2) ?_
  refine lv_istore (lv' := [(4, .int (nI bq2)), (5, .int 2), (0, .ref q), (1, .int 4), (2, .int (nI k)), (3, .int p3)]) hx hb dX15_tellRow_55 hl (by decide) rfl (fun ls hl => ?_)
  refine lv_iinc (v := 1) (lv' := [(5, .int 1), (4, .int (nI bq2)), (0, .ref q), (1, .int 4), (2, .int (nI k)), (3, .int p3)]) hx hb dX15_tellRow_57 hl (k := 1) rfl (by decide) (by decide) rfl (fun ls hl => ?_)
  refine lv_goto (tgt := 29) hx hb dX15_tellRow_60 (by decide) ?_
  refine lv_iload hx hb dX15_tellRow_29 (lv_at hl 0 rfl) ?_
  refine lv_if_lt (tgt := 63) hx hb dX15_tellRow_31 (by decide) (fun c0 => absurd c0 (by decide)) (fun _ => ?_)
  have hg1 : bq2 < 111152 := by have := (LV_big hV (by decide) 3 (by decide)).1; omega
  obtain ⟨bq1, eq1, hq1a, hq1b⟩ : ∃ b, bf bq2 = nI b ∧ L 1 ≤ b ∧ b < L 2 := hV.2.2.2.2 1 bq2 (by decide) hq2a hq2b
  refine lv_aload_n hx hb dX15_tellRow_34 rfl (lv_at hl 2 rfl) ?_
  refine va_get (D := (dC, dI)) (ci := 15) (v := .ref se) (C := RX15) (T := TX15) (N := 163) hx hb ht uX15 hown hK hP 0 rfl rfl 138 (by decide) (ht _ k_11_86) (fun _ h9 => h9) K138_F_1 dX15_tellRow_35 ?_
  refine lv_iload hx hb dX15_tellRow_38 (lv_at hl 0 rfl) ?_
  refine lv_aload_n hx hb dX15_tellRow_40 rfl (lv_at hl 2 rfl) ?_
  refine va_get (D := (dC, dI)) (ci := 15) (v := .ref sy) (C := RX15) (T := TX15) (N := 163) hx hb ht uX15 hown hK hP 0 rfl rfl 144 (by decide) (ht _ k_11_92) (fun _ h9 => h9) K144_F_1 dX15_tellRow_41 ?_
  refine lv_iload hx hb dX15_tellRow_44 (lv_at hl 1 rfl) ?_
  refine va_bald hx hb hK hP 2 1 rfl rfl (vp_in_nI (by omega) (by decide)) dX15_tellRow_46 ?_
  refine lv_topi (fun x_6 ex_6 => ?_)
  refine va_iast (i := 1) (x := x_6) hx hb hK hP hD hS 3 2 rfl rfl (by unfold vp_in; decide) dX15_tellRow_47 (fun H locs hP hD hS => ?_)
  obtain ⟨f_7, ef_7⟩ : ∃ g : Nat → Int32, g = upd f_5 (1 : Int32).toNatClampNeg x_6 := ⟨_, rfl⟩
  rw [← ef_7] at hP hD
  have hP : va_P (dC, dI) cls [(q, .inr (15, F_1)), (sf, .inl (kf, 111152, .inl bf)), (sy, .inl (ky, 111152, .inl fy)), (se, .inl (ke, 5, .inl f_7))] H := hP
  have hD : va_D A [(q, .inr (15, F_1)), (sf, .inl (kf, 111152, .inl bf)), (sy, .inl (ky, 111152, .inl fy)), (se, .inl (ke, 5, .inl f_7))] := hD
  refine lv_aload_n hx hb dX15_tellRow_48 rfl (lv_at hl 2 rfl) ?_
  refine va_get (D := (dC, dI)) (ci := 15) (v := .ref sf) (C := RX15) (T := TX15) (N := 163) hx hb ht uX15 hown hK hP 0 rfl rfl 143 (by decide) (ht _ k_11_91) (fun _ h9 => h9) K143_F_1 dX15_tellRow_49 ?_
  refine lv_iload hx hb dX15_tellRow_52 (lv_at hl 1 rfl) ?_
  refine va_iald hx hb hK hP 1 0 rfl rfl (vp_in_nI (by omega) (by decide)) dX15_tellRow_54 ?_
  refine tk_i (y := (nI bq1)) (by rw [nI_clamp (by omega)]; exact eq1) ?_
  refine lv_istore (lv' := [(4, .int (nI bq1)), (5, .int 1), (0, .ref q), (1, .int 4), (2, .int (nI k)), (3, .int p3)]) hx hb dX15_tellRow_55 hl (by decide) rfl (fun ls hl => ?_)
  refine lv_iinc (v := 0) (lv' := [(5, .int 0), (4, .int (nI bq1)), (0, .ref q), (1, .int 4), (2, .int (nI k)), (3, .int p3)]) hx hb dX15_tellRow_57 hl (k := 1) rfl (by decide) (by decide) rfl (fun ls hl => ?_)
  refine lv_goto (tgt := 29) hx hb dX15_tellRow_60 (by decide) ?_
  refine lv_iload hx hb dX15_tellRow_29 (lv_at hl 0 rfl) ?_
  refine lv_if_lt (tgt := 63) hx hb dX15_tellRow_31 (by decide) (fun c0 => absurd c0 (by decide)) (fun _ => ?_)
  have hg0 : bq1 < 111152 := by have := (LV_big hV (by decide) 2 (by decide)).1; omega
  obtain ⟨bq0, eq0, hq0a, hq0b⟩ : ∃ b, bf bq1 = nI b ∧ L 0 ≤ b ∧ b < L 1 := hV.2.2.2.2 0 bq1 (by decide) hq1a hq1b
  refine lv_aload_n hx hb dX15_tellRow_34 rfl (lv_at hl 2 rfl) ?_
  refine va_get (D := (dC, dI)) (ci := 15) (v := .ref se) (C := RX15) (T := TX15) (N := 163) hx hb ht uX15 hown hK hP 0 rfl rfl 138 (by decide) (ht _ k_11_86) (fun _ h9 => h9) K138_F_1 dX15_tellRow_35 ?_
  refine lv_iload hx hb dX15_tellRow_38 (lv_at hl 0 rfl) ?_
  refine lv_aload_n hx hb dX15_tellRow_40 rfl (lv_at hl 2 rfl) ?_
  refine va_get (D := (dC, dI)) (ci := 15) (v := .ref sy) (C := RX15) (T := TX15) (N := 163) hx hb ht uX15 hown hK hP 0 rfl rfl 144 (by decide) (ht _ k_11_92) (fun _ h9 => h9) K144_F_1 dX15_tellRow_41 ?_
  refine lv_iload hx hb dX15_tellRow_44 (lv_at hl 1 rfl) ?_
  refine va_bald hx hb hK hP 2 1 rfl rfl (vp_in_nI (by omega) (by decide)) dX15_tellRow_46 ?_
  refine lv_topi (fun x_8 ex_8 => ?_)
  refine va_iast (i := 0) (x := x_8) hx hb hK hP hD hS 3 2 rfl rfl (by unfold vp_in; decide) dX15_tellRow_47 (fun H locs hP hD hS => ?_)
  obtain ⟨f_9, ef_9⟩ : ∃ g : Nat → Int32, g = upd f_7 (0 : Int32).toNatClampNeg x_8 := ⟨_, rfl⟩
  rw [← ef_9] at hP hD
  have hP : va_P (dC, dI) cls [(q, .inr (15, F_1)), (sf, .inl (kf, 111152, .inl bf)), (sy, .inl (ky, 111152, .inl fy)), (se, .inl (ke, 5, .inl f_9))] H := hP
  have hD : va_D A [(q, .inr (15, F_1)), (sf, .inl (kf, 111152, .inl bf)), (sy, .inl (ky, 111152, .inl fy)), (se, .inl (ke, 5, .inl f_9))] := hD
  refine lv_aload_n hx hb dX15_tellRow_48 rfl (lv_at hl 2 rfl) ?_
  refine va_get (D := (dC, dI)) (ci := 15) (v := .ref sf) (C := RX15) (T := TX15) (N := 163) hx hb ht uX15 hown hK hP 0 rfl rfl 143 (by decide) (ht _ k_11_91) (fun _ h9 => h9) K143_F_1 dX15_tellRow_49 ?_
  refine lv_iload hx hb dX15_tellRow_52 (lv_at hl 1 rfl) ?_
  refine va_iald hx hb hK hP 1 0 rfl rfl (vp_in_nI (by omega) (by decide)) dX15_tellRow_54 ?_
  refine tk_i (y := (nI bq0)) (by rw [nI_clamp (by omega)]; exact eq0) ?_
  refine lv_istore (lv' := [(4, .int (nI bq0)), (5, .int 0), (0, .ref q), (1, .int 4), (2, .int (nI k)), (3, .int p3)]) hx hb dX15_tellRow_55 hl (by decide) rfl (fun ls hl => ?_)
  refine lv_iinc (v := (-1)) (lv' := [(5, .int (-1)), (4, .int (nI bq0)), (0, .ref q), (1, .int 4), (2, .int (nI k)), (3, .int p3)]) hx hb dX15_tellRow_57 hl (k := 1) rfl (by decide) (by decide) rfl (fun ls hl => ?_)
  refine lv_goto (tgt := 29) hx hb dX15_tellRow_60 (by decide) ?_
  refine lv_iload hx hb dX15_tellRow_29 (lv_at hl 0 rfl) ?_
  refine lv_if_lt (tgt := 63) hx hb dX15_tellRow_31 (by decide) (fun _ => ?_) (fun c0 => absurd c0 (by decide))
  refine lv_iload_n hx hb dX15_tellRow_63 rfl (lv_at hl 3 rfl) ?_
  exact W.iret (v := 4) hx hb hr (fun t ht9 hW => ⟨⟨4, (), rfl, rfl, by rw [ht9]; exact hP.sub [] rfl, va_K.moved hW.alike (hK.sub [] rfl), hD.sub [] (by decide) rfl⟩, hS.F ht9⟩) hS.2.2 dX15_tellRow_64
set_option maxHeartbeats 4000000 in
set_option maxRecDepth 100000 in
theorem r_tellRow_5 (l : Launch) (dC : Nat → ClassId) (dI : Nat → Nat → Nat) (sz : Nat) (q : Nat) (fs : List Value) (sf : Nat) (sy : Nat) (se : Nat) (kf : ClassId) (ky : ClassId) (ke : ClassId) (bf : Nat → Int32) (fy : Nat → Int32) (fe : Nat → Int32) (k : Nat) (p3 : Int32) (L : Nat → Nat) (fA : Nat → Int64) (fB : Nat → Int64) (L_fs : fs.length = 163) (K138_fs : fs[138]? = some (.ref se)) (K143_fs : fs[143]? = some (.ref sf)) (K144_fs : fs[144]? = some (.ref sy)) (hV : LV 5 L fA fB bf) (hk1 : L 4 ≤ k) (hk2 : k < L 5) : Met l yX15_tellRow (Cond.code yX15_tellRow cX15_tellRow 6 (some .int) :: tb) ({ frames := 1, cells := 0, slots := 0, locals := 13 }) (pcw [.ref q, .int 5, .int (nI k), .int p3] (dC, dI) [(q, .inr (15, fs)), (sf, .inl (kf, 111152, .inl bf)), (sy, .inl (ky, 111152, .inl fy)), (se, .inl (ke, 5, .inl fe))] [(kf, .int), (ky, .byte), (ke, .int)] sz) (va_Qi (fun (r : Int32) => (fun (_ : Unit) => r = 5)) (bw (dC, dI) (va_A [(q, .inr (15, fs)), (sf, .inl (kf, 111152, .inl bf)), (sy, .inl (ky, 111152, .inl fy)), (se, .inl (ke, 5, .inl fe))] sz) (fun (_ : Unit) => []) (fun (_ : Unit) => [])) (va_A [(q, .inr (15, fs)), (sf, .inl (kf, 111152, .inl bf)), (sy, .inl (ky, 111152, .inl fy)), (se, .inl (ke, 5, .inl fe))] sz)) 0 0 (va_A [(q, .inr (15, fs)), (sf, .inl (kf, 111152, .inl bf)), (sy, .inl (ky, 111152, .inl fy)), (se, .inl (ke, 5, .inl fe))] sz) := by
  refine Met.ofW (cc := cX15_tellRow) (maxL := 6) (ret := (some .int)) (by decide) rfl ?_
  intro p e s m args below meth c s₁ B hml hv
  obtain ⟨rfl, hsz, hP, hK, hD0⟩ := hv
  have hx := B.exec
  have hb := B.bytes
  have hr := B.returns
  have hts := atoms_spec (ws := Cond.code yX15_tellRow cX15_tellRow 6 (some .int) :: tb) B.pre
  have ht : ∀ w ∈ tb, w.before _ s = true := fun w h => hts w (List.mem_cons_of_mem _ h)
  have hown : s.vm.findClass RX15 = some m.cls := findClass_of_methodNamed B.named
  have hlocks := B.notSynchronized
  subst hsz
  have hD := hD0.self (sz := s.heap.size)
  generalize hAe : va_A [(q, .inr (15, fs)), (sf, .inl (kf, 111152, .inl bf)), (sy, .inl (ky, 111152, .inl fy)), (se, .inl (ke, 5, .inl fe))] s.heap.size = A at hD ⊢
  have hA : ∀ q : Nat, s.heap.size ≤ q → A q := fun q h => by rw [← hAe]; exact Or.inr h
  have hS : va_S A s.heap s.heap [] := va_S.rf
  have hl := lv_entry ([.ref q, .int 5, .int (nI k), .int p3]) (n := 6) (Nat.le_of_ble_eq_true rfl)
  rw [lg_entry_eq]
  generalize (lg_sl ([.ref q, .int 5, .int (nI k), .int p3]) ++ List.replicate (6 - (lg_sl ([.ref q, .int 5, .int (nI k), .int p3])).length) Slot.unset).toArray = ls at hl ⊢
  have hl : lv_has ls 6 [(0, .ref q), (1, .int 5), (2, .int (nI k)), (3, .int p3)] := hl
  have hP : va_P (dC, dI) cls [(q, .inr (15, fs)), (sf, .inl (kf, 111152, .inl bf)), (sy, .inl (ky, 111152, .inl fy)), (se, .inl (ke, 5, .inl fe))] s.heap := hP
  refine lv_aload_n hx hb dX15_tellRow_0 rfl (lv_at hl 0 rfl) ?_
  refine lv_iload_n hx hb dX15_tellRow_1 rfl (lv_at hl 1 rfl) ?_
  refine va_put (D := (dC, dI)) (ci := 15) (v := .int 5) (ty := .int) (C := RX15) (T := TX15) (N := 163) hx hb ht uX15 tyX15 tkX15 nmX15 hown hK hP hD hS 0 rfl rfl 137 (by decide) (ht _ k_11_85) (fun _ h9 => h9) rfl (by decide +kernel) rfl rfl (by rw [L_fs]; decide) dX15_tellRow_2 (fun H locs hP hD hS => ?_)
  obtain ⟨F_1, eF_1⟩ : ∃ g : List Value, g = fs.set 137 (.int 5) := ⟨_, rfl⟩
  rw [← eF_1] at hP hD
  have K138_F_1 : F_1[138]? = some (.ref se) := by rw [eF_1, List.getElem?_set_ne (by decide)]; exact K138_fs
  have K143_F_1 : F_1[143]? = some (.ref sf) := by rw [eF_1, List.getElem?_set_ne (by decide)]; exact K143_fs
  have K144_F_1 : F_1[144]? = some (.ref sy) := by rw [eF_1, List.getElem?_set_ne (by decide)]; exact K144_fs
  have K137_F_1 : F_1[137]? = some (.int 5) := by rw [eF_1]; exact List.getElem?_set_self (by rw [L_fs]; decide)
  have L_F_1 : F_1.length = 163 := by rw [eF_1, List.length_set]; exact L_fs
  have hP : va_P (dC, dI) cls [(q, .inr (15, F_1)), (sf, .inl (kf, 111152, .inl bf)), (sy, .inl (ky, 111152, .inl fy)), (se, .inl (ke, 5, .inl fe))] H := hP
  have hD : va_D A [(q, .inr (15, F_1)), (sf, .inl (kf, 111152, .inl bf)), (sy, .inl (ky, 111152, .inl fy)), (se, .inl (ke, 5, .inl fe))] := hD
  refine lv_iload_n hx hb dX15_tellRow_5 rfl (lv_at hl 2 rfl) ?_
  refine lv_istore (lv' := [(4, .int (nI k)), (0, .ref q), (1, .int 5), (2, .int (nI k)), (3, .int p3)]) hx hb dX15_tellRow_6 hl (by decide) rfl (fun ls hl => ?_)
  refine lv_iload_n hx hb dX15_tellRow_8 rfl (lv_at hl 2 rfl) ?_
  refine lv_iconst (v := 5) hx hb dX15_tellRow_9 (by decide) ?_
  refine lv_icmp_ne (tgt := 20) hx hb dX15_tellRow_10 (by decide) (fun c0 => absurd c0 (by decide)) (fun _ => ?_)
  refine lv_aload_n hx hb dX15_tellRow_13 rfl (lv_at hl 1 rfl) ?_
  refine va_get (D := (dC, dI)) (ci := 15) (v := .ref se) (C := RX15) (T := TX15) (N := 163) hx hb ht uX15 hown hK hP 0 rfl rfl 138 (by decide) (ht _ k_11_86) (fun _ h9 => h9) K138_F_1 dX15_tellRow_14 ?_
  refine lv_iconst (v := 4) hx hb dX15_tellRow_17 (by decide) ?_
  refine lv_iload_n hx hb dX15_tellRow_18 rfl (lv_at hl 4 rfl) ?_
  refine va_iast (i := 4) (x := p3) hx hb hK hP hD hS 3 2 rfl rfl (by unfold vp_in; decide) dX15_tellRow_19 (fun H locs hP hD hS => ?_)
  obtain ⟨f_2, ef_2⟩ : ∃ g : Nat → Int32, g = upd fe (4 : Int32).toNatClampNeg p3 := ⟨_, rfl⟩
  rw [← ef_2] at hP hD
  have hP : va_P (dC, dI) cls [(q, .inr (15, F_1)), (sf, .inl (kf, 111152, .inl bf)), (sy, .inl (ky, 111152, .inl fy)), (se, .inl (ke, 5, .inl f_2))] H := hP
  have hD : va_D A [(q, .inr (15, F_1)), (sf, .inl (kf, 111152, .inl bf)), (sy, .inl (ky, 111152, .inl fy)), (se, .inl (ke, 5, .inl f_2))] := hD
  refine lv_iload_n hx hb dX15_tellRow_20 rfl (lv_at hl 2 rfl) ?_
  refine lv_iconst (v := 4) hx hb dX15_tellRow_21 (by decide) ?_
  refine va_mmin hx hb (hml.trans hl.1.symm) hown (ht _ k_13_25) (ht _ k_7_235) (ht _ k_1_27) (ht _ k_mmin) (Nat.le_of_ble_eq_true rfl) (Nat.le_of_ble_eq_true rfl) (Nat.le_of_ble_eq_true rfl) (Nat.le_of_ble_eq_true rfl) dX15_tellRow_22 ?_
  refine tk_i (y := 4) (by decide) ?_
  refine lv_iconst (v := 1) hx hb dX15_tellRow_25 (by decide) ?_
  refine lv_isub hx hb dX15_tellRow_26 ?_
  refine tk_i (y := 3) (by decide) ?_
  refine lv_istore (lv' := [(5, .int 3), (4, .int (nI k)), (0, .ref q), (1, .int 5), (2, .int (nI k)), (3, .int p3)]) hx hb dX15_tellRow_27 hl (by decide) rfl (fun ls hl => ?_)
  refine lv_iload hx hb dX15_tellRow_29 (lv_at hl 0 rfl) ?_
  refine lv_if_lt (tgt := 63) hx hb dX15_tellRow_31 (by decide) (fun c0 => absurd c0 (by decide)) (fun _ => ?_)
  have hg3 : k < 111152 := by have := (LV_big hV (by decide) 5 (by decide)).1; omega
  obtain ⟨bq3, eq3, hq3a, hq3b⟩ : ∃ b, bf k = nI b ∧ L 3 ≤ b ∧ b < L 4 := hV.2.2.2.2 3 k (by decide) hk1 hk2
  refine lv_aload_n hx hb dX15_tellRow_34 rfl (lv_at hl 2 rfl) ?_
  refine va_get (D := (dC, dI)) (ci := 15) (v := .ref se) (C := RX15) (T := TX15) (N := 163) hx hb ht uX15 hown hK hP 0 rfl rfl 138 (by decide) (ht _ k_11_86) (fun _ h9 => h9) K138_F_1 dX15_tellRow_35 ?_
  refine lv_iload hx hb dX15_tellRow_38 (lv_at hl 0 rfl) ?_
  refine lv_aload_n hx hb dX15_tellRow_40 rfl (lv_at hl 2 rfl) ?_
  refine va_get (D := (dC, dI)) (ci := 15) (v := .ref sy) (C := RX15) (T := TX15) (N := 163) hx hb ht uX15 hown hK hP 0 rfl rfl 144 (by decide) (ht _ k_11_92) (fun _ h9 => h9) K144_F_1 dX15_tellRow_41 ?_
  refine lv_iload hx hb dX15_tellRow_44 (lv_at hl 1 rfl) ?_
  refine va_bald hx hb hK hP 2 1 rfl rfl (vp_in_nI (by omega) (by decide)) dX15_tellRow_46 ?_
  refine lv_topi (fun x_3 ex_3 => ?_)
  refine va_iast (i := 3) (x := x_3) hx hb hK hP hD hS 3 2 rfl rfl (by unfold vp_in; decide) dX15_tellRow_47 (fun H locs hP hD hS => ?_)
  obtain ⟨f_4, ef_4⟩ : ∃ g : Nat → Int32, g = upd f_2 (3 : Int32).toNatClampNeg x_3 := ⟨_, rfl⟩
  rw [← ef_4] at hP hD
  have hP : va_P (dC, dI) cls [(q, .inr (15, F_1)), (sf, .inl (kf, 111152, .inl bf)), (sy, .inl (ky, 111152, .inl fy)), (se, .inl (ke, 5, .inl f_4))] H := hP
  have hD : va_D A [(q, .inr (15, F_1)), (sf, .inl (kf, 111152, .inl bf)), (sy, .inl (ky, 111152, .inl fy)), (se, .inl (ke, 5, .inl f_4))] := hD
  refine lv_aload_n hx hb dX15_tellRow_48 rfl (lv_at hl 2 rfl) ?_
  refine va_get (D := (dC, dI)) (ci := 15) (v := .ref sf) (C := RX15) (T := TX15) (N := 163) hx hb ht uX15 hown hK hP 0 rfl rfl 143 (by decide) (ht _ k_11_91) (fun _ h9 => h9) K143_F_1 dX15_tellRow_49 ?_
  refine lv_iload hx hb dX15_tellRow_52 (lv_at hl 1 rfl) ?_
  refine va_iald hx hb hK hP 1 0 rfl rfl (vp_in_nI (by omega) (by decide)) dX15_tellRow_54 ?_
  refine tk_i (y := (nI bq3)) (by rw [nI_clamp (by omega)]; exact eq3) ?_
  refine lv_istore (lv' := [(4, .int (nI bq3)), (5, .int 3), (0, .ref q), (1, .int 5), (2, .int (nI k)), (3, .int p3)]) hx hb dX15_tellRow_55 hl (by decide) rfl (fun ls hl => ?_)
  refine lv_iinc (v := 2) (lv' := [(5, .int 2), (4, .int (nI bq3)), (0, .ref q), (1, .int 5), (2, .int (nI k)), (3, .int p3)]) hx hb dX15_tellRow_57 hl (k := 1) rfl (by decide) (by decide) rfl (fun ls hl => ?_)
  refine lv_goto (tgt := 29) hx hb dX15_tellRow_60 (by decide) ?_
  refine lv_iload hx hb dX15_tellRow_29 (lv_at hl 0 rfl) ?_
  refine lv_if_lt (tgt := 63) hx hb dX15_tellRow_31 (by decide) (fun c0 => absurd c0 (by decide)) (fun _ => ?_)
  have hg2 : bq3 < 111152 := by have := (LV_big hV (by decide) 4 (by decide)).1; omega
  obtain ⟨bq2, eq2, hq2a, hq2b⟩ : ∃ b, bf bq3 = nI b ∧ L 2 ≤ b ∧ b < L 3 := hV.2.2.2.2 2 bq3 (by decide) hq3a hq3b
  refine lv_aload_n hx hb dX15_tellRow_34 rfl (lv_at hl 2 rfl) ?_
  refine va_get (D := (dC, dI)) (ci := 15) (v := .ref se) (C := RX15) (T := TX15) (N := 163) hx hb ht uX15 hown hK hP 0 rfl rfl 138 (by decide) (ht _ k_11_86) (fun _ h9 => h9) K138_F_1 dX15_tellRow_35 ?_
  refine lv_iload hx hb dX15_tellRow_38 (lv_at hl 0 rfl) ?_
  refine lv_aload_n hx hb dX15_tellRow_40 rfl (lv_at hl 2 rfl) ?_
  refine va_get (D := (dC, dI)) (ci := 15) (v := .ref sy) (C := RX15) (T := TX15) (N := 163) hx hb ht uX15 hown hK hP 0 rfl rfl 144 (by decide) (ht _ k_11_92) (fun _ h9 => h9) K144_F_1 dX15_tellRow_41 ?_
  refine lv_iload hx hb dX15_tellRow_44 (lv_at hl 1 rfl) ?_
  refine va_bald hx hb hK hP 2 1 rfl rfl (vp_in_nI (by omega) (by decide)) dX15_tellRow_46 ?_
  refine lv_topi (fun x_5 ex_5 => ?_)
  refine va_iast (i := 2) (x := x_5) hx hb hK hP hD hS 3 2 rfl rfl (by unfold vp_in; decide) dX15_tellRow_47 (fun H locs hP hD hS => ?_)
  obtain ⟨f_6, ef_6⟩ : ∃ g : Nat → Int32, g = upd f_4 (2 : Int32).toNatClampNeg x_5 := ⟨_, rfl⟩
  rw [← ef_6] at hP hD
  have hP : va_P (dC, dI) cls [(q, .inr (15, F_1)), (sf, .inl (kf, 111152, .inl bf)), (sy, .inl (ky, 111152, .inl fy)), (se, .inl (ke, 5, .inl f_6))] H := hP
  have hD : va_D A [(q, .inr (15, F_1)), (sf, .inl (kf, 111152, .inl bf)), (sy, .inl (ky, 111152, .inl fy)), (se, .inl (ke, 5, .inl f_6))] := hD
  refine lv_aload_n hx hb dX15_tellRow_48 rfl (lv_at hl 2 rfl) ?_
  refine va_get (D := (dC, dI)) (ci := 15) (v := .ref sf) (C := RX15) (T := TX15) (N := 163) hx hb ht uX15 hown hK hP 0 rfl rfl 143 (by decide) (ht _ k_11_91) (fun _ h9 => h9) K143_F_1 dX15_tellRow_49 ?_
  refine lv_iload hx hb dX15_tellRow_52 (lv_at hl 1 rfl) ?_
  refine va_iald hx hb hK hP 1 0 rfl rfl (vp_in_nI (by omega) (by decide)) dX15_tellRow_54 ?_
  refine tk_i (y := (nI bq2)) (by rw [nI_clamp (by omega)]; exact eq2) ?_
  refine lv_istore (lv' := [(4, .int (nI bq2)), (5, .int 2), (0, .ref q), (1, .int 5), (2, .int (nI k)), (3, .int p3)]) hx hb dX15_tellRow_55 hl (by decide) rfl (fun ls hl => ?_)
  refine lv_iinc (v := 1) (lv' := [(5, .int 1), (4, .int (nI bq2)), (0, .ref q), (1, .int 5), (2, .int (nI k)), (3, .int p3)]) hx hb dX15_tellRow_57 hl (k := 1) rfl (by decide) (by decide) rfl (fun ls hl => ?_)
  refine lv_goto (tgt := 29) hx hb dX15_tellRow_60 (by decide) ?_
  refine lv_iload hx hb dX15_tellRow_29 (lv_at hl 0 rfl) ?_
  refine lv_if_lt (tgt := 63) hx hb dX15_tellRow_31 (by decide) (fun c0 => absurd c0 (by decide)) (fun _ => ?_)
  have hg1 : bq2 < 111152 := by have := (LV_big hV (by decide) 3 (by decide)).1; omega
  obtain ⟨bq1, eq1, hq1a, hq1b⟩ : ∃ b, bf bq2 = nI b ∧ L 1 ≤ b ∧ b < L 2 := hV.2.2.2.2 1 bq2 (by decide) hq2a hq2b
  refine lv_aload_n hx hb dX15_tellRow_34 rfl (lv_at hl 2 rfl) ?_
  refine va_get (D := (dC, dI)) (ci := 15) (v := .ref se) (C := RX15) (T := TX15) (N := 163) hx hb ht uX15 hown hK hP 0 rfl rfl 138 (by decide) (ht _ k_11_86) (fun _ h9 => h9) K138_F_1 dX15_tellRow_35 ?_
  refine lv_iload hx hb dX15_tellRow_38 (lv_at hl 0 rfl) ?_
  refine lv_aload_n hx hb dX15_tellRow_40 rfl (lv_at hl 2 rfl) ?_
  refine va_get (D := (dC, dI)) (ci := 15) (v := .ref sy) (C := RX15) (T := TX15) (N := 163) hx hb ht uX15 hown hK hP 0 rfl rfl 144 (by decide) (ht _ k_11_92) (fun _ h9 => h9) K144_F_1 dX15_tellRow_41 ?_
  refine lv_iload hx hb dX15_tellRow_44 (lv_at hl 1 rfl) ?_
  refine va_bald hx hb hK hP 2 1 rfl rfl (vp_in_nI (by omega) (by decide)) dX15_tellRow_46 ?_
  refine lv_topi (fun x_7 ex_7 => ?_)
  refine va_iast (i := 1) (x := x_7) hx hb hK hP hD hS 3 2 rfl rfl (by unfold vp_in; decide) dX15_tellRow_47 (fun H locs hP hD hS => ?_)
  obtain ⟨f_8, ef_8⟩ : ∃ g : Nat → Int32, g = upd f_6 (1 : Int32).toNatClampNeg x_7 := ⟨_, rfl⟩
  rw [← ef_8] at hP hD
  have hP : va_P (dC, dI) cls [(q, .inr (15, F_1)), (sf, .inl (kf, 111152, .inl bf)), (sy, .inl (ky, 111152, .inl fy)), (se, .inl (ke, 5, .inl f_8))] H := hP
  have hD : va_D A [(q, .inr (15, F_1)), (sf, .inl (kf, 111152, .inl bf)), (sy, .inl (ky, 111152, .inl fy)), (se, .inl (ke, 5, .inl f_8))] := hD
  refine lv_aload_n hx hb dX15_tellRow_48 rfl (lv_at hl 2 rfl) ?_
  refine va_get (D := (dC, dI)) (ci := 15) (v := .ref sf) (C := RX15) (T := TX15) (N := 163) hx hb ht uX15 hown hK hP 0 rfl rfl 143 (by decide) (ht _ k_11_91) (fun _ h9 => h9) K143_F_1 dX15_tellRow_49 ?_
  refine lv_iload hx hb dX15_tellRow_52 (lv_at hl 1 rfl) ?_
  refine va_iald hx hb hK hP 1 0 rfl rfl (vp_in_nI (by omega) (by decide)) dX15_tellRow_54 ?_
  refine tk_i (y := (nI bq1)) (by rw [nI_clamp (by omega)]; exact eq1) ?_
  refine lv_istore (lv' := [(4, .int (nI bq1)), (5, .int 1), (0, .ref q), (1, .int 5), (2, .int (nI k)), (3, .int p3)]) hx hb dX15_tellRow_55 hl (by decide) rfl (fun ls hl => ?_)
  refine lv_iinc (v := 0) (lv' := [(5, .int 0), (4, .int (nI bq1)), (0, .ref q), (1, .int 5), (2, .int (nI k)), (3, .int p3)]) hx hb dX15_tellRow_57 hl (k := 1) rfl (by decide) (by decide) rfl (fun ls hl => ?_)
  refine lv_goto (tgt := 29) hx hb dX15_tellRow_60 (by decide) ?_
  refine lv_iload hx hb dX15_tellRow_29 (lv_at hl 0 rfl) ?_
  refine lv_if_lt (tgt := 63) hx hb dX15_tellRow_31 (by decide) (fun c0 => absurd c0 (by decide)) (fun _ => ?_)
  have hg0 : bq1 < 111152 := by have := (LV_big hV (by decide) 2 (by decide)).1; omega
  obtain ⟨bq0, eq0, hq0a, hq0b⟩ : ∃ b, bf bq1 = nI b ∧ L 0 ≤ b ∧ b < L 1 := hV.2.2.2.2 0 bq1 (by decide) hq1a hq1b
  refine lv_aload_n hx hb dX15_tellRow_34 rfl (lv_at hl 2 rfl) ?_
  refine va_get (D := (dC, dI)) (ci := 15) (v := .ref se) (C := RX15) (T := TX15) (N := 163) hx hb ht uX15 hown hK hP 0 rfl rfl 138 (by decide) (ht _ k_11_86) (fun _ h9 => h9) K138_F_1 dX15_tellRow_35 ?_
  refine lv_iload hx hb dX15_tellRow_38 (lv_at hl 0 rfl) ?_
  refine lv_aload_n hx hb dX15_tellRow_40 rfl (lv_at hl 2 rfl) ?_
  refine va_get (D := (dC, dI)) (ci := 15) (v := .ref sy) (C := RX15) (T := TX15) (N := 163) hx hb ht uX15 hown hK hP 0 rfl rfl 144 (by decide) (ht _ k_11_92) (fun _ h9 => h9) K144_F_1 dX15_tellRow_41 ?_
  refine lv_iload hx hb dX15_tellRow_44 (lv_at hl 1 rfl) ?_
  refine va_bald hx hb hK hP 2 1 rfl rfl (vp_in_nI (by omega) (by decide)) dX15_tellRow_46 ?_
  refine lv_topi (fun x_9 ex_9 => ?_)
  refine va_iast (i := 0) (x := x_9) hx hb hK hP hD hS 3 2 rfl rfl (by unfold vp_in; decide) dX15_tellRow_47 (fun H locs hP hD hS => ?_)
  obtain ⟨f_10, ef_10⟩ : ∃ g : Nat → Int32, g = upd f_8 (0 : Int32).toNatClampNeg x_9 := ⟨_, rfl⟩
  rw [← ef_10] at hP hD
  have hP : va_P (dC, dI) cls [(q, .inr (15, F_1)), (sf, .inl (kf, 111152, .inl bf)), (sy, .inl (ky, 111152, .inl fy)), (se, .inl (ke, 5, .inl f_10))] H := hP
  have hD : va_D A [(q, .inr (15, F_1)), (sf, .inl (kf, 111152, .inl bf)), (sy, .inl (ky, 111152, .inl fy)), (se, .inl (ke, 5, .inl f_10))] := hD
  refine lv_aload_n hx hb dX15_tellRow_48 rfl (lv_at hl 2 rfl) ?_
  refine va_get (D := (dC, dI)) (ci := 15) (v := .ref sf) (C := RX15) (T := TX15) (N := 163) hx hb ht uX15 hown hK hP 0 rfl rfl 143 (by decide) (ht _ k_11_91) (fun _ h9 => h9) K143_F_1 dX15_tellRow_49 ?_
  refine lv_iload hx hb dX15_tellRow_52 (lv_at hl 1 rfl) ?_
  refine va_iald hx hb hK hP 1 0 rfl rfl (vp_in_nI (by omega) (by decide)) dX15_tellRow_54 ?_
  refine tk_i (y := (nI bq0)) (by rw [nI_clamp (by omega)]; exact eq0) ?_
  refine lv_istore (lv' := [(4, .int (nI bq0)), (5, .int 0), (0, .ref q), (1, .int 5), (2, .int (nI k)), (3, .int p3)]) hx hb dX15_tellRow_55 hl (by decide) rfl (fun ls hl => ?_)
  refine lv_iinc (v := (-1)) (lv' := [(5, .int (-1)), (4, .int (nI bq0)), (0, .ref q), (1, .int 5), (2, .int (nI k)), (3, .int p3)]) hx hb dX15_tellRow_57 hl (k := 1) rfl (by decide) (by decide) rfl (fun ls hl => ?_)
  refine lv_goto (tgt := 29) hx hb dX15_tellRow_60 (by decide) ?_
  refine lv_iload hx hb dX15_tellRow_29 (lv_at hl 0 rfl) ?_
  refine lv_if_lt (tgt := 63) hx hb dX15_tellRow_31 (by decide) (fun _ => ?_) (fun c0 => absurd c0 (by decide))
  refine lv_iload_n hx hb dX15_tellRow_63 rfl (lv_at hl 3 rfl) ?_
  exact W.iret (v := 5) hx hb hr (fun t ht9 hW => ⟨⟨5, (), rfl, rfl, by rw [ht9]; exact hP.sub [] rfl, va_K.moved hW.alike (hK.sub [] rfl), hD.sub [] (by decide) rfl⟩, hS.F ht9⟩) hS.2.2 dX15_tellRow_64
set_option maxHeartbeats 4000000 in
set_option maxRecDepth 100000 in
theorem r_addLast (l : Launch) (dC : Nat → ClassId) (dI : Nat → Nat → Nat) (sz : Nat) (q : Nat) (fs : List Value) (za : Nat) (zb : Nat) (zm : Nat) (sa : Nat) (sb : Nat) (sf : Nat) (sy : Nat) (lv : Nat) (se : Nat) (ja : ClassId) (jb : ClassId) (jm : ClassId) (gA : Nat → Int64) (gb : Nat → Int32) (gm : Nat → Int32) (lm : Nat) (al : Int32) (a : Int64) (k : Nat) (x : Nat) (L4 : Nat) (L5 : Nat) (fA : Nat → Int64) (fB : Nat → Int64) (L_fs : fs.length = 163) (K138_fs : fs[138]? = some (.ref se)) (K141_fs : fs[141]? = some (.ref sa)) (K142_fs : fs[142]? = some (.ref sb)) (K143_fs : fs[143]? = some (.ref sf)) (K144_fs : fs[144]? = some (.ref sy)) (K147_fs : fs[147]? = some (.ref lv)) (K149_fs : fs[149]? = some (.ref za)) (K150_fs : fs[150]? = some (.ref zb)) (K151_fs : fs[151]? = some (.ref zm)) (K152_fs : fs[152]? = some (.int (nI lm))) (K153_fs : fs[153]? = some (.int al)) (hLD : LD L4 L5 fA fB lm gA gb gm al k x) (hk1 : L4 ≤ k) (hk2 : k < L5) (hx18 : x < 18) (ha : a = nxA x (fA k) (fB k)) : Met l yX15_addLast (Cond.code yX15_addLast cX15_addLast 6 none :: tb) ({ frames := 1, cells := 0, slots := 0, locals := 24 }) (pcw [.ref q, .long a, .int (nI k), .int (nI x)] (dC, dI) [(q, .inr (15, fs)), (za, .inl (ja, 262144, .inr (.inl gA))), (zb, .inl (jb, 262144, .inl gb)), (zm, .inl (jm, 524288, .inl gm))] [(ja, .long), (jb, .int), (jm, .int)] sz) (va_Qv (fun (u : (List Value) × Nat × Int32 × (Nat → Int64) × (Nat → Int32) × (Nat → Int32)) => match u with | (fs1, lm1, al1, gA1, gb1, gm1) => (LD L4 L5 fA fB lm1 gA1 gb1 gm1 al1 k (x + 1)) ∧ (fs1.length = 163) ∧ (fs1[138]? = some (.ref se)) ∧ (fs1[141]? = some (.ref sa)) ∧ (fs1[142]? = some (.ref sb)) ∧ (fs1[143]? = some (.ref sf)) ∧ (fs1[144]? = some (.ref sy)) ∧ (fs1[147]? = some (.ref lv)) ∧ (fs1[149]? = some (.ref za)) ∧ (fs1[150]? = some (.ref zb)) ∧ (fs1[151]? = some (.ref zm)) ∧ (fs1[152]? = some (.int (nI lm1))) ∧ (fs1[153]? = some (.int al1))) (bw (dC, dI) (va_A [(q, .inr (15, fs)), (za, .inl (ja, 262144, .inr (.inl gA))), (zb, .inl (jb, 262144, .inl gb)), (zm, .inl (jm, 524288, .inl gm))] sz) (fun (u : (List Value) × Nat × Int32 × (Nat → Int64) × (Nat → Int32) × (Nat → Int32)) => match u with | (fs1, lm1, al1, gA1, gb1, gm1) => [(q, .inr (15, fs1)), (za, .inl (ja, 262144, .inr (.inl gA1))), (zb, .inl (jb, 262144, .inl gb1)), (zm, .inl (jm, 524288, .inl gm1))]) (fun (u : (List Value) × Nat × Int32 × (Nat → Int64) × (Nat → Int32) × (Nat → Int32)) => match u with | (fs1, lm1, al1, gA1, gb1, gm1) => [])) (va_A [(q, .inr (15, fs)), (za, .inl (ja, 262144, .inr (.inl gA))), (zb, .inl (jb, 262144, .inl gb)), (zm, .inl (jm, 524288, .inl gm))] sz)) 0 0 (va_A [(q, .inr (15, fs)), (za, .inl (ja, 262144, .inr (.inl gA))), (zb, .inl (jb, 262144, .inl gb)), (zm, .inl (jm, 524288, .inl gm))] sz) := by
  refine Met.ofW (cc := cX15_addLast) (maxL := 6) (ret := none) (by decide) rfl ?_
  intro p e s m args below meth c s₁ B hml hv
  obtain ⟨rfl, hsz, hP, hK, hD0⟩ := hv
  have hx := B.exec
  have hb := B.bytes
  have hr := B.returns
  have hts := atoms_spec (ws := Cond.code yX15_addLast cX15_addLast 6 none :: tb) B.pre
  have ht : ∀ w ∈ tb, w.before _ s = true := fun w h => hts w (List.mem_cons_of_mem _ h)
  have hown : s.vm.findClass RX15 = some m.cls := findClass_of_methodNamed B.named
  have hlocks := B.notSynchronized
  subst hsz
  have hD := hD0.self (sz := s.heap.size)
  generalize hAe : va_A [(q, .inr (15, fs)), (za, .inl (ja, 262144, .inr (.inl gA))), (zb, .inl (jb, 262144, .inl gb)), (zm, .inl (jm, 524288, .inl gm))] s.heap.size = A at hD ⊢
  have hA : ∀ q : Nat, s.heap.size ≤ q → A q := fun q h => by rw [← hAe]; exact Or.inr h
  have hS : va_S A s.heap s.heap [] := va_S.rf
  have hl := lv_entry ([.ref q, .long a, .int (nI k), .int (nI x)]) (n := 6) (Nat.le_of_ble_eq_true rfl)
  rw [lg_entry_eq]
  generalize (lg_sl ([.ref q, .long a, .int (nI k), .int (nI x)]) ++ List.replicate (6 - (lg_sl ([.ref q, .long a, .int (nI k), .int (nI x)])).length) Slot.unset).toArray = ls at hl ⊢
  have hl : lv_has ls 6 [(0, .ref q), (1, .long a), (3, .int (nI k)), (4, .int (nI x))] := hl
  have hP : va_P (dC, dI) cls [(q, .inr (15, fs)), (za, .inl (ja, 262144, .inr (.inl gA))), (zb, .inl (jb, 262144, .inl gb)), (zm, .inl (jm, 524288, .inl gm))] s.heap := hP
  refine lv_lload_n hx hb dX15_addLast_0 rfl (lv_at hl 1 rfl) ?_
  refine lv_lconst (v := 0) hx hb dX15_addLast_1 (by decide) ?_
  refine lv_bipush (v := 19) hx hb dX15_addLast_2 (by decide) ?_
  refine ca_i (wr := [(q, .inr (15, fs)), (za, .inl (ja, 262144, .inr (.inl gA))), (zb, .inl (jb, 262144, .inl gb)), (zm, .inl (jm, 524288, .inl gm))]) (va_runS (As := [.long a, .long 0, .int 19]) (rest := []) ⟨hx, hb, hml, hown, ht⟩ (r_sumOf_19 l dC dI s.heap.size a 0  ) (cwS 3 ht (gdS k_16_11 k_16_9 k_16_10 k_1_17) rfl rfl rfl (by decide +kernel) ⟨Nat.le_of_ble_eq_true rfl, Nat.le_of_ble_eq_true rfl⟩) ⟨pcw_blind, pcw_at hP hD hK [] [] (by decide) rfl rfl rfl⟩ rfl rfl hl.1 rfl (lv_room (Nat.le_of_ble_eq_true rfl)) dX15_addLast_4 ⟨Nat.le_of_ble_eq_true rfl, Nat.le_of_ble_eq_true rfl⟩) hP hD hK hS hA [] [0, 1, 2, 3] rfl rfl (by decide) (by decide) (fun r_1 u H locs w_2 hK hP hD hS => ?_)
  have hK : va_K (dC, dI) cls [(ja, .long), (jb, .int), (jm, .int)] s := hK
  have hP : va_P (dC, dI) cls [(q, .inr (15, fs)), (za, .inl (ja, 262144, .inr (.inl gA))), (zb, .inl (jb, 262144, .inl gb)), (zm, .inl (jm, 524288, .inl gm))] H := hP
  have hD : va_D A [(q, .inr (15, fs)), (za, .inl (ja, 262144, .inr (.inl gA))), (zb, .inl (jb, 262144, .inl gb)), (zm, .inl (jm, 524288, .inl gm))] := hD
  obtain rfl : r_1 = nI ((hsh 19 a 0 + 0) % 524288) := w_2.trans (by rw [Nat.add_zero, Nat.mod_eq_of_lt (show hsh 19 a 0 < 524288 from hsh_lt (k := 19) (by decide) a 0)])
  refine lv_istore (lv' := [(5, .int (nI ((hsh 19 a 0 + 0) % 524288))), (0, .ref q), (1, .long a), (3, .int (nI k)), (4, .int (nI x))]) hx hb dX15_addLast_7 hl (by decide) rfl (fun ls hl => ?_)
  have hlm := hLD.1
  obtain ⟨d, hd⟩ := few_open0 hLD.2.2.1 (show lm < 524288 by omega) (hsh_lt (k := 19) (by decide) a 0)
  refine lp_rule (fun H locs ls => W p l e _ s m _ below meth c H locs _ _ _ (F0 m 9 ls [])) (fun (z : Nat) H locs ls => match z with | i => va_P (dC, dI) cls [(q, .inr (15, fs)), (za, .inl (ja, 262144, .inr (.inl gA))), (zb, .inl (jb, 262144, .inl gb)), (zm, .inl (jm, 524288, .inl gm))] H ∧ va_D A [(q, .inr (15, fs)), (za, .inl (ja, 262144, .inr (.inl gA))), (zb, .inl (jb, 262144, .inl gb)), (zm, .inl (jm, 524288, .inl gm))] ∧ va_S A s.heap H locs ∧ lv_has ls 6 [(5, .int (nI ((hsh 19 a 0 + i) % 524288))), (4, .int (nI x)), (3, .int (nI k)), (1, .long a), (0, .ref q)] ∧ True ∧ i ≤ d ∧ ∀ i', i' < i → gm ((hsh 19 a 0 + i') % 524288) ≠ 0) (fun (z : Nat) => match z with | i => d - i) ?_ (0) H locs ls ⟨hP, hD, hS, lv_sub hl [0, 4, 3, 2, 1] rfl, trivial, (Nat.zero_le _), (fun i hi => absurd hi (Nat.not_lt_zero _))⟩
  intro z H locs ls hI ih9
  obtain ⟨i, rfl⟩ : ∃ y, y = z := ⟨_, rfl⟩
  obtain ⟨hP, hD, hS, hl, -, hid, hnz⟩ := hI
  have hP : va_P (dC, dI) cls [(q, .inr (15, fs)), (za, .inl (ja, 262144, .inr (.inl gA))), (zb, .inl (jb, 262144, .inl gb)), (zm, .inl (jm, 524288, .inl gm))] H := hP
  have hD : va_D A [(q, .inr (15, fs)), (za, .inl (ja, 262144, .inr (.inl gA))), (zb, .inl (jb, 262144, .inl gb)), (zm, .inl (jm, 524288, .inl gm))] := hD
  have hl : lv_has ls 6 [(5, .int (nI ((hsh 19 a 0 + i) % 524288))), (4, .int (nI x)), (3, .int (nI k)), (1, .long a), (0, .ref q)] := hl
  obtain ⟨v, hv, ev⟩ := hLD.2.2.1.1 ((hsh 19 a 0 + i) % 524288) (Nat.mod_lt _ (by decide))
  refine lv_aload_n hx hb dX15_addLast_9 rfl (lv_at hl 4 rfl) ?_
  refine va_get (D := (dC, dI)) (ci := 15) (v := .ref zm) (C := RX15) (T := TX15) (N := 163) hx hb ht uX15 hown hK hP 0 rfl rfl 151 (by decide) (ht _ k_11_99) (fun _ h9 => h9) K151_fs dX15_addLast_10 ?_
  refine lv_iload hx hb dX15_addLast_13 (lv_at hl 0 rfl) ?_
  refine va_iald hx hb hK hP 3 2 rfl rfl (vp_in_nI (by omega) (by decide)) dX15_addLast_15 ?_
  refine tk_i (y := (nI v)) (by rw [nI_clamp (by omega)]; exact ev) ?_
  refine lv_if_le (tgt := 52) hx hb dX15_addLast_16 (by decide) (fun b_3 => ?_) (fun b_3 => ?_)
  · have hz := ev
    rw [zero_of (by omega) b_3] at hz
    refine lv_aload_n hx hb dX15_addLast_52 rfl (lv_at hl 4 rfl) ?_
    refine va_get (D := (dC, dI)) (ci := 15) (v := .int (nI lm)) (C := RX15) (T := TX15) (N := 163) hx hb ht uX15 hown hK hP 0 rfl rfl 152 (by decide) (ht _ k_11_100) (fun _ h9 => h9) K152_fs dX15_addLast_53 ?_
    refine lv_ldcw (v := 262144) hx hb hown (ht _ k_16_3) dX15_addLast_56 ?_
    refine lv_icmp_ne (tgt := 68) hx hb dX15_addLast_59 (by decide) (fun b_4 => ?_) (fun b_4 => ?_)
    · have hlm2 : lm < 262144 := by
        rcases Nat.lt_or_ge lm 262144 with h | h
        · exact h
        · have e9 : lm = 262144 := by omega
          exact absurd (by rw [e9]; rfl) b_4
      refine lv_aload_n hx hb dX15_addLast_68 rfl (lv_at hl 4 rfl) ?_
      refine va_get (D := (dC, dI)) (ci := 15) (v := .ref za) (C := RX15) (T := TX15) (N := 163) hx hb ht uX15 hown hK hP 0 rfl rfl 149 (by decide) (ht _ k_11_97) (fun _ h9 => h9) K149_fs dX15_addLast_69 ?_
      refine lv_aload_n hx hb dX15_addLast_72 rfl (lv_at hl 4 rfl) ?_
      refine va_get (D := (dC, dI)) (ci := 15) (v := .int (nI lm)) (C := RX15) (T := TX15) (N := 163) hx hb ht uX15 hown hK hP 0 rfl rfl 152 (by decide) (ht _ k_11_100) (fun _ h9 => h9) K152_fs dX15_addLast_73 ?_
      refine lv_lload_n hx hb dX15_addLast_76 rfl (lv_at hl 3 rfl) ?_
      refine va_last (i := (nI lm)) (x := a) hx hb hK hP hD hS 1 0 rfl rfl (vp_in_nI (by omega) (by decide)) dX15_addLast_77 (fun H locs hP hD hS => ?_)
      obtain ⟨f_5, ef_5⟩ : ∃ g : Nat → Int64, g = vp_updL gA (nI lm).toNatClampNeg a := ⟨_, rfl⟩
      rw [← ef_5] at hP hD
      have hP : va_P (dC, dI) cls [(q, .inr (15, fs)), (za, .inl (ja, 262144, .inr (.inl f_5))), (zb, .inl (jb, 262144, .inl gb)), (zm, .inl (jm, 524288, .inl gm))] H := hP
      have hD : va_D A [(q, .inr (15, fs)), (za, .inl (ja, 262144, .inr (.inl f_5))), (zb, .inl (jb, 262144, .inl gb)), (zm, .inl (jm, 524288, .inl gm))] := hD
      refine lv_aload_n hx hb dX15_addLast_78 rfl (lv_at hl 4 rfl) ?_
      refine va_get (D := (dC, dI)) (ci := 15) (v := .ref zb) (C := RX15) (T := TX15) (N := 163) hx hb ht uX15 hown hK hP 0 rfl rfl 150 (by decide) (ht _ k_11_98) (fun _ h9 => h9) K150_fs dX15_addLast_79 ?_
      refine lv_aload_n hx hb dX15_addLast_82 rfl (lv_at hl 4 rfl) ?_
      refine va_get (D := (dC, dI)) (ci := 15) (v := .int (nI lm)) (C := RX15) (T := TX15) (N := 163) hx hb ht uX15 hown hK hP 0 rfl rfl 152 (by decide) (ht _ k_11_100) (fun _ h9 => h9) K152_fs dX15_addLast_83 ?_
      refine lv_bipush (v := 32) hx hb dX15_addLast_86 (by decide) ?_
      refine lv_iload_n hx hb dX15_addLast_88 rfl (lv_at hl 2 rfl) ?_
      refine lv_imul hx hb dX15_addLast_89 ?_
      refine tk_i (y := (nI (32 * k))) (pk_mul 32 k) ?_
      refine lv_iload hx hb dX15_addLast_90 (lv_at hl 1 rfl) ?_
      refine lv_iadd hx hb dX15_addLast_92 ?_
      refine tk_i (y := (nI (32 * k + x))) (nI_add _ _) ?_
      refine va_iast (i := (nI lm)) (x := (nI (32 * k + x))) hx hb hK hP hD hS 2 1 rfl rfl (vp_in_nI (by omega) (by decide)) dX15_addLast_93 (fun H locs hP hD hS => ?_)
      obtain ⟨f_6, ef_6⟩ : ∃ g : Nat → Int32, g = upd gb (nI lm).toNatClampNeg (nI (32 * k + x)) := ⟨_, rfl⟩
      rw [← ef_6] at hP hD
      have hP : va_P (dC, dI) cls [(q, .inr (15, fs)), (za, .inl (ja, 262144, .inr (.inl f_5))), (zb, .inl (jb, 262144, .inl f_6)), (zm, .inl (jm, 524288, .inl gm))] H := hP
      have hD : va_D A [(q, .inr (15, fs)), (za, .inl (ja, 262144, .inr (.inl f_5))), (zb, .inl (jb, 262144, .inl f_6)), (zm, .inl (jm, 524288, .inl gm))] := hD
      refine lv_aload_n hx hb dX15_addLast_94 rfl (lv_at hl 4 rfl) ?_
      refine lv_dup hx hb dX15_addLast_95 rfl ?_
      refine va_get (D := (dC, dI)) (ci := 15) (v := .int (nI lm)) (C := RX15) (T := TX15) (N := 163) hx hb ht uX15 hown hK hP 0 rfl rfl 152 (by decide) (ht _ k_11_100) (fun _ h9 => h9) K152_fs dX15_addLast_96 ?_
      refine lv_iconst (v := 1) hx hb dX15_addLast_99 (by decide) ?_
      refine lv_iadd hx hb dX15_addLast_100 ?_
      refine tk_i (y := (nI (lm + 1))) (nI_1 lm) ?_
      refine va_put (D := (dC, dI)) (ci := 15) (v := .int (nI (lm + 1))) (ty := .int) (C := RX15) (T := TX15) (N := 163) hx hb ht uX15 tyX15 tkX15 nmX15 hown hK hP hD hS 0 rfl rfl 152 (by decide) (ht _ k_11_100) (fun _ h9 => h9) rfl (by decide +kernel) rfl rfl (by rw [L_fs]; decide) dX15_addLast_101 (fun H locs hP hD hS => ?_)
      obtain ⟨F_7, eF_7⟩ : ∃ g : List Value, g = fs.set 152 (.int (nI (lm + 1))) := ⟨_, rfl⟩
      rw [← eF_7] at hP hD
      have K138_F_7 : F_7[138]? = some (.ref se) := by rw [eF_7, List.getElem?_set_ne (by decide)]; exact K138_fs
      have K141_F_7 : F_7[141]? = some (.ref sa) := by rw [eF_7, List.getElem?_set_ne (by decide)]; exact K141_fs
      have K142_F_7 : F_7[142]? = some (.ref sb) := by rw [eF_7, List.getElem?_set_ne (by decide)]; exact K142_fs
      have K143_F_7 : F_7[143]? = some (.ref sf) := by rw [eF_7, List.getElem?_set_ne (by decide)]; exact K143_fs
      have K144_F_7 : F_7[144]? = some (.ref sy) := by rw [eF_7, List.getElem?_set_ne (by decide)]; exact K144_fs
      have K147_F_7 : F_7[147]? = some (.ref lv) := by rw [eF_7, List.getElem?_set_ne (by decide)]; exact K147_fs
      have K149_F_7 : F_7[149]? = some (.ref za) := by rw [eF_7, List.getElem?_set_ne (by decide)]; exact K149_fs
      have K150_F_7 : F_7[150]? = some (.ref zb) := by rw [eF_7, List.getElem?_set_ne (by decide)]; exact K150_fs
      have K151_F_7 : F_7[151]? = some (.ref zm) := by rw [eF_7, List.getElem?_set_ne (by decide)]; exact K151_fs
      have K153_F_7 : F_7[153]? = some (.int al) := by rw [eF_7, List.getElem?_set_ne (by decide)]; exact K153_fs
      have K152_F_7 : F_7[152]? = some (.int (nI (lm + 1))) := by rw [eF_7]; exact List.getElem?_set_self (by rw [L_fs]; decide)
      have L_F_7 : F_7.length = 163 := by rw [eF_7, List.length_set]; exact L_fs
      have hP : va_P (dC, dI) cls [(q, .inr (15, F_7)), (za, .inl (ja, 262144, .inr (.inl f_5))), (zb, .inl (jb, 262144, .inl f_6)), (zm, .inl (jm, 524288, .inl gm))] H := hP
      have hD : va_D A [(q, .inr (15, F_7)), (za, .inl (ja, 262144, .inr (.inl f_5))), (zb, .inl (jb, 262144, .inl f_6)), (zm, .inl (jm, 524288, .inl gm))] := hD
      refine lv_aload_n hx hb dX15_addLast_104 rfl (lv_at hl 4 rfl) ?_
      refine va_get (D := (dC, dI)) (ci := 15) (v := .ref zm) (C := RX15) (T := TX15) (N := 163) hx hb ht uX15 hown hK hP 0 rfl rfl 151 (by decide) (ht _ k_11_99) (fun _ h9 => h9) K151_F_7 dX15_addLast_105 ?_
      refine lv_iload hx hb dX15_addLast_108 (lv_at hl 0 rfl) ?_
      refine lv_aload_n hx hb dX15_addLast_110 rfl (lv_at hl 4 rfl) ?_
      refine va_get (D := (dC, dI)) (ci := 15) (v := .int (nI (lm + 1))) (C := RX15) (T := TX15) (N := 163) hx hb ht uX15 hown hK hP 0 rfl rfl 152 (by decide) (ht _ k_11_100) (fun _ h9 => h9) K152_F_7 dX15_addLast_111 ?_
      refine va_iast (i := (nI ((hsh 19 a 0 + i) % 524288))) (x := (nI (lm + 1))) hx hb hK hP hD hS 3 2 rfl rfl (vp_in_nI (by omega) (by decide)) dX15_addLast_114 (fun H locs hP hD hS => ?_)
      obtain ⟨f_8, ef_8⟩ : ∃ g : Nat → Int32, g = upd gm (nI ((hsh 19 a 0 + i) % 524288)).toNatClampNeg (nI (lm + 1)) := ⟨_, rfl⟩
      rw [← ef_8] at hP hD
      have hP : va_P (dC, dI) cls [(q, .inr (15, F_7)), (za, .inl (ja, 262144, .inr (.inl f_5))), (zb, .inl (jb, 262144, .inl f_6)), (zm, .inl (jm, 524288, .inl f_8))] H := hP
      have hD : va_D A [(q, .inr (15, F_7)), (za, .inl (ja, 262144, .inr (.inl f_5))), (zb, .inl (jb, 262144, .inl f_6)), (zm, .inl (jm, 524288, .inl f_8))] := hD
      exact W.vret hx hb hr (fun t ht9 hW => ⟨⟨(F_7, (lm + 1), al, f_5, f_6, f_8), rfl, ⟨(LD_put hLD hk1 hk2 hx18 ha hlm2 ef_5 ef_6 ef_8 hz hnz), L_F_7, K138_F_7, K141_F_7, K142_F_7, K143_F_7, K144_F_7, K147_F_7, K149_F_7, K150_F_7, K151_F_7, K152_F_7, K153_F_7⟩, by rw [ht9]; exact hP.sub [0, 1, 2, 3] rfl, va_K.moved hW.alike (hK.sub [] rfl), hD.sub [0, 1, 2, 3] (by decide) rfl⟩, hS.F ht9⟩) hS.2.2 dX15_addLast_115
    · refine lv_aload_n hx hb dX15_addLast_62 rfl (lv_at hl 4 rfl) ?_
      refine lv_iconst (v := 0) hx hb dX15_addLast_63 (by decide) ?_
      refine va_put (D := (dC, dI)) (ci := 15) (v := .int 0) (ty := .boolean) (C := RX15) (T := TX15) (N := 163) hx hb ht uX15 tyX15 tkX15 nmX15 hown hK hP hD hS 0 rfl rfl 153 (by decide) (ht _ k_11_101) (fun _ h9 => h9) rfl (by decide +kernel) rfl rfl (by rw [L_fs]; decide) dX15_addLast_64 (fun H locs hP hD hS => ?_)
      obtain ⟨F_9, eF_9⟩ : ∃ g : List Value, g = fs.set 153 (.int 0) := ⟨_, rfl⟩
      rw [← eF_9] at hP hD
      have K138_F_9 : F_9[138]? = some (.ref se) := by rw [eF_9, List.getElem?_set_ne (by decide)]; exact K138_fs
      have K141_F_9 : F_9[141]? = some (.ref sa) := by rw [eF_9, List.getElem?_set_ne (by decide)]; exact K141_fs
      have K142_F_9 : F_9[142]? = some (.ref sb) := by rw [eF_9, List.getElem?_set_ne (by decide)]; exact K142_fs
      have K143_F_9 : F_9[143]? = some (.ref sf) := by rw [eF_9, List.getElem?_set_ne (by decide)]; exact K143_fs
      have K144_F_9 : F_9[144]? = some (.ref sy) := by rw [eF_9, List.getElem?_set_ne (by decide)]; exact K144_fs
      have K147_F_9 : F_9[147]? = some (.ref lv) := by rw [eF_9, List.getElem?_set_ne (by decide)]; exact K147_fs
      have K149_F_9 : F_9[149]? = some (.ref za) := by rw [eF_9, List.getElem?_set_ne (by decide)]; exact K149_fs
      have K150_F_9 : F_9[150]? = some (.ref zb) := by rw [eF_9, List.getElem?_set_ne (by decide)]; exact K150_fs
      have K151_F_9 : F_9[151]? = some (.ref zm) := by rw [eF_9, List.getElem?_set_ne (by decide)]; exact K151_fs
      have K152_F_9 : F_9[152]? = some (.int (nI lm)) := by rw [eF_9, List.getElem?_set_ne (by decide)]; exact K152_fs
      have K153_F_9 : F_9[153]? = some (.int 0) := by rw [eF_9]; exact List.getElem?_set_self (by rw [L_fs]; decide)
      have L_F_9 : F_9.length = 163 := by rw [eF_9, List.length_set]; exact L_fs
      have hP : va_P (dC, dI) cls [(q, .inr (15, F_9)), (za, .inl (ja, 262144, .inr (.inl gA))), (zb, .inl (jb, 262144, .inl gb)), (zm, .inl (jm, 524288, .inl gm))] H := hP
      have hD : va_D A [(q, .inr (15, F_9)), (za, .inl (ja, 262144, .inr (.inl gA))), (zb, .inl (jb, 262144, .inl gb)), (zm, .inl (jm, 524288, .inl gm))] := hD
      exact W.vret hx hb hr (fun t ht9 hW => ⟨⟨(F_9, lm, 0, gA, gb, gm), rfl, ⟨(LD_full hLD), L_F_9, K138_F_9, K141_F_9, K142_F_9, K143_F_9, K144_F_9, K147_F_9, K149_F_9, K150_F_9, K151_F_9, K152_F_9, K153_F_9⟩, by rw [ht9]; exact hP.sub [0, 1, 2, 3] rfl, va_K.moved hW.alike (hK.sub [] rfl), hD.sub [0, 1, 2, 3] (by decide) rfl⟩, hS.F ht9⟩) hS.2.2 dX15_addLast_67
  · have hv0 : 0 < v := pos_ne ev (by omega) b_3
    have hid2 : i < d := by
      rcases Nat.lt_or_ge i d with h | h
      · exact h
      · have e9 : i = d := by omega
        rw [e9, hd] at ev
        exact absurd ev.symm (nI_nz (by omega) hv0)
    refine lv_aload_n hx hb dX15_addLast_19 rfl (lv_at hl 4 rfl) ?_
    refine va_get (D := (dC, dI)) (ci := 15) (v := .ref za) (C := RX15) (T := TX15) (N := 163) hx hb ht uX15 hown hK hP 0 rfl rfl 149 (by decide) (ht _ k_11_97) (fun _ h9 => h9) K149_fs dX15_addLast_20 ?_
    refine lv_aload_n hx hb dX15_addLast_23 rfl (lv_at hl 4 rfl) ?_
    refine va_get (D := (dC, dI)) (ci := 15) (v := .ref zm) (C := RX15) (T := TX15) (N := 163) hx hb ht uX15 hown hK hP 0 rfl rfl 151 (by decide) (ht _ k_11_99) (fun _ h9 => h9) K151_fs dX15_addLast_24 ?_
    refine lv_iload hx hb dX15_addLast_27 (lv_at hl 0 rfl) ?_
    refine va_iald hx hb hK hP 3 2 rfl rfl (vp_in_nI (by omega) (by decide)) dX15_addLast_29 ?_
    refine tk_i (y := (nI v)) (by rw [nI_clamp (by omega)]; exact ev) ?_
    refine lv_iconst (v := 1) hx hb dX15_addLast_30 (by decide) ?_
    refine lv_isub hx hb dX15_addLast_31 ?_
    refine tk_i (y := (nI (v - 1))) (nI_m1 hv0) ?_
    refine va_lald hx hb hK hP 1 0 rfl rfl (vp_in_nI (by omega) (by decide)) dX15_addLast_32 ?_
    refine tk_l (y := (gA (v - 1))) (by rw [nI_clamp (by omega)]) ?_
    refine lv_lload_n hx hb dX15_addLast_33 rfl (lv_at hl 3 rfl) ?_
    refine W.lcmp hx hb dX15_addLast_34 ?_
    refine lv_if_ne (tgt := 39) hx hb dX15_addLast_35 (by decide) (fun b_10 => ?_) (fun b_10 => ?_)
    · refine lv_iload hx hb dX15_addLast_39 (lv_at hl 0 rfl) ?_
      refine lv_iconst (v := 1) hx hb dX15_addLast_41 (by decide) ?_
      refine lv_iadd hx hb dX15_addLast_42 ?_
      refine lv_topi (fun x_11 ex_11 => ?_)
      refine lv_ldcw (v := 524287) hx hb hown (ht _ k_16_42) dX15_addLast_43 ?_
      refine lv_iand hx hb dX15_addLast_46 ?_
      refine tk_i (y := (nI ((hsh 19 a 0 + (i + 1)) % 524288))) (by rw [ex_11]; exact wrap19 _ _) ?_
      refine lv_istore (lv' := [(5, .int (nI ((hsh 19 a 0 + (i + 1)) % 524288))), (4, .int (nI x)), (3, .int (nI k)), (1, .long a), (0, .ref q)]) hx hb dX15_addLast_47 hl (by decide) rfl (fun ls hl => ?_)
      refine lv_goto (tgt := 9) hx hb dX15_addLast_49 (by decide) ?_
      exact ih9 (i + 1) H locs ls (show d - (i + 1) < d - i by omega) ⟨hP.sub [0, 1, 2, 3] rfl, hD.sub [0, 1, 2, 3] (by decide) rfl, hS, lv_sub hl [0, 1, 2, 3, 4] rfl, trivial, (show i + 1 ≤ d by omega), (all_step (P := fun i' => gm ((hsh 19 a 0 + i') % 524288) ≠ 0) hnz (by rw [ev]; exact nI_nz (by omega) hv0))⟩
    · exact W.vret hx hb hr (fun t ht9 hW => ⟨⟨(fs, lm, al, gA, gb, gm), rfl, ⟨(LD_old (j := v - 1) hLD (by omega) (((lg_cmp_eq _ _).mp b_10).trans ha)), L_fs, K138_fs, K141_fs, K142_fs, K143_fs, K144_fs, K147_fs, K149_fs, K150_fs, K151_fs, K152_fs, K153_fs⟩, by rw [ht9]; exact hP.sub [0, 1, 2, 3] rfl, va_K.moved hW.alike (hK.sub [] rfl), hD.sub [0, 1, 2, 3] (by decide) rfl⟩, hS.F ht9⟩) hS.2.2 dX15_addLast_38
