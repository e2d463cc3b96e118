set_option maxHeartbeats 4000000 in
set_option maxRecDepth 100000 in
theorem k15_s1 (l : Launch) (dC : Nat → ClassId) (dI : Nat → Nat → Nat) {p : Program} {e : Env} {s : State} {m : MethodId} {args : Array Value} {below : List Frame} {meth : Method} {c : Code} {Q : State → Prop} {A : Nat → Prop} (q : Nat) (sq : Nat) (sv : Nat) (F00 : List Value) (hx : p.tables.exec = Jvm.exec) (hb : c.code = cX15_init) (ht : ∀ w ∈ tb, w.before args s = true) (hown : s.vm.findClass RX15 = some m.cls) (hml : c.maxLocals = 1) (hin : meth.name = "<init>") (hA : ∀ q : Nat, s.heap.size ≤ q → A q) (hE : xf_all A s s.heap [.inr (.inl ("FinderHouseModel", 313, "add nnn sub nnn mul nnn div nnn rem nnn min nnn max nnn and nnn or nnn xor nnn less nnt same nnt not tt both ttt any ttt if tnnn pick tsss cat sss len sn take sns drop sns rev ss head ss like sst code sn sign ns ", sq)), .inr (.inr (.inl (sq, sv, bsB))), .inl ("java/lang/String", "COMPACT_STRINGS", "Z", .int 1), .inr (.inr (.inr (.inr (.inl ("jdk/internal/util/Preconditions", "SIOOBE_FORMATTER", "Ljava/util/function/BiFunction;"))))), .inr (.inr (.inr (.inr (.inr (.inl .int))))), .inr (.inr (.inr (.inr (.inr (.inl .long))))), .inr (.inr (.inr (.inr (.inl ("java/lang/Throwable", "UNASSIGNED_STACK", "[Ljava/lang/StackTraceElement;"))))), .inr (.inr (.inr (.inr (.inl ("java/lang/Throwable", "SUPPRESSED_SENTINEL", "Ljava/util/List;"))))), .inr (.inr (.inr (.inr (.inr (.inr ())))))]) {H : Heap} {locs : List Loc} {ls : Array Slot} (hK : va_K (dC, dI) cls [] s) (hP : va_P (dC, dI) cls [(q, .inr (15, F00))] H) (hD : va_D A [(q, .inr (15, F00))]) (hS : va_S A s.heap H locs) (hl : lv_has ls 1 [(0, .ref q)]) (L_F00 : F00.length = 163)
    (kk : ∀ (F_30 : List Value) (q_1 : Nat) (c_2 : ClassId) (q_4 : Nat) (c_5 : ClassId) (q_7 : Nat) (c_8 : ClassId) (q_10 : Nat) (c_11 : ClassId) (q_13 : Nat) (c_14 : ClassId) (H : Heap) (locs : List Loc) (ls : Array Slot), va_K (dC, dI) cls [(c_2, .long), (c_5, .int), (c_8, .int), (c_11, .int), (c_14, .int)] s → va_P (dC, dI) cls [(q, .inr (15, F_30)), (q_1, .inl (c_2, 36, .inr (.inl (fun _ => 0)))), (q_4, .inl (c_5, 36, .inl (fun _ => 0))), (q_7, .inl (c_8, 108, .inl (fun _ => 0))), (q_10, .inl (c_11, 36, .inl (fun _ => 0))), (q_13, .inl (c_14, 36, .inl (fun _ => 0)))] H → va_D A [(q, .inr (15, F_30)), (q_1, .inl (c_2, 36, .inr (.inl (fun _ => 0)))), (q_4, .inl (c_5, 36, .inl (fun _ => 0))), (q_7, .inl (c_8, 108, .inl (fun _ => 0))), (q_10, .inl (c_11, 36, .inl (fun _ => 0))), (q_13, .inl (c_14, 36, .inl (fun _ => 0)))] → va_S A s.heap H locs → lv_has ls 1 [(0, .ref q)] → F_30.length = 163 → (∀ j, j ∉ ([0, 1, 2, 3, 4, 6, 7, 8, 9, 10] : List Nat) → F_30[j]? = F00[j]?) → F_30[0]? = some (.ref q_1) → F_30[1]? = some (.ref q_4) → F_30[2]? = some (.ref q_7) → F_30[3]? = some (.ref q_10) → F_30[4]? = some (.ref q_13) → W p l e ({ frames := 5, cells := 622, slots := 1069266, locals := 111 } : Room) s m args below meth c H locs 10 61852 Q (F0 m 89 ls [])) : W p l e ({ frames := 5, cells := 622, slots := 1069266, locals := 111 } : Room) s m args below meth c H locs 0 0 Q (F0 m 4 ls []) := by
  refine lv_aload_n hx hb dX15_init_4 rfl (lv_at hl 0 rfl) ?_
  refine lv_bipush (v := 36) hx hb dX15_init_5 (by decide) ?_
  refine va_newa (atype := .long) (ty := .long) (N' := 36) (a0 := (36, .inr (.inl (fun _ => 0)))) hx hb (ht _ k_1_138) rfl hK hP hD hS hA (fun _ => rfl) (by decide) (by decide) (Nat.le_of_ble_eq_true rfl) (Nat.le_of_ble_eq_true rfl) (Nat.le_of_ble_eq_true rfl) dX15_init_7 (fun q_1 c_2 H hK hP hD hS => ?_)
  have hK : va_K (dC, dI) cls [(c_2, .long)] s := hK
  have hP : va_P (dC, dI) cls [(q, .inr (15, F00)), (q_1, .inl (c_2, 36, .inr (.inl (fun _ => 0))))] H := hP
  have hD : va_D A [(q, .inr (15, F00)), (q_1, .inl (c_2, 36, .inr (.inl (fun _ => 0))))] := hD
  refine W.widen (k := 1) (n := 36) (Nat.le_of_ble_eq_true rfl) (Nat.le_of_ble_eq_true rfl) ?_
  refine putF15 (v := .ref q_1) hx hb ht hown hK hP hD hS L_F00 0 (by decide) f15_0 (ht _ k_10_188) hin pd_AJ rfl rfl dX15_init_9 (fun F_3 H locs eF_3 L_F_3 hP hD hS => ?_)
  refine lv_aload_n hx hb dX15_init_12 rfl (lv_at hl 0 rfl) ?_
  refine lv_bipush (v := 36) hx hb dX15_init_13 (by decide) ?_
  refine va_newa (atype := .int) (ty := .int) (N' := 36) (a0 := (36, .inl (fun _ => 0))) hx hb (ht _ k_1_139) rfl hK hP hD hS hA (fun _ => rfl) (by decide) (by decide) (Nat.le_of_ble_eq_true rfl) (Nat.le_of_ble_eq_true rfl) (Nat.le_of_ble_eq_true rfl) dX15_init_15 (fun q_4 c_5 H hK hP hD hS => ?_)
  have hK : va_K (dC, dI) cls [(c_2, .long), (c_5, .int)] s := hK
  have hP : va_P (dC, dI) cls [(q, .inr (15, F_3)), (q_1, .inl (c_2, 36, .inr (.inl (fun _ => 0)))), (q_4, .inl (c_5, 36, .inl (fun _ => 0)))] H := hP
  have hD : va_D A [(q, .inr (15, F_3)), (q_1, .inl (c_2, 36, .inr (.inl (fun _ => 0)))), (q_4, .inl (c_5, 36, .inl (fun _ => 0)))] := hD
  refine W.widen (k := 2) (n := 72) (Nat.le_of_ble_eq_true rfl) (Nat.le_of_ble_eq_true rfl) ?_
  refine putF15 (v := .ref q_4) hx hb ht hown hK hP hD hS L_F_3 1 (by decide) f15_1 (ht _ k_10_189) hin pd_AI rfl rfl dX15_init_17 (fun F_6 H locs eF_6 L_F_6 hP hD hS => ?_)
  refine lv_aload_n hx hb dX15_init_20 rfl (lv_at hl 0 rfl) ?_
  refine lv_bipush (v := 108) hx hb dX15_init_21 (by decide) ?_
  refine va_newa (atype := .int) (ty := .int) (N' := 108) (a0 := (108, .inl (fun _ => 0))) hx hb (ht _ k_1_139) rfl hK hP hD hS hA (fun _ => rfl) (by decide) (by decide) (Nat.le_of_ble_eq_true rfl) (Nat.le_of_ble_eq_true rfl) (Nat.le_of_ble_eq_true rfl) dX15_init_23 (fun q_7 c_8 H hK hP hD hS => ?_)
  have hK : va_K (dC, dI) cls [(c_2, .long), (c_5, .int), (c_8, .int)] s := hK
  have hP : va_P (dC, dI) cls [(q, .inr (15, F_6)), (q_1, .inl (c_2, 36, .inr (.inl (fun _ => 0)))), (q_4, .inl (c_5, 36, .inl (fun _ => 0))), (q_7, .inl (c_8, 108, .inl (fun _ => 0)))] H := hP
  have hD : va_D A [(q, .inr (15, F_6)), (q_1, .inl (c_2, 36, .inr (.inl (fun _ => 0)))), (q_4, .inl (c_5, 36, .inl (fun _ => 0))), (q_7, .inl (c_8, 108, .inl (fun _ => 0)))] := hD
  refine W.widen (k := 3) (n := 180) (Nat.le_of_ble_eq_true rfl) (Nat.le_of_ble_eq_true rfl) ?_
  refine putF15 (v := .ref q_7) hx hb ht hown hK hP hD hS L_F_6 2 (by decide) f15_2 (ht _ k_10_190) hin pd_AI rfl rfl dX15_init_25 (fun F_9 H locs eF_9 L_F_9 hP hD hS => ?_)
  refine lv_aload_n hx hb dX15_init_28 rfl (lv_at hl 0 rfl) ?_
  refine lv_bipush (v := 36) hx hb dX15_init_29 (by decide) ?_
  refine va_newa (atype := .int) (ty := .int) (N' := 36) (a0 := (36, .inl (fun _ => 0))) hx hb (ht _ k_1_139) rfl hK hP hD hS hA (fun _ => rfl) (by decide) (by decide) (Nat.le_of_ble_eq_true rfl) (Nat.le_of_ble_eq_true rfl) (Nat.le_of_ble_eq_true rfl) dX15_init_31 (fun q_10 c_11 H hK hP hD hS => ?_)
  have hK : va_K (dC, dI) cls [(c_2, .long), (c_5, .int), (c_8, .int), (c_11, .int)] s := hK
  have hP : va_P (dC, dI) cls [(q, .inr (15, F_9)), (q_1, .inl (c_2, 36, .inr (.inl (fun _ => 0)))), (q_4, .inl (c_5, 36, .inl (fun _ => 0))), (q_7, .inl (c_8, 108, .inl (fun _ => 0))), (q_10, .inl (c_11, 36, .inl (fun _ => 0)))] H := hP
  have hD : va_D A [(q, .inr (15, F_9)), (q_1, .inl (c_2, 36, .inr (.inl (fun _ => 0)))), (q_4, .inl (c_5, 36, .inl (fun _ => 0))), (q_7, .inl (c_8, 108, .inl (fun _ => 0))), (q_10, .inl (c_11, 36, .inl (fun _ => 0)))] := hD
  refine W.widen (k := 4) (n := 216) (Nat.le_of_ble_eq_true rfl) (Nat.le_of_ble_eq_true rfl) ?_
  refine putF15 (v := .ref q_10) hx hb ht hown hK hP hD hS L_F_9 3 (by decide) f15_3 (ht _ k_10_191) hin pd_AI rfl rfl dX15_init_33 (fun F_12 H locs eF_12 L_F_12 hP hD hS => ?_)
  refine lv_aload_n hx hb dX15_init_36 rfl (lv_at hl 0 rfl) ?_
  refine lv_bipush (v := 36) hx hb dX15_init_37 (by decide) ?_
  refine va_newa (atype := .int) (ty := .int) (N' := 36) (a0 := (36, .inl (fun _ => 0))) hx hb (ht _ k_1_139) rfl hK hP hD hS hA (fun _ => rfl) (by decide) (by decide) (Nat.le_of_ble_eq_true rfl) (Nat.le_of_ble_eq_true rfl) (Nat.le_of_ble_eq_true rfl) dX15_init_39 (fun q_13 c_14 H hK hP hD hS => ?_)
  have hK : va_K (dC, dI) cls [(c_2, .long), (c_5, .int), (c_8, .int), (c_11, .int), (c_14, .int)] s := hK
  have hP : va_P (dC, dI) cls [(q, .inr (15, F_12)), (q_1, .inl (c_2, 36, .inr (.inl (fun _ => 0)))), (q_4, .inl (c_5, 36, .inl (fun _ => 0))), (q_7, .inl (c_8, 108, .inl (fun _ => 0))), (q_10, .inl (c_11, 36, .inl (fun _ => 0))), (q_13, .inl (c_14, 36, .inl (fun _ => 0)))] H := hP
  have hD : va_D A [(q, .inr (15, F_12)), (q_1, .inl (c_2, 36, .inr (.inl (fun _ => 0)))), (q_4, .inl (c_5, 36, .inl (fun _ => 0))), (q_7, .inl (c_8, 108, .inl (fun _ => 0))), (q_10, .inl (c_11, 36, .inl (fun _ => 0))), (q_13, .inl (c_14, 36, .inl (fun _ => 0)))] := hD
  refine W.widen (k := 5) (n := 252) (Nat.le_of_ble_eq_true rfl) (Nat.le_of_ble_eq_true rfl) ?_
  refine putF15 (v := .ref q_13) hx hb ht hown hK hP hD hS L_F_12 4 (by decide) f15_4 (ht _ k_10_192) hin pd_AI rfl rfl dX15_init_41 (fun F_15 H locs eF_15 L_F_15 hP hD hS => ?_)
  refine lv_aload_n hx hb dX15_init_44 rfl (lv_at hl 0 rfl) ?_
  refine lv_sipush (v := 8800) hx hb dX15_init_45 (by decide) ?_
  refine va_newa (atype := .int) (ty := .int) (N' := 8800) (a0 := (8800, .inl (fun _ => 0))) hx hb (ht _ k_1_139) rfl hK hP hD hS hA (fun _ => rfl) (by decide) (by decide) (Nat.le_of_ble_eq_true rfl) (Nat.le_of_ble_eq_true rfl) (Nat.le_of_ble_eq_true rfl) dX15_init_48 (fun q_16 c_17 H _ hP hD hS => ?_)
  have hP := lft_P hP
  have hD := lft_D hD
  refine W.widen (k := 6) (n := 9052) (Nat.le_of_ble_eq_true rfl) (Nat.le_of_ble_eq_true rfl) ?_
  refine putF15 (v := .ref q_16) hx hb ht hown hK hP hD hS L_F_15 6 (by decide) f15_6 (ht _ k_10_194) hin pd_AI rfl rfl dX15_init_50 (fun F_18 H locs eF_18 L_F_18 hP hD hS => ?_)
  refine lv_aload_n hx hb dX15_init_53 rfl (lv_at hl 0 rfl) ?_
  refine lv_sipush (v := 8800) hx hb dX15_init_54 (by decide) ?_
  refine va_newa (atype := .int) (ty := .int) (N' := 8800) (a0 := (8800, .inl (fun _ => 0))) hx hb (ht _ k_1_139) rfl hK hP hD hS hA (fun _ => rfl) (by decide) (by decide) (Nat.le_of_ble_eq_true rfl) (Nat.le_of_ble_eq_true rfl) (Nat.le_of_ble_eq_true rfl) dX15_init_57 (fun q_19 c_20 H _ hP hD hS => ?_)
  have hP := lft_P hP
  have hD := lft_D hD
  refine W.widen (k := 7) (n := 17852) (Nat.le_of_ble_eq_true rfl) (Nat.le_of_ble_eq_true rfl) ?_
  refine putF15 (v := .ref q_19) hx hb ht hown hK hP hD hS L_F_18 7 (by decide) f15_7 (ht _ k_10_195) hin pd_AI rfl rfl dX15_init_59 (fun F_21 H locs eF_21 L_F_21 hP hD hS => ?_)
  refine lv_aload_n hx hb dX15_init_62 rfl (lv_at hl 0 rfl) ?_
  refine lv_sipush (v := 8800) hx hb dX15_init_63 (by decide) ?_
  refine va_newa (atype := .int) (ty := .int) (N' := 8800) (a0 := (8800, .inl (fun _ => 0))) hx hb (ht _ k_1_139) rfl hK hP hD hS hA (fun _ => rfl) (by decide) (by decide) (Nat.le_of_ble_eq_true rfl) (Nat.le_of_ble_eq_true rfl) (Nat.le_of_ble_eq_true rfl) dX15_init_66 (fun q_22 c_23 H _ hP hD hS => ?_)
  have hP := lft_P hP
  have hD := lft_D hD
  refine W.widen (k := 8) (n := 26652) (Nat.le_of_ble_eq_true rfl) (Nat.le_of_ble_eq_true rfl) ?_
  refine putF15 (v := .ref q_22) hx hb ht hown hK hP hD hS L_F_21 8 (by decide) f15_8 (ht _ k_10_196) hin pd_AI rfl rfl dX15_init_68 (fun F_24 H locs eF_24 L_F_24 hP hD hS => ?_)
  refine lv_aload_n hx hb dX15_init_71 rfl (lv_at hl 0 rfl) ?_
  refine lv_sipush (v := 8800) hx hb dX15_init_72 (by decide) ?_
  refine va_newa (atype := .int) (ty := .int) (N' := 8800) (a0 := (8800, .inl (fun _ => 0))) hx hb (ht _ k_1_139) rfl hK hP hD hS hA (fun _ => rfl) (by decide) (by decide) (Nat.le_of_ble_eq_true rfl) (Nat.le_of_ble_eq_true rfl) (Nat.le_of_ble_eq_true rfl) dX15_init_75 (fun q_25 c_26 H _ hP hD hS => ?_)
  have hP := lft_P hP
  have hD := lft_D hD
  refine W.widen (k := 9) (n := 35452) (Nat.le_of_ble_eq_true rfl) (Nat.le_of_ble_eq_true rfl) ?_
  refine putF15 (v := .ref q_25) hx hb ht hown hK hP hD hS L_F_24 9 (by decide) f15_9 (ht _ k_10_197) hin pd_AI rfl rfl dX15_init_77 (fun F_27 H locs eF_27 L_F_27 hP hD hS => ?_)
  refine lv_aload_n hx hb dX15_init_80 rfl (lv_at hl 0 rfl) ?_
  refine lv_sipush (v := 26400) hx hb dX15_init_81 (by decide) ?_
  refine va_newa (atype := .int) (ty := .int) (N' := 26400) (a0 := (26400, .inl (fun _ => 0))) hx hb (ht _ k_1_139) rfl hK hP hD hS hA (fun _ => rfl) (by decide) (by decide) (Nat.le_of_ble_eq_true rfl) (Nat.le_of_ble_eq_true rfl) (Nat.le_of_ble_eq_true rfl) dX15_init_84 (fun q_28 c_29 H _ hP hD hS => ?_)
  have hP := lft_P hP
  have hD := lft_D hD
  refine W.widen (k := 10) (n := 61852) (Nat.le_of_ble_eq_true rfl) (Nat.le_of_ble_eq_true rfl) ?_
  refine putF15 (v := .ref q_28) hx hb ht hown hK hP hD hS L_F_27 10 (by decide) f15_10 (ht _ k_10_198) hin pd_AI rfl rfl dX15_init_86 (fun F_30 H locs eF_30 L_F_30 hP hD hS => ?_)
  have K0_F_30 : F_30[0]? = some (.ref q_1) := by rw [eF_30, List.getElem?_set_ne (by decide), eF_27, List.getElem?_set_ne (by decide), eF_24, List.getElem?_set_ne (by decide), eF_21, List.getElem?_set_ne (by decide), eF_18, List.getElem?_set_ne (by decide), eF_15, List.getElem?_set_ne (by decide), eF_12, List.getElem?_set_ne (by decide), eF_9, List.getElem?_set_ne (by decide), eF_6, List.getElem?_set_ne (by decide), eF_3]; exact List.getElem?_set_self (by rw [L_F00]; decide)
  have K1_F_30 : F_30[1]? = some (.ref q_4) := by rw [eF_30, List.getElem?_set_ne (by decide), eF_27, List.getElem?_set_ne (by decide), eF_24, List.getElem?_set_ne (by decide), eF_21, List.getElem?_set_ne (by decide), eF_18, List.getElem?_set_ne (by decide), eF_15, List.getElem?_set_ne (by decide), eF_12, List.getElem?_set_ne (by decide), eF_9, List.getElem?_set_ne (by decide), eF_6]; exact List.getElem?_set_self (by rw [L_F_3]; decide)
  have K2_F_30 : F_30[2]? = some (.ref q_7) := by rw [eF_30, List.getElem?_set_ne (by decide), eF_27, List.getElem?_set_ne (by decide), eF_24, List.getElem?_set_ne (by decide), eF_21, List.getElem?_set_ne (by decide), eF_18, List.getElem?_set_ne (by decide), eF_15, List.getElem?_set_ne (by decide), eF_12, List.getElem?_set_ne (by decide), eF_9]; exact List.getElem?_set_self (by rw [L_F_6]; decide)
  have K3_F_30 : F_30[3]? = some (.ref q_10) := by rw [eF_30, List.getElem?_set_ne (by decide), eF_27, List.getElem?_set_ne (by decide), eF_24, List.getElem?_set_ne (by decide), eF_21, List.getElem?_set_ne (by decide), eF_18, List.getElem?_set_ne (by decide), eF_15, List.getElem?_set_ne (by decide), eF_12]; exact List.getElem?_set_self (by rw [L_F_9]; decide)
  have K4_F_30 : F_30[4]? = some (.ref q_13) := by rw [eF_30, List.getElem?_set_ne (by decide), eF_27, List.getElem?_set_ne (by decide), eF_24, List.getElem?_set_ne (by decide), eF_21, List.getElem?_set_ne (by decide), eF_18, List.getElem?_set_ne (by decide), eF_15]; exact List.getElem?_set_self (by rw [L_F_12]; decide)
  have hF : ∀ j, j ∉ ([0, 1, 2, 3, 4, 6, 7, 8, 9, 10] : List Nat) → F_30[j]? = F00[j]? := fun j hj => by rw [eF_30, List.getElem?_set_ne (fun h => hj (by rw [← h]; decide)), eF_27, List.getElem?_set_ne (fun h => hj (by rw [← h]; decide)), eF_24, List.getElem?_set_ne (fun h => hj (by rw [← h]; decide)), eF_21, List.getElem?_set_ne (fun h => hj (by rw [← h]; decide)), eF_18, List.getElem?_set_ne (fun h => hj (by rw [← h]; decide)), eF_15, List.getElem?_set_ne (fun h => hj (by rw [← h]; decide)), eF_12, List.getElem?_set_ne (fun h => hj (by rw [← h]; decide)), eF_9, List.getElem?_set_ne (fun h => hj (by rw [← h]; decide)), eF_6, List.getElem?_set_ne (fun h => hj (by rw [← h]; decide)), eF_3, List.getElem?_set_ne (fun h => hj (by rw [← h]; decide))]
  exact kk F_30 q_1 c_2 q_4 c_5 q_7 c_8 q_10 c_11 q_13 c_14 H locs ls hK hP hD hS hl L_F_30 hF K0_F_30 K1_F_30 K2_F_30 K3_F_30 K4_F_30
