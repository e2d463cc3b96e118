set_option maxHeartbeats 4000000 in
set_option maxRecDepth 100000 in
theorem k15_s5 (l : Launch) (dC : Nat → ClassId) (dI : Nat → Nat → Nat) {p : Program} {e : Env} {s : State} {m : MethodId} {args : Array Value} {below : List Frame} {meth : Method} {c : Code} {Q : State → Prop} {A : Nat → Prop} (q : Nat) (sq : Nat) (sv : Nat) (F_120 : List Value) (q_1 : Nat) (c_2 : ClassId) (q_4 : Nat) (c_5 : ClassId) (q_7 : Nat) (c_8 : ClassId) (q_10 : Nat) (c_11 : ClassId) (q_13 : Nat) (c_14 : ClassId) (q_49 : Nat) (c_50 : ClassId) (q_53 : Nat) (q_66 : Nat) (F_69 : List Value) (q_73 : Nat) (F_76 : List Value) (q_83 : Nat) (c_85 : ClassId) (r_84 : Nat → Nat) (q_87 : Nat) (c_89 : ClassId) (r_88 : Nat → Nat) (q_103 : Nat) (c_104 : ClassId) (hx : p.tables.exec = Jvm.exec) (hb : c.code = cX15_init) (ht : ∀ w ∈ tb, w.before args s = true) (hown : s.vm.findClass RX15 = some m.cls) (hml : c.maxLocals = 1) (hin : meth.name = "<init>") (hA : ∀ q : Nat, s.heap.size ≤ q → A q) (hE : xf_all A s s.heap [.inr (.inl ("FinderHouseModel", 313, "add nnn sub nnn mul nnn div nnn rem nnn min nnn max nnn and nnn or nnn xor nnn less nnt same nnt not tt both ttt any ttt if tnnn pick tsss cat sss len sn take sns drop sns rev ss head ss like sst code sn sign ns ", sq)), .inr (.inr (.inl (sq, sv, bsB))), .inl ("java/lang/String", "COMPACT_STRINGS", "Z", .int 1), .inr (.inr (.inr (.inr (.inl ("jdk/internal/util/Preconditions", "SIOOBE_FORMATTER", "Ljava/util/function/BiFunction;"))))), .inr (.inr (.inr (.inr (.inr (.inl .int))))), .inr (.inr (.inr (.inr (.inr (.inl .long))))), .inr (.inr (.inr (.inr (.inl ("java/lang/Throwable", "UNASSIGNED_STACK", "[Ljava/lang/StackTraceElement;"))))), .inr (.inr (.inr (.inr (.inl ("java/lang/Throwable", "SUPPRESSED_SENTINEL", "Ljava/util/List;"))))), .inr (.inr (.inr (.inr (.inr (.inr ())))))]) {H : Heap} {locs : List Loc} {ls : Array Slot} (hK : va_K (dC, dI) cls [(c_2, .long), (c_5, .int), (c_8, .int), (c_11, .int), (c_14, .int), (c_50, .int), (c_85, .array .long), (c_89, .array .long), (c_104, .int)] s) (hP : va_P (dC, dI) cls [(q, .inr (15, F_120)), (q_1, .inl (c_2, 36, .inr (.inl (fun _ => 0)))), (q_4, .inl (c_5, 36, .inl (fun _ => 0))), (q_7, .inl (c_8, 108, .inl (fun _ => 0))), (q_10, .inl (c_11, 36, .inl (fun _ => 0))), (q_13, .inl (c_14, 36, .inl (fun _ => 0))), (q_49, .inl (c_50, 4000, .inl (fun _ => 0))), (q_53, .inr (13, [.null, .null, .null, .null, .null, .int 0, .int 0, .int 0])), (q_66, .inr (12, F_69)), (q_73, .inr (12, F_76)), (q_83, .inl (c_85, 13, .inr (.inr (.inr (.inr (fun i => if i < 13 then some (r_84 i) else none)))))), (q_87, .inl (c_89, 16, .inr (.inr (.inr (.inr (fun i => if i < 16 then some (r_88 i) else none)))))), (q_103, .inl (c_104, 2000, .inl (fun _ => 0)))] H) (hD : va_D A [(q, .inr (15, F_120)), (q_1, .inl (c_2, 36, .inr (.inl (fun _ => 0)))), (q_4, .inl (c_5, 36, .inl (fun _ => 0))), (q_7, .inl (c_8, 108, .inl (fun _ => 0))), (q_10, .inl (c_11, 36, .inl (fun _ => 0))), (q_13, .inl (c_14, 36, .inl (fun _ => 0))), (q_49, .inl (c_50, 4000, .inl (fun _ => 0))), (q_53, .inr (13, [.null, .null, .null, .null, .null, .int 0, .int 0, .int 0])), (q_66, .inr (12, F_69)), (q_73, .inr (12, F_76)), (q_83, .inl (c_85, 13, .inr (.inr (.inr (.inr (fun i => if i < 13 then some (r_84 i) else none)))))), (q_87, .inl (c_89, 16, .inr (.inr (.inr (.inr (fun i => if i < 16 then some (r_88 i) else none)))))), (q_103, .inl (c_104, 2000, .inl (fun _ => 0)))]) (hS : va_S A s.heap H locs) (hl : lv_has ls 1 [(0, .ref q)]) (L_F_120 : F_120.length = 163) (K0_F_69 : F_69[0]? = some (.int 0)) (L_F_69 : F_69.length = 28) (K0_F_76 : F_76[0]? = some (.int 1100)) (L_F_76 : F_76.length = 28)
    (kk : ∀ (F_150 : List Value) (c_122 : ClassId) (H : Heap) (locs : List Loc) (ls : Array Slot), va_K (dC, dI) cls [(c_2, .long), (c_5, .int), (c_8, .int), (c_11, .int), (c_14, .int), (c_50, .int), (c_85, .array .long), (c_89, .array .long), (c_104, .int), (c_122, .boolean)] s → va_P (dC, dI) cls [(q, .inr (15, F_150)), (q_1, .inl (c_2, 36, .inr (.inl (fun _ => 0)))), (q_4, .inl (c_5, 36, .inl (fun _ => 0))), (q_7, .inl (c_8, 108, .inl (fun _ => 0))), (q_10, .inl (c_11, 36, .inl (fun _ => 0))), (q_13, .inl (c_14, 36, .inl (fun _ => 0))), (q_49, .inl (c_50, 4000, .inl (fun _ => 0))), (q_53, .inr (13, [.null, .null, .null, .null, .null, .int 0, .int 0, .int 0])), (q_66, .inr (12, F_69)), (q_73, .inr (12, F_76)), (q_83, .inl (c_85, 13, .inr (.inr (.inr (.inr (fun i => if i < 13 then some (r_84 i) else none)))))), (q_87, .inl (c_89, 16, .inr (.inr (.inr (.inr (fun i => if i < 16 then some (r_88 i) else none)))))), (q_103, .inl (c_104, 2000, .inl (fun _ => 0)))] H → va_D A [(q, .inr (15, F_150)), (q_1, .inl (c_2, 36, .inr (.inl (fun _ => 0)))), (q_4, .inl (c_5, 36, .inl (fun _ => 0))), (q_7, .inl (c_8, 108, .inl (fun _ => 0))), (q_10, .inl (c_11, 36, .inl (fun _ => 0))), (q_13, .inl (c_14, 36, .inl (fun _ => 0))), (q_49, .inl (c_50, 4000, .inl (fun _ => 0))), (q_53, .inr (13, [.null, .null, .null, .null, .null, .int 0, .int 0, .int 0])), (q_66, .inr (12, F_69)), (q_73, .inr (12, F_76)), (q_83, .inl (c_85, 13, .inr (.inr (.inr (.inr (fun i => if i < 13 then some (r_84 i) else none)))))), (q_87, .inl (c_89, 16, .inr (.inr (.inr (.inr (fun i => if i < 16 then some (r_88 i) else none)))))), (q_103, .inl (c_104, 2000, .inl (fun _ => 0)))] → va_S A s.heap H locs → lv_has ls 1 [(0, .ref q)] → F_150.length = 163 → (∀ j, j ∉ ([70, 72, 74, 75, 76, 79, 80, 82, 86, 88] : List Nat) → F_150[j]? = F_120[j]?) → F_69[0]? = some (.int 0) → F_69.length = 28 → F_76[0]? = some (.int 1100) → F_76.length = 28 → W p l e ({ frames := 5, cells := 622, slots := 1069266, locals := 111 } : Room) s m args below meth c H locs 350 975564 Q (F0 m 424 ls [])) : W p l e ({ frames := 5, cells := 622, slots := 1069266, locals := 111 } : Room) s m args below meth c H locs 340 970772 Q (F0 m 343 ls []) := by
  refine lv_aload_n hx hb dX15_init_343 rfl (lv_at hl 0 rfl) ?_
  refine lv_bipush (v := 122) hx hb dX15_init_344 (by decide) ?_
  refine va_newa (atype := .boolean) (ty := .boolean) (N' := 122) (a0 := (122, .inl (fun _ => 0))) hx hb (ht _ k_1_140) rfl hK hP hD hS hA (fun _ => rfl) (by decide) (by decide) (Nat.le_of_ble_eq_true rfl) (Nat.le_of_ble_eq_true rfl) (Nat.le_of_ble_eq_true rfl) dX15_init_346 (fun q_121 c_122 H hK hP hD hS => ?_)
  have hP := lft_P hP
  have hD := lft_D hD
  have hK : va_K (dC, dI) cls [(c_2, .long), (c_5, .int), (c_8, .int), (c_11, .int), (c_14, .int), (c_50, .int), (c_85, .array .long), (c_89, .array .long), (c_104, .int), (c_122, .boolean)] s := hK
  refine W.widen (k := 341) (n := 970894) (Nat.le_of_ble_eq_true rfl) (Nat.le_of_ble_eq_true rfl) ?_
  refine putF15 (v := .ref q_121) hx hb ht hown hK hP hD hS L_F_120 70 (by decide) f15_70 (ht _ k_11_18) hin pd_AZ rfl rfl dX15_init_348 (fun F_123 H locs eF_123 L_F_123 hP hD hS => ?_)
  refine lv_aload_n hx hb dX15_init_351 rfl (lv_at hl 0 rfl) ?_
  refine lv_sipush (v := 400) hx hb dX15_init_352 (by decide) ?_
  refine va_newa (atype := .int) (ty := .int) (N' := 400) (a0 := (400, .inl (fun _ => 0))) hx hb (ht _ k_1_139) rfl hK hP hD hS hA (fun _ => rfl) (by decide) (by decide) (Nat.le_of_ble_eq_true rfl) (Nat.le_of_ble_eq_true rfl) (Nat.le_of_ble_eq_true rfl) dX15_init_355 (fun q_124 c_125 H _ hP hD hS => ?_)
  have hP := lft_P hP
  have hD := lft_D hD
  refine W.widen (k := 342) (n := 971294) (Nat.le_of_ble_eq_true rfl) (Nat.le_of_ble_eq_true rfl) ?_
  refine putF15 (v := .ref q_124) hx hb ht hown hK hP hD hS L_F_123 72 (by decide) f15_72 (ht _ k_11_20) hin pd_AI rfl rfl dX15_init_357 (fun F_126 H locs eF_126 L_F_126 hP hD hS => ?_)
  refine lv_aload_n hx hb dX15_init_360 rfl (lv_at hl 0 rfl) ?_
  refine lv_bipush (v := 12) hx hb dX15_init_361 (by decide) ?_
  refine va_newa (atype := .int) (ty := .int) (N' := 12) (a0 := (12, .inl (fun _ => 0))) hx hb (ht _ k_1_139) rfl hK hP hD hS hA (fun _ => rfl) (by decide) (by decide) (Nat.le_of_ble_eq_true rfl) (Nat.le_of_ble_eq_true rfl) (Nat.le_of_ble_eq_true rfl) dX15_init_363 (fun q_127 c_128 H _ hP hD hS => ?_)
  have hP := lft_P hP
  have hD := lft_D hD
  refine W.widen (k := 343) (n := 971306) (Nat.le_of_ble_eq_true rfl) (Nat.le_of_ble_eq_true rfl) ?_
  refine putF15 (v := .ref q_127) hx hb ht hown hK hP hD hS L_F_126 74 (by decide) f15_74 (ht _ k_11_22) hin pd_AI rfl rfl dX15_init_365 (fun F_129 H locs eF_129 L_F_129 hP hD hS => ?_)
  refine lv_aload_n hx hb dX15_init_368 rfl (lv_at hl 0 rfl) ?_
  refine lv_bipush (v := 36) hx hb dX15_init_369 (by decide) ?_
  refine va_newa (atype := .int) (ty := .int) (N' := 36) (a0 := (36, .inl (fun _ => 0))) hx hb (ht _ k_1_139) rfl hK hP hD hS hA (fun _ => rfl) (by decide) (by decide) (Nat.le_of_ble_eq_true rfl) (Nat.le_of_ble_eq_true rfl) (Nat.le_of_ble_eq_true rfl) dX15_init_371 (fun q_130 c_131 H _ hP hD hS => ?_)
  have hP := lft_P hP
  have hD := lft_D hD
  refine W.widen (k := 344) (n := 971342) (Nat.le_of_ble_eq_true rfl) (Nat.le_of_ble_eq_true rfl) ?_
  refine putF15 (v := .ref q_130) hx hb ht hown hK hP hD hS L_F_129 75 (by decide) f15_75 (ht _ k_11_23) hin pd_AI rfl rfl dX15_init_373 (fun F_132 H locs eF_132 L_F_132 hP hD hS => ?_)
  refine lv_aload_n hx hb dX15_init_376 rfl (lv_at hl 0 rfl) ?_
  refine lv_bipush (v := 12) hx hb dX15_init_377 (by decide) ?_
  refine va_newa (atype := .int) (ty := .int) (N' := 12) (a0 := (12, .inl (fun _ => 0))) hx hb (ht _ k_1_139) rfl hK hP hD hS hA (fun _ => rfl) (by decide) (by decide) (Nat.le_of_ble_eq_true rfl) (Nat.le_of_ble_eq_true rfl) (Nat.le_of_ble_eq_true rfl) dX15_init_379 (fun q_133 c_134 H _ hP hD hS => ?_)
  have hP := lft_P hP
  have hD := lft_D hD
  refine W.widen (k := 345) (n := 971354) (Nat.le_of_ble_eq_true rfl) (Nat.le_of_ble_eq_true rfl) ?_
  refine putF15 (v := .ref q_133) hx hb ht hown hK hP hD hS L_F_132 76 (by decide) f15_76 (ht _ k_11_24) hin pd_AI rfl rfl dX15_init_381 (fun F_135 H locs eF_135 L_F_135 hP hD hS => ?_)
  refine lv_aload_n hx hb dX15_init_384 rfl (lv_at hl 0 rfl) ?_
  refine lv_bipush (v := 64) hx hb dX15_init_385 (by decide) ?_
  refine va_newa (atype := .int) (ty := .int) (N' := 64) (a0 := (64, .inl (fun _ => 0))) hx hb (ht _ k_1_139) rfl hK hP hD hS hA (fun _ => rfl) (by decide) (by decide) (Nat.le_of_ble_eq_true rfl) (Nat.le_of_ble_eq_true rfl) (Nat.le_of_ble_eq_true rfl) dX15_init_387 (fun q_136 c_137 H _ hP hD hS => ?_)
  have hP := lft_P hP
  have hD := lft_D hD
  refine W.widen (k := 346) (n := 971418) (Nat.le_of_ble_eq_true rfl) (Nat.le_of_ble_eq_true rfl) ?_
  refine putF15 (v := .ref q_136) hx hb ht hown hK hP hD hS L_F_135 79 (by decide) f15_79 (ht _ k_11_27) hin pd_AI rfl rfl dX15_init_389 (fun F_138 H locs eF_138 L_F_138 hP hD hS => ?_)
  refine lv_aload_n hx hb dX15_init_392 rfl (lv_at hl 0 rfl) ?_
  refine lv_bipush (v := 64) hx hb dX15_init_393 (by decide) ?_
  refine va_newa (atype := .int) (ty := .int) (N' := 64) (a0 := (64, .inl (fun _ => 0))) hx hb (ht _ k_1_139) rfl hK hP hD hS hA (fun _ => rfl) (by decide) (by decide) (Nat.le_of_ble_eq_true rfl) (Nat.le_of_ble_eq_true rfl) (Nat.le_of_ble_eq_true rfl) dX15_init_395 (fun q_139 c_140 H _ hP hD hS => ?_)
  have hP := lft_P hP
  have hD := lft_D hD
  refine W.widen (k := 347) (n := 971482) (Nat.le_of_ble_eq_true rfl) (Nat.le_of_ble_eq_true rfl) ?_
  refine putF15 (v := .ref q_139) hx hb ht hown hK hP hD hS L_F_138 80 (by decide) f15_80 (ht _ k_11_28) hin pd_AI rfl rfl dX15_init_397 (fun F_141 H locs eF_141 L_F_141 hP hD hS => ?_)
  refine lv_aload_n hx hb dX15_init_400 rfl (lv_at hl 0 rfl) ?_
  refine lv_bipush (v := 80) hx hb dX15_init_401 (by decide) ?_
  refine va_newa (atype := .int) (ty := .int) (N' := 80) (a0 := (80, .inl (fun _ => 0))) hx hb (ht _ k_1_139) rfl hK hP hD hS hA (fun _ => rfl) (by decide) (by decide) (Nat.le_of_ble_eq_true rfl) (Nat.le_of_ble_eq_true rfl) (Nat.le_of_ble_eq_true rfl) dX15_init_403 (fun q_142 c_143 H _ hP hD hS => ?_)
  have hP := lft_P hP
  have hD := lft_D hD
  refine W.widen (k := 348) (n := 971562) (Nat.le_of_ble_eq_true rfl) (Nat.le_of_ble_eq_true rfl) ?_
  refine putF15 (v := .ref q_142) hx hb ht hown hK hP hD hS L_F_141 82 (by decide) f15_82 (ht _ k_11_30) hin pd_AI rfl rfl dX15_init_405 (fun F_144 H locs eF_144 L_F_144 hP hD hS => ?_)
  refine lv_aload_n hx hb dX15_init_408 rfl (lv_at hl 0 rfl) ?_
  refine lv_sipush (v := 4000) hx hb dX15_init_409 (by decide) ?_
  refine va_newa (atype := .int) (ty := .int) (N' := 4000) (a0 := (4000, .inl (fun _ => 0))) hx hb (ht _ k_1_139) rfl hK hP hD hS hA (fun _ => rfl) (by decide) (by decide) (Nat.le_of_ble_eq_true rfl) (Nat.le_of_ble_eq_true rfl) (Nat.le_of_ble_eq_true rfl) dX15_init_412 (fun q_145 c_146 H _ hP hD hS => ?_)
  have hP := lft_P hP
  have hD := lft_D hD
  refine W.widen (k := 349) (n := 975562) (Nat.le_of_ble_eq_true rfl) (Nat.le_of_ble_eq_true rfl) ?_
  refine putF15 (v := .ref q_145) hx hb ht hown hK hP hD hS L_F_144 86 (by decide) f15_86 (ht _ k_11_34) hin pd_AI rfl rfl dX15_init_414 (fun F_147 H locs eF_147 L_F_147 hP hD hS => ?_)
  refine lv_aload_n hx hb dX15_init_417 rfl (lv_at hl 0 rfl) ?_
  refine lv_iconst (v := 2) hx hb dX15_init_418 (by decide) ?_
  refine va_newa (atype := .int) (ty := .int) (N' := 2) (a0 := (2, .inl (fun _ => 0))) hx hb (ht _ k_1_139) rfl hK hP hD hS hA (fun _ => rfl) (by decide) (by decide) (Nat.le_of_ble_eq_true rfl) (Nat.le_of_ble_eq_true rfl) (Nat.le_of_ble_eq_true rfl) dX15_init_419 (fun q_148 c_149 H _ hP hD hS => ?_)
  have hP := lft_P hP
  have hD := lft_D hD
  refine W.widen (k := 350) (n := 975564) (Nat.le_of_ble_eq_true rfl) (Nat.le_of_ble_eq_true rfl) ?_
  refine putF15 (v := .ref q_148) hx hb ht hown hK hP hD hS L_F_147 88 (by decide) f15_88 (ht _ k_11_36) hin pd_AI rfl rfl dX15_init_421 (fun F_150 H locs eF_150 L_F_150 hP hD hS => ?_)
  have hF : ∀ j, j ∉ ([70, 72, 74, 75, 76, 79, 80, 82, 86, 88] : List Nat) → F_150[j]? = F_120[j]? := fun j hj => by rw [eF_150, List.getElem?_set_ne (fun h => hj (by rw [← h]; decide)), eF_147, List.getElem?_set_ne (fun h => hj (by rw [← h]; decide)), eF_144, List.getElem?_set_ne (fun h => hj (by rw [← h]; decide)), eF_141, List.getElem?_set_ne (fun h => hj (by rw [← h]; decide)), eF_138, List.getElem?_set_ne (fun h => hj (by rw [← h]; decide)), eF_135, List.getElem?_set_ne (fun h => hj (by rw [← h]; decide)), eF_132, List.getElem?_set_ne (fun h => hj (by rw [← h]; decide)), eF_129, List.getElem?_set_ne (fun h => hj (by rw [← h]; decide)), eF_126, List.getElem?_set_ne (fun h => hj (by rw [← h]; decide)), eF_123, List.getElem?_set_ne (fun h => hj (by rw [← h]; decide))]
  exact kk F_150 c_122 H locs ls hK hP hD hS hl L_F_150 hF K0_F_69 L_F_69 K0_F_76 L_F_76
