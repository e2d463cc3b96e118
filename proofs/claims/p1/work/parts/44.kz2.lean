set_option maxHeartbeats 4000000 in
set_option maxRecDepth 100000 in
theorem k15_s2 (l : Launch) (dC : Nat → ClassId) (dI : Nat → Nat → Nat) {p : Program} {e : Env} {s : State} {m : MethodId} {args : Array Value} {below : List Frame} {meth : Method} {c : Code} {Q : State → Prop} {A : Nat → Prop} (q : Nat) (sq : Nat) (sv : Nat) (F_30 : List Value) (q_1 : Nat) (c_2 : ClassId) (q_4 : Nat) (c_5 : ClassId) (q_7 : Nat) (c_8 : ClassId) (q_10 : Nat) (c_11 : ClassId) (q_13 : Nat) (c_14 : ClassId) (hx : p.tables.exec = Jvm.exec) (hb : c.code = cX15_init) (ht : ∀ w ∈ tb, w.before args s = true) (hown : s.vm.findClass RX15 = some m.cls) (hml : c.maxLocals = 1) (hin : meth.name = "<init>") (hA : ∀ q : Nat, s.heap.size ≤ q → A q) (hE : xf_all A s s.heap [.inr (.inl ("FinderHouseModel", 313, "add nnn sub nnn mul nnn div nnn rem nnn min nnn max nnn and nnn or nnn xor nnn less nnt same nnt not tt both ttt any ttt if tnnn pick tsss cat sss len sn take sns drop sns rev ss head ss like sst code sn sign ns ", sq)), .inr (.inr (.inl (sq, sv, bsB))), .inl ("java/lang/String", "COMPACT_STRINGS", "Z", .int 1), .inr (.inr (.inr (.inr (.inl ("jdk/internal/util/Preconditions", "SIOOBE_FORMATTER", "Ljava/util/function/BiFunction;"))))), .inr (.inr (.inr (.inr (.inr (.inl .int))))), .inr (.inr (.inr (.inr (.inr (.inl .long))))), .inr (.inr (.inr (.inr (.inl ("java/lang/Throwable", "UNASSIGNED_STACK", "[Ljava/lang/StackTraceElement;"))))), .inr (.inr (.inr (.inr (.inl ("java/lang/Throwable", "SUPPRESSED_SENTINEL", "Ljava/util/List;"))))), .inr (.inr (.inr (.inr (.inr (.inr ())))))]) {H : Heap} {locs : List Loc} {ls : Array Slot} (hK : va_K (dC, dI) cls [(c_2, .long), (c_5, .int), (c_8, .int), (c_11, .int), (c_14, .int)] s) (hP : va_P (dC, dI) cls [(q, .inr (15, F_30)), (q_1, .inl (c_2, 36, .inr (.inl (fun _ => 0)))), (q_4, .inl (c_5, 36, .inl (fun _ => 0))), (q_7, .inl (c_8, 108, .inl (fun _ => 0))), (q_10, .inl (c_11, 36, .inl (fun _ => 0))), (q_13, .inl (c_14, 36, .inl (fun _ => 0)))] H) (hD : va_D A [(q, .inr (15, F_30)), (q_1, .inl (c_2, 36, .inr (.inl (fun _ => 0)))), (q_4, .inl (c_5, 36, .inl (fun _ => 0))), (q_7, .inl (c_8, 108, .inl (fun _ => 0))), (q_10, .inl (c_11, 36, .inl (fun _ => 0))), (q_13, .inl (c_14, 36, .inl (fun _ => 0)))]) (hS : va_S A s.heap H locs) (hl : lv_has ls 1 [(0, .ref q)]) (L_F_30 : F_30.length = 163)
    (kk : ∀ (F_59 : List Value) (q_49 : Nat) (c_50 : ClassId) (q_53 : Nat) (H : Heap) (locs : List Loc) (ls : Array Slot), va_K (dC, dI) cls [(c_2, .long), (c_5, .int), (c_8, .int), (c_11, .int), (c_14, .int), (c_50, .int)] s → va_P (dC, dI) cls [(q, .inr (15, F_59)), (q_1, .inl (c_2, 36, .inr (.inl (fun _ => 0)))), (q_4, .inl (c_5, 36, .inl (fun _ => 0))), (q_7, .inl (c_8, 108, .inl (fun _ => 0))), (q_10, .inl (c_11, 36, .inl (fun _ => 0))), (q_13, .inl (c_14, 36, .inl (fun _ => 0))), (q_49, .inl (c_50, 4000, .inl (fun _ => 0))), (q_53, .inr (13, [.null, .null, .null, .null, .null, .int 0, .int 0, .int 0]))] H → va_D A [(q, .inr (15, F_59)), (q_1, .inl (c_2, 36, .inr (.inl (fun _ => 0)))), (q_4, .inl (c_5, 36, .inl (fun _ => 0))), (q_7, .inl (c_8, 108, .inl (fun _ => 0))), (q_10, .inl (c_11, 36, .inl (fun _ => 0))), (q_13, .inl (c_14, 36, .inl (fun _ => 0))), (q_49, .inl (c_50, 4000, .inl (fun _ => 0))), (q_53, .inr (13, [.null, .null, .null, .null, .null, .int 0, .int 0, .int 0]))] → va_S A s.heap H locs → lv_has ls 1 [(0, .ref q)] → F_59.length = 163 → (∀ j, j ∉ ([11, 12, 13, 14, 15, 16, 18, 21, 23, 24] : List Nat) → F_59[j]? = F_30[j]?) → F_59[18]? = some (.ref q_49) → F_59[23]? = some (.ref q_53) → W p l e ({ frames := 5, cells := 622, slots := 1069266, locals := 111 } : Room) s m args below meth c H locs 19 120660 Q (F0 m 177 ls [])) : W p l e ({ frames := 5, cells := 622, slots := 1069266, locals := 111 } : Room) s m args below meth c H locs 10 61852 Q (F0 m 89 ls []) := by
  refine lv_aload_n hx hb dX15_init_89 rfl (lv_at hl 0 rfl) ?_
  refine lv_sipush (v := 8800) hx hb dX15_init_90 (by decide) ?_
  refine va_newa (atype := .int) (ty := .int) (N' := 8800) (a0 := (8800, .inl (fun _ => 0))) hx hb (ht _ k_1_139) rfl hK hP hD hS hA (fun _ => rfl) (by decide) (by decide) (Nat.le_of_ble_eq_true rfl) (Nat.le_of_ble_eq_true rfl) (Nat.le_of_ble_eq_true rfl) dX15_init_93 (fun q_31 c_32 H _ hP hD hS => ?_)
  have hP := lft_P hP
  have hD := lft_D hD
  refine W.widen (k := 11) (n := 70652) (Nat.le_of_ble_eq_true rfl) (Nat.le_of_ble_eq_true rfl) ?_
  refine putF15 (v := .ref q_31) hx hb ht hown hK hP hD hS L_F_30 11 (by decide) f15_11 (ht _ k_10_199) hin pd_AI rfl rfl dX15_init_95 (fun F_33 H locs eF_33 L_F_33 hP hD hS => ?_)
  refine lv_aload_n hx hb dX15_init_98 rfl (lv_at hl 0 rfl) ?_
  refine lv_sipush (v := 8800) hx hb dX15_init_99 (by decide) ?_
  refine va_newa (atype := .int) (ty := .int) (N' := 8800) (a0 := (8800, .inl (fun _ => 0))) hx hb (ht _ k_1_139) rfl hK hP hD hS hA (fun _ => rfl) (by decide) (by decide) (Nat.le_of_ble_eq_true rfl) (Nat.le_of_ble_eq_true rfl) (Nat.le_of_ble_eq_true rfl) dX15_init_102 (fun q_34 c_35 H _ hP hD hS => ?_)
  have hP := lft_P hP
  have hD := lft_D hD
  refine W.widen (k := 12) (n := 79452) (Nat.le_of_ble_eq_true rfl) (Nat.le_of_ble_eq_true rfl) ?_
  refine putF15 (v := .ref q_34) hx hb ht hown hK hP hD hS L_F_33 12 (by decide) f15_12 (ht _ k_10_200) hin pd_AI rfl rfl dX15_init_104 (fun F_36 H locs eF_36 L_F_36 hP hD hS => ?_)
  refine lv_aload_n hx hb dX15_init_107 rfl (lv_at hl 0 rfl) ?_
  refine lv_sipush (v := 8800) hx hb dX15_init_108 (by decide) ?_
  refine va_newa (atype := .int) (ty := .int) (N' := 8800) (a0 := (8800, .inl (fun _ => 0))) hx hb (ht _ k_1_139) rfl hK hP hD hS hA (fun _ => rfl) (by decide) (by decide) (Nat.le_of_ble_eq_true rfl) (Nat.le_of_ble_eq_true rfl) (Nat.le_of_ble_eq_true rfl) dX15_init_111 (fun q_37 c_38 H _ hP hD hS => ?_)
  have hP := lft_P hP
  have hD := lft_D hD
  refine W.widen (k := 13) (n := 88252) (Nat.le_of_ble_eq_true rfl) (Nat.le_of_ble_eq_true rfl) ?_
  refine putF15 (v := .ref q_37) hx hb ht hown hK hP hD hS L_F_36 13 (by decide) f15_13 (ht _ k_10_201) hin pd_AI rfl rfl dX15_init_113 (fun F_39 H locs eF_39 L_F_39 hP hD hS => ?_)
  refine lv_aload_n hx hb dX15_init_116 rfl (lv_at hl 0 rfl) ?_
  refine lv_sipush (v := 8800) hx hb dX15_init_117 (by decide) ?_
  refine va_newa (atype := .int) (ty := .int) (N' := 8800) (a0 := (8800, .inl (fun _ => 0))) hx hb (ht _ k_1_139) rfl hK hP hD hS hA (fun _ => rfl) (by decide) (by decide) (Nat.le_of_ble_eq_true rfl) (Nat.le_of_ble_eq_true rfl) (Nat.le_of_ble_eq_true rfl) dX15_init_120 (fun q_40 c_41 H _ hP hD hS => ?_)
  have hP := lft_P hP
  have hD := lft_D hD
  refine W.widen (k := 14) (n := 97052) (Nat.le_of_ble_eq_true rfl) (Nat.le_of_ble_eq_true rfl) ?_
  refine putF15 (v := .ref q_40) hx hb ht hown hK hP hD hS L_F_39 14 (by decide) f15_14 (ht _ k_10_202) hin pd_AI rfl rfl dX15_init_122 (fun F_42 H locs eF_42 L_F_42 hP hD hS => ?_)
  refine lv_aload_n hx hb dX15_init_125 rfl (lv_at hl 0 rfl) ?_
  refine lv_sipush (v := 8800) hx hb dX15_init_126 (by decide) ?_
  refine va_newa (atype := .int) (ty := .int) (N' := 8800) (a0 := (8800, .inl (fun _ => 0))) hx hb (ht _ k_1_139) rfl hK hP hD hS hA (fun _ => rfl) (by decide) (by decide) (Nat.le_of_ble_eq_true rfl) (Nat.le_of_ble_eq_true rfl) (Nat.le_of_ble_eq_true rfl) dX15_init_129 (fun q_43 c_44 H _ hP hD hS => ?_)
  have hP := lft_P hP
  have hD := lft_D hD
  refine W.widen (k := 15) (n := 105852) (Nat.le_of_ble_eq_true rfl) (Nat.le_of_ble_eq_true rfl) ?_
  refine putF15 (v := .ref q_43) hx hb ht hown hK hP hD hS L_F_42 15 (by decide) f15_15 (ht _ k_10_203) hin pd_AI rfl rfl dX15_init_131 (fun F_45 H locs eF_45 L_F_45 hP hD hS => ?_)
  refine lv_aload_n hx hb dX15_init_134 rfl (lv_at hl 0 rfl) ?_
  refine lv_sipush (v := 8800) hx hb dX15_init_135 (by decide) ?_
  refine va_newa (atype := .long) (ty := .long) (N' := 8800) (a0 := (8800, .inr (.inl (fun _ => 0)))) hx hb (ht _ k_1_138) rfl hK hP hD hS hA (fun _ => rfl) (by decide) (by decide) (Nat.le_of_ble_eq_true rfl) (Nat.le_of_ble_eq_true rfl) (Nat.le_of_ble_eq_true rfl) dX15_init_138 (fun q_46 c_47 H _ hP hD hS => ?_)
  have hP := lft_P hP
  have hD := lft_D hD
  refine W.widen (k := 16) (n := 114652) (Nat.le_of_ble_eq_true rfl) (Nat.le_of_ble_eq_true rfl) ?_
  refine putF15 (v := .ref q_46) hx hb ht hown hK hP hD hS L_F_45 16 (by decide) f15_16 (ht _ k_10_204) hin pd_AJ rfl rfl dX15_init_140 (fun F_48 H locs eF_48 L_F_48 hP hD hS => ?_)
  refine lv_aload_n hx hb dX15_init_143 rfl (lv_at hl 0 rfl) ?_
  refine lv_sipush (v := 4000) hx hb dX15_init_144 (by decide) ?_
  refine va_newa (atype := .int) (ty := .int) (N' := 4000) (a0 := (4000, .inl (fun _ => 0))) hx hb (ht _ k_1_139) rfl hK hP hD hS hA (fun _ => rfl) (by decide) (by decide) (Nat.le_of_ble_eq_true rfl) (Nat.le_of_ble_eq_true rfl) (Nat.le_of_ble_eq_true rfl) dX15_init_147 (fun q_49 c_50 H hK hP hD hS => ?_)
  have hK : va_K (dC, dI) cls [(c_2, .long), (c_5, .int), (c_8, .int), (c_11, .int), (c_14, .int), (c_50, .int)] s := hK
  have hP : va_P (dC, dI) cls [(q, .inr (15, F_48)), (q_1, .inl (c_2, 36, .inr (.inl (fun _ => 0)))), (q_4, .inl (c_5, 36, .inl (fun _ => 0))), (q_7, .inl (c_8, 108, .inl (fun _ => 0))), (q_10, .inl (c_11, 36, .inl (fun _ => 0))), (q_13, .inl (c_14, 36, .inl (fun _ => 0))), (q_49, .inl (c_50, 4000, .inl (fun _ => 0)))] H := hP
  have hD : va_D A [(q, .inr (15, F_48)), (q_1, .inl (c_2, 36, .inr (.inl (fun _ => 0)))), (q_4, .inl (c_5, 36, .inl (fun _ => 0))), (q_7, .inl (c_8, 108, .inl (fun _ => 0))), (q_10, .inl (c_11, 36, .inl (fun _ => 0))), (q_13, .inl (c_14, 36, .inl (fun _ => 0))), (q_49, .inl (c_50, 4000, .inl (fun _ => 0)))] := hD
  refine W.widen (k := 17) (n := 118652) (Nat.le_of_ble_eq_true rfl) (Nat.le_of_ble_eq_true rfl) ?_
  refine putF15 (v := .ref q_49) hx hb ht hown hK hP hD hS L_F_48 18 (by decide) f15_18 (ht _ k_10_206) hin pd_AI rfl rfl dX15_init_149 (fun F_51 H locs eF_51 L_F_51 hP hD hS => ?_)
  refine lv_aload_n hx hb dX15_init_152 rfl (lv_at hl 0 rfl) ?_
  refine lv_iconst (v := (-1)) hx hb dX15_init_153 (by decide) ?_
  refine put15 (v := .int (-1)) hx hb ht hown hK hP hD hS L_F_51 21 (by decide) f15_21 (ht _ k_10_209) hin pd_I rfl rfl dX15_init_154 (fun F_52 H locs eF_52 L_F_52 hP hD hS => ?_)
  refine lv_aload_n hx hb dX15_init_157 rfl (lv_at hl 0 rfl) ?_
  refine va_new (ci := 13) (fs := [.null, .null, .null, .null, .null, .int 0, .int 0, .int 0]) (C := RX13) (T := TX13) (N := 8) hx hb ht uX13 tyX13 tkX13 hown (ht _ k_9_235) (ht _ k_9_236) (ht _ k_1_21) hK hP hD hS hA rfl (by decide +kernel) (Nat.le_of_ble_eq_true rfl) (Nat.le_of_ble_eq_true rfl) dX15_init_158 (fun q_53 H hP hD hS => ?_)
  have hP : va_P (dC, dI) cls [(q, .inr (15, F_52)), (q_1, .inl (c_2, 36, .inr (.inl (fun _ => 0)))), (q_4, .inl (c_5, 36, .inl (fun _ => 0))), (q_7, .inl (c_8, 108, .inl (fun _ => 0))), (q_10, .inl (c_11, 36, .inl (fun _ => 0))), (q_13, .inl (c_14, 36, .inl (fun _ => 0))), (q_49, .inl (c_50, 4000, .inl (fun _ => 0))), (q_53, .inr (13, [.null, .null, .null, .null, .null, .int 0, .int 0, .int 0]))] H := hP
  have hD : va_D A [(q, .inr (15, F_52)), (q_1, .inl (c_2, 36, .inr (.inl (fun _ => 0)))), (q_4, .inl (c_5, 36, .inl (fun _ => 0))), (q_7, .inl (c_8, 108, .inl (fun _ => 0))), (q_10, .inl (c_11, 36, .inl (fun _ => 0))), (q_13, .inl (c_14, 36, .inl (fun _ => 0))), (q_49, .inl (c_50, 4000, .inl (fun _ => 0))), (q_53, .inr (13, [.null, .null, .null, .null, .null, .int 0, .int 0, .int 0]))] := hD
  refine W.widen (k := 18) (n := 118660) (Nat.le_of_ble_eq_true rfl) (Nat.le_of_ble_eq_true rfl) ?_
  refine lv_dup hx hb dX15_init_161 rfl ?_
  refine ca_v (wr := [(q, .inr (15, F_52)), (q_1, .inl (c_2, 36, .inr (.inl (fun _ => 0)))), (q_4, .inl (c_5, 36, .inl (fun _ => 0))), (q_7, .inl (c_8, 108, .inl (fun _ => 0))), (q_10, .inl (c_11, 36, .inl (fun _ => 0))), (q_13, .inl (c_14, 36, .inl (fun _ => 0))), (q_49, .inl (c_50, 4000, .inl (fun _ => 0)))]) (va_runI (As := []) (rest := [.ref q_53, .ref q]) ⟨hx, hb, hml, hown, ht⟩ (k13 l dC dI H.size q_53  ) (cwI 0 ht (gdI k_10_6) rfl rfl rfl (ht _ k_1_21) (ht _ k_10_4) (ht _ k_10_5) rfl (by decide +kernel) ⟨Nat.le_of_ble_eq_true rfl, Nat.le_of_ble_eq_true rfl⟩) ⟨pcx_blind, pcx_at hP hD hK hS hA hE [7] [] [6, 7] (by decide) rfl rfl rfl rfl⟩ rfl rfl hl.1 rfl (lv_room (Nat.le_of_ble_eq_true rfl)) dX15_init_162 ⟨Nat.le_of_ble_eq_true rfl, Nat.le_of_ble_eq_true rfl⟩) hP hD hK hS hA [7] [0, 1, 2, 3, 4, 5, 6] rfl rfl (by decide) (by decide) (fun u H locs w_55 hK hP hD hS => ?_)
  have hK : va_K (dC, dI) cls [(c_2, .long), (c_5, .int), (c_8, .int), (c_11, .int), (c_14, .int), (c_50, .int)] s := hK
  have hP : va_P (dC, dI) cls [(q, .inr (15, F_52)), (q_1, .inl (c_2, 36, .inr (.inl (fun _ => 0)))), (q_4, .inl (c_5, 36, .inl (fun _ => 0))), (q_7, .inl (c_8, 108, .inl (fun _ => 0))), (q_10, .inl (c_11, 36, .inl (fun _ => 0))), (q_13, .inl (c_14, 36, .inl (fun _ => 0))), (q_49, .inl (c_50, 4000, .inl (fun _ => 0))), (q_53, .inr (13, [.null, .null, .null, .null, .null, .int 0, .int 0, .int 0]))] H := hP
  have hD : va_D A [(q, .inr (15, F_52)), (q_1, .inl (c_2, 36, .inr (.inl (fun _ => 0)))), (q_4, .inl (c_5, 36, .inl (fun _ => 0))), (q_7, .inl (c_8, 108, .inl (fun _ => 0))), (q_10, .inl (c_11, 36, .inl (fun _ => 0))), (q_13, .inl (c_14, 36, .inl (fun _ => 0))), (q_49, .inl (c_50, 4000, .inl (fun _ => 0))), (q_53, .inr (13, [.null, .null, .null, .null, .null, .int 0, .int 0, .int 0]))] := hD
  refine putF15 (v := .ref q_53) hx hb ht hown hK hP hD hS L_F_52 23 (by decide) f15_23 (ht _ k_10_211) hin pd_LFinderHouseModel_Bad_ rfl rfl dX15_init_165 (fun F_56 H locs eF_56 L_F_56 hP hD hS => ?_)
  refine lv_aload_n hx hb dX15_init_168 rfl (lv_at hl 0 rfl) ?_
  refine lv_sipush (v := 2000) hx hb dX15_init_169 (by decide) ?_
  refine va_newa (atype := .int) (ty := .int) (N' := 2000) (a0 := (2000, .inl (fun _ => 0))) hx hb (ht _ k_1_139) rfl hK hP hD hS hA (fun _ => rfl) (by decide) (by decide) (Nat.le_of_ble_eq_true rfl) (Nat.le_of_ble_eq_true rfl) (Nat.le_of_ble_eq_true rfl) dX15_init_172 (fun q_57 c_58 H _ hP hD hS => ?_)
  have hP := lft_P hP
  have hD := lft_D hD
  refine W.widen (k := 19) (n := 120660) (Nat.le_of_ble_eq_true rfl) (Nat.le_of_ble_eq_true rfl) ?_
  refine putF15 (v := .ref q_57) hx hb ht hown hK hP hD hS L_F_56 24 (by decide) f15_24 (ht _ k_10_212) hin pd_AI rfl rfl dX15_init_174 (fun F_59 H locs eF_59 L_F_59 hP hD hS => ?_)
  have K18_F_59 : F_59[18]? = some (.ref q_49) := by rw [eF_59, List.getElem?_set_ne (by decide), eF_56, List.getElem?_set_ne (by decide), eF_52, List.getElem?_set_ne (by decide), eF_51]; exact List.getElem?_set_self (by rw [L_F_48]; decide)
  have K23_F_59 : F_59[23]? = some (.ref q_53) := by rw [eF_59, List.getElem?_set_ne (by decide), eF_56]; exact List.getElem?_set_self (by rw [L_F_52]; decide)
  have hF : ∀ j, j ∉ ([11, 12, 13, 14, 15, 16, 18, 21, 23, 24] : List Nat) → F_59[j]? = F_30[j]? := fun j hj => by rw [eF_59, List.getElem?_set_ne (fun h => hj (by rw [← h]; decide)), eF_56, List.getElem?_set_ne (fun h => hj (by rw [← h]; decide)), eF_52, List.getElem?_set_ne (fun h => hj (by rw [← h]; decide)), eF_51, List.getElem?_set_ne (fun h => hj (by rw [← h]; decide)), eF_48, List.getElem?_set_ne (fun h => hj (by rw [← h]; decide)), eF_45, List.getElem?_set_ne (fun h => hj (by rw [← h]; decide)), eF_42, List.getElem?_set_ne (fun h => hj (by rw [← h]; decide)), eF_39, List.getElem?_set_ne (fun h => hj (by rw [← h]; decide)), eF_36, List.getElem?_set_ne (fun h => hj (by rw [← h]; decide)), eF_33, List.getElem?_set_ne (fun h => hj (by rw [← h]; decide))]
  exact kk F_59 q_49 c_50 q_53 H locs ls hK hP hD hS hl L_F_59 hF K18_F_59 K23_F_59
