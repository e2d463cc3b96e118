theorem dX15_feed_0 : decode cX15_feed 0 = .ok (.bipush 24, 2) := by decide +kernel
theorem dX15_feed_2 : decode cX15_feed 2 = .ok (.istore_n 2, 1) := by decide +kernel
theorem dX15_feed_3 : decode cX15_feed 3 = .ok (.iload_n 2, 1) := by decide +kernel
theorem dX15_feed_4 : decode cX15_feed 4 = .ok (.ifCond .lt 35, 3) := by decide +kernel
theorem dX15_feed_7 : decode cX15_feed 7 = .ok (.aload_n 0, 1) := by decide +kernel
theorem k_11_0 : Jvm.Cond.fieldLink "FinderHouseModel" (142 : Nat) "FinderHouseModel" "tape" "[I" ∈ tb := tb11 0 (by decide +kernel) (by decide +kernel)
theorem dX15_feed_8 : decode cX15_feed 8 = .ok (.getfield 142, 3) := by decide +kernel
theorem dX15_feed_11 : decode cX15_feed 11 = .ok (.aload_n 0, 1) := by decide +kernel
theorem dX15_feed_12 : decode cX15_feed 12 = .ok (.getfield 776, 3) := by decide +kernel
theorem dX15_feed_15 : decode cX15_feed 15 = .ok (.iload_n 1, 1) := by decide +kernel
theorem dX15_feed_16 : decode cX15_feed 16 = .ok (.iload_n 2, 1) := by decide +kernel
theorem dX15_feed_17 : decode cX15_feed 17 = .ok (.ishr, 1) := by decide +kernel
theorem dX15_feed_18 : decode cX15_feed 18 = .ok (.sipush 255, 3) := by decide +kernel
theorem dX15_feed_21 : decode cX15_feed 21 = .ok (.iand, 1) := by decide +kernel
theorem dX15_feed_22 : decode cX15_feed 22 = .ok (.iastore, 1) := by decide +kernel
theorem dX15_feed_23 : decode cX15_feed 23 = .ok (.aload_n 0, 1) := by decide +kernel
theorem dX15_feed_24 : decode cX15_feed 24 = .ok (.dup, 1) := by decide +kernel
theorem dX15_feed_25 : decode cX15_feed 25 = .ok (.getfield 776, 3) := by decide +kernel
theorem dX15_feed_28 : decode cX15_feed 28 = .ok (.iconst 1, 1) := by decide +kernel
theorem dX15_feed_29 : decode cX15_feed 29 = .ok (.iadd, 1) := by decide +kernel
theorem dX15_feed_30 : decode cX15_feed 30 = .ok (.putfield 776, 3) := by decide +kernel
theorem dX15_feed_33 : decode cX15_feed 33 = .ok (.iinc 2 (-8), 3) := by decide +kernel
theorem dX15_feed_36 : decode cX15_feed 36 = .ok (.goto (-33), 3) := by decide +kernel
theorem dX15_feed_39 : decode cX15_feed 39 = .ok (.return_, 1) := by decide +kernel
theorem dX15_feed__0 : decode cX15_feed_ 0 = .ok (.aload_n 0, 1) := by decide +kernel
theorem dX15_feed__1 : decode cX15_feed_ 1 = .ok (.aload_n 0, 1) := by decide +kernel
theorem dX15_feed__2 : decode cX15_feed_ 2 = .ok (.getfield 776, 3) := by decide +kernel
theorem dX15_feed__5 : decode cX15_feed_ 5 = .ok (.bipush 20, 2) := by decide +kernel
theorem dX15_feed__7 : decode cX15_feed_ 7 = .ok (.iadd, 1) := by decide +kernel
theorem dX15_feed__8 : decode cX15_feed_ 8 = .ok (.sipush 2000, 3) := by decide +kernel
theorem dX15_feed__11 : decode cX15_feed_ 11 = .ok (.if_icmp .le 7, 3) := by decide +kernel
theorem dX15_feed__18 : decode cX15_feed_ 18 = .ok (.iconst 0, 1) := by decide +kernel
theorem dX15_feed__19 : decode cX15_feed_ 19 = .ok (.putfield 773, 3) := by decide +kernel
theorem dX15_feed__22 : decode cX15_feed_ 22 = .ok (.aload_n 0, 1) := by decide +kernel
theorem dX15_feed__23 : decode cX15_feed_ 23 = .ok (.getfield 773, 3) := by decide +kernel
theorem dX15_feed__26 : decode cX15_feed_ 26 = .ok (.ifCond .le 5, 3) := by decide +kernel
theorem dX15_feed__31 : decode cX15_feed_ 31 = .ok (.aload_n 0, 1) := by decide +kernel
theorem dX15_feed__32 : decode cX15_feed_ 32 = .ok (.iload_n 1, 1) := by decide +kernel
theorem k_12_209 : Jvm.Cond.code ({ cls := "FinderHouseModel", name := "feed", desc := "(I)V" } : Jvm.MethodName) prog_14_method_90_code (3 : Nat) (Option.none : Option Jvm.ClassFile.FieldType) ∈ tb := tb12 209 (by decide +kernel) (by decide +kernel)
theorem k_12_206 : Jvm.Cond.methodLink "FinderHouseModel" (779 : Nat) ({ cls := "FinderHouseModel", name := "feed", desc := "(I)V" } : Jvm.MethodName) ∈ tb := tb12 206 (by decide +kernel) (by decide +kernel)
theorem k_12_208 : Jvm.Cond.instanceMethod ({ cls := "FinderHouseModel", name := "feed", desc := "(I)V" } : Jvm.MethodName) ∈ tb := tb12 208 (by decide +kernel) (by decide +kernel)
theorem ks_111 : Jvm.Cond.selects "FinderHouseModel" ({ cls := "FinderHouseModel", name := "feed", desc := "(I)V" } : Jvm.MethodName) ({ cls := "FinderHouseModel", name := "feed", desc := "(I)V" } : Jvm.MethodName) ∈ tb := tbp 111 (by decide +kernel) (by decide +kernel)
theorem dX15_feed__33 : decode cX15_feed_ 33 = .ok (.invokevirtual 779, 3) := by decide +kernel
theorem dX15_feed__36 : decode cX15_feed_ 36 = .ok (.aload_n 0, 1) := by decide +kernel
theorem dX15_feed__37 : decode cX15_feed_ 37 = .ok (.iload_n 2, 1) := by decide +kernel
theorem dX15_feed__38 : decode cX15_feed_ 38 = .ok (.invokevirtual 779, 3) := by decide +kernel
theorem dX15_feed__41 : decode cX15_feed_ 41 = .ok (.aload_n 0, 1) := by decide +kernel
theorem dX15_feed__42 : decode cX15_feed_ 42 = .ok (.iload_n 3, 1) := by decide +kernel
theorem dX15_feed__43 : decode cX15_feed_ 43 = .ok (.invokevirtual 779, 3) := by decide +kernel
theorem dX15_feed__46 : decode cX15_feed_ 46 = .ok (.aload_n 0, 1) := by decide +kernel
theorem dX15_feed__47 : decode cX15_feed_ 47 = .ok (.iload 4, 2) := by decide +kernel
theorem dX15_feed__49 : decode cX15_feed_ 49 = .ok (.invokevirtual 779, 3) := by decide +kernel
theorem dX15_feed__52 : decode cX15_feed_ 52 = .ok (.aload_n 0, 1) := by decide +kernel
theorem dX15_feed__53 : decode cX15_feed_ 53 = .ok (.iload 5, 2) := by decide +kernel
theorem dX15_feed__55 : decode cX15_feed_ 55 = .ok (.invokevirtual 779, 3) := by decide +kernel
theorem dX15_feed__58 : decode cX15_feed_ 58 = .ok (.aload_n 0, 1) := by decide +kernel
theorem dX15_feed__59 : decode cX15_feed_ 59 = .ok (.getfield 776, 3) := by decide +kernel
theorem dX15_feed__62 : decode cX15_feed_ 62 = .ok (.ireturn, 1) := by decide +kernel
set_option maxHeartbeats 4000000 in
set_option maxRecDepth 100000 in
theorem r_feed1_0 (l : Launch) (dC : Nat → ClassId) (dI : Nat → Nat → Nat) (sz : Nat) (q : Nat) (fs : List Value) (tq : Nat) (cT : ClassId) (ft : Nat → Int32) (p0 : Int32) (L_fs : fs.length = 163) (K51_fs : fs[51]? = some (.int 0)) (K52_fs : fs[52]? = some (.ref tq)) (K53_fs : fs[53]? = some (.int 0)) : Met l yX15_feed (Cond.code yX15_feed cX15_feed 3 none :: tb) ({ frames := 0, cells := 0, slots := 0, locals := 0 }) (pcw [.ref q, .int p0] (dC, dI) [(q, .inr (15, fs)), (tq, .inl (cT, 2000, .inl ft))] [(cT, .int)] sz) (va_Qv (fun (u : (List Value) × (Nat → Int32)) => match u with | (fs1, ft1) => (True) ∧ (fs1.length = 163) ∧ (fs1[51]? = some (.int 0)) ∧ (fs1[52]? = some (.ref tq)) ∧ (fs1[53]? = some (.int 4))) (bw (dC, dI) (va_A [(q, .inr (15, fs)), (tq, .inl (cT, 2000, .inl ft))] sz) (fun (u : (List Value) × (Nat → Int32)) => match u with | (fs1, ft1) => [(q, .inr (15, fs1)), (tq, .inl (cT, 2000, .inl ft1))]) (fun (u : (List Value) × (Nat → Int32)) => match u with | (fs1, ft1) => [(cT, .int)])) (va_A [(q, .inr (15, fs)), (tq, .inl (cT, 2000, .inl ft))] sz)) 0 0 (va_A [(q, .inr (15, fs)), (tq, .inl (cT, 2000, .inl ft))] sz) := by
  refine Met.ofW (cc := cX15_feed) (maxL := 3) (ret := none) (by decide) rfl ?_
  intro p e s m args below meth c s₁ B hml hv
  obtain ⟨rfl, hsz, hP, hK, hD0⟩ := hv
  have hx := B.exec
  have hb := B.bytes
  have hr := B.returns
  have hts := atoms_spec (ws := Cond.code yX15_feed cX15_feed 3 none :: tb) B.pre
  have ht : ∀ w ∈ tb, w.before _ s = true := fun w h => hts w (List.mem_cons_of_mem _ h)
  have hown : s.vm.findClass RX15 = some m.cls := findClass_of_methodNamed B.named
  have hlocks := B.notSynchronized
  subst hsz
  have hD := hD0.self (sz := s.heap.size)
  generalize hAe : va_A [(q, .inr (15, fs)), (tq, .inl (cT, 2000, .inl ft))] s.heap.size = A at hD ⊢
  have hA : ∀ q : Nat, s.heap.size ≤ q → A q := fun q h => by rw [← hAe]; exact Or.inr h
  have hS : va_S A s.heap s.heap [] := va_S.rf
  have hl := lv_entry ([.ref q, .int p0]) (n := 3) (Nat.le_of_ble_eq_true rfl)
  rw [lg_entry_eq]
  generalize (lg_sl ([.ref q, .int p0]) ++ List.replicate (3 - (lg_sl ([.ref q, .int p0])).length) Slot.unset).toArray = ls at hl ⊢
  have hl : lv_has ls 3 [(0, .ref q), (1, .int p0)] := hl
  have hP : va_P (dC, dI) cls [(q, .inr (15, fs)), (tq, .inl (cT, 2000, .inl ft))] s.heap := hP
  refine lv_bipush (v := 24) hx hb dX15_feed_0 (by decide) ?_
  refine lv_istore_n (lv' := [(2, .int 24), (0, .ref q), (1, .int p0)]) hx hb dX15_feed_2 rfl hl (by decide) rfl (fun ls hl => ?_)
  refine lv_iload_n hx hb dX15_feed_3 rfl (lv_at hl 0 rfl) ?_
  refine lv_if_lt (tgt := 39) hx hb dX15_feed_4 (by decide) (fun c0 => absurd c0 (by decide)) (fun _ => ?_)
  refine lv_aload_n hx hb dX15_feed_7 rfl (lv_at hl 1 rfl) ?_
  refine va_get (D := (dC, dI)) (ci := 15) (v := .ref tq) (C := RX15) (T := TX15) (N := 163) hx hb ht uX15 hown hK hP 0 rfl rfl 52 (by decide) (ht _ k_11_0) (fun _ h9 => h9) K52_fs dX15_feed_8 ?_
  refine lv_aload_n hx hb dX15_feed_11 rfl (lv_at hl 1 rfl) ?_
  refine va_get (D := (dC, dI)) (ci := 15) (v := .int 0) (C := RX15) (T := TX15) (N := 163) hx hb ht uX15 hown hK hP 0 rfl rfl 53 (by decide) (ht _ k_11_1) (fun _ h9 => h9) K53_fs dX15_feed_12 ?_
  refine lv_iload_n hx hb dX15_feed_15 rfl (lv_at hl 2 rfl) ?_
  refine lv_iload_n hx hb dX15_feed_16 rfl (lv_at hl 0 rfl) ?_
  refine lv_ishr hx hb dX15_feed_17 ?_
  refine lv_topi (fun x_1 ex_1 => ?_)
  refine lv_sipush (v := 255) hx hb dX15_feed_18 (by decide) ?_
  refine lv_iand hx hb dX15_feed_21 ?_
  refine lv_topi (fun x_2 ex_2 => ?_)
  refine va_iast (i := 0) (x := x_2) hx hb hK hP hD hS 1 0 rfl rfl (by unfold vp_in; decide) dX15_feed_22 (fun H locs hP hD hS => ?_)
  obtain ⟨f_3, ef_3⟩ : ∃ g : Nat → Int32, g = upd ft (0 : Int32).toNatClampNeg x_2 := ⟨_, rfl⟩
  rw [← ef_3] at hP hD
  have hP : va_P (dC, dI) cls [(q, .inr (15, fs)), (tq, .inl (cT, 2000, .inl f_3))] H := hP
  have hD : va_D A [(q, .inr (15, fs)), (tq, .inl (cT, 2000, .inl f_3))] := hD
  refine lv_aload_n hx hb dX15_feed_23 rfl (lv_at hl 1 rfl) ?_
  refine lv_dup hx hb dX15_feed_24 rfl ?_
  refine va_get (D := (dC, dI)) (ci := 15) (v := .int 0) (C := RX15) (T := TX15) (N := 163) hx hb ht uX15 hown hK hP 0 rfl rfl 53 (by decide) (ht _ k_11_1) (fun _ h9 => h9) K53_fs dX15_feed_25 ?_
  refine lv_iconst (v := 1) hx hb dX15_feed_28 (by decide) ?_
  refine lv_iadd hx hb dX15_feed_29 ?_
  refine tk_i (y := 1) (by decide) ?_
  refine va_put (D := (dC, dI)) (ci := 15) (v := .int 1) (ty := .int) (C := RX15) (T := TX15) (N := 163) hx hb ht uX15 tyX15 tkX15 nmX15 hown hK hP hD hS 0 rfl rfl 53 (by decide) (ht _ k_11_1) (fun _ h9 => h9) rfl (by decide +kernel) rfl rfl (by rw [L_fs]; decide) dX15_feed_30 (fun H locs hP hD hS => ?_)
  obtain ⟨F_4, eF_4⟩ : ∃ g : List Value, g = fs.set 53 (.int 1) := ⟨_, rfl⟩
  rw [← eF_4] at hP hD
  have K51_F_4 : F_4[51]? = some (.int 0) := by rw [eF_4, List.getElem?_set_ne (by decide)]; exact K51_fs
  have K52_F_4 : F_4[52]? = some (.ref tq) := by rw [eF_4, List.getElem?_set_ne (by decide)]; exact K52_fs
  have K53_F_4 : F_4[53]? = some (.int 1) := by rw [eF_4]; exact List.getElem?_set_self (by rw [L_fs]; decide)
  have L_F_4 : F_4.length = 163 := by rw [eF_4, List.length_set]; exact L_fs
  have hP : va_P (dC, dI) cls [(q, .inr (15, F_4)), (tq, .inl (cT, 2000, .inl f_3))] H := hP
  have hD : va_D A [(q, .inr (15, F_4)), (tq, .inl (cT, 2000, .inl f_3))] := hD
  refine lv_iinc (v := 16) (lv' := [(2, .int 16), (0, .ref q), (1, .int p0)]) hx hb dX15_feed_33 hl (k := 0) rfl (by decide) (by decide) rfl (fun ls hl => ?_)
  refine lv_goto (tgt := 3) hx hb dX15_feed_36 (by decide) ?_
  refine lv_iload_n hx hb dX15_feed_3 rfl (lv_at hl 0 rfl) ?_
  refine lv_if_lt (tgt := 39) hx hb dX15_feed_4 (by decide) (fun c0 => absurd c0 (by decide)) (fun _ => ?_)
  refine lv_aload_n hx hb dX15_feed_7 rfl (lv_at hl 1 rfl) ?_
  refine va_get (D := (dC, dI)) (ci := 15) (v := .ref tq) (C := RX15) (T := TX15) (N := 163) hx hb ht uX15 hown hK hP 0 rfl rfl 52 (by decide) (ht _ k_11_0) (fun _ h9 => h9) K52_F_4 dX15_feed_8 ?_
  refine lv_aload_n hx hb dX15_feed_11 rfl (lv_at hl 1 rfl) ?_
  refine va_get (D := (dC, dI)) (ci := 15) (v := .int 1) (C := RX15) (T := TX15) (N := 163) hx hb ht uX15 hown hK hP 0 rfl rfl 53 (by decide) (ht _ k_11_1) (fun _ h9 => h9) K53_F_4 dX15_feed_12 ?_
  refine lv_iload_n hx hb dX15_feed_15 rfl (lv_at hl 2 rfl) ?_
  refine lv_iload_n hx hb dX15_feed_16 rfl (lv_at hl 0 rfl) ?_
  refine lv_ishr hx hb dX15_feed_17 ?_
  refine lv_topi (fun x_5 ex_5 => ?_)
  refine lv_sipush (v := 255) hx hb dX15_feed_18 (by decide) ?_
  refine lv_iand hx hb dX15_feed_21 ?_
  refine lv_topi (fun x_6 ex_6 => ?_)
  refine va_iast (i := 1) (x := x_6) hx hb hK hP hD hS 1 0 rfl rfl (by unfold vp_in; decide) dX15_feed_22 (fun H locs hP hD hS => ?_)
  obtain ⟨f_7, ef_7⟩ : ∃ g : Nat → Int32, g = upd f_3 (1 : Int32).toNatClampNeg x_6 := ⟨_, rfl⟩
  rw [← ef_7] at hP hD
  have hP : va_P (dC, dI) cls [(q, .inr (15, F_4)), (tq, .inl (cT, 2000, .inl f_7))] H := hP
  have hD : va_D A [(q, .inr (15, F_4)), (tq, .inl (cT, 2000, .inl f_7))] := hD
  refine lv_aload_n hx hb dX15_feed_23 rfl (lv_at hl 1 rfl) ?_
  refine lv_dup hx hb dX15_feed_24 rfl ?_
  refine va_get (D := (dC, dI)) (ci := 15) (v := .int 1) (C := RX15) (T := TX15) (N := 163) hx hb ht uX15 hown hK hP 0 rfl rfl 53 (by decide) (ht _ k_11_1) (fun _ h9 => h9) K53_F_4 dX15_feed_25 ?_
  refine lv_iconst (v := 1) hx hb dX15_feed_28 (by decide) ?_
  refine lv_iadd hx hb dX15_feed_29 ?_
  refine tk_i (y := 2) (by decide) ?_
  refine va_put (D := (dC, dI)) (ci := 15) (v := .int 2) (ty := .int) (C := RX15) (T := TX15) (N := 163) hx hb ht uX15 tyX15 tkX15 nmX15 hown hK hP hD hS 0 rfl rfl 53 (by decide) (ht _ k_11_1) (fun _ h9 => h9) rfl (by decide +kernel) rfl rfl (by rw [L_F_4]; decide) dX15_feed_30 (fun H locs hP hD hS => ?_)
  obtain ⟨F_8, eF_8⟩ : ∃ g : List Value, g = F_4.set 53 (.int 2) := ⟨_, rfl⟩
  rw [← eF_8] at hP hD
  have K51_F_8 : F_8[51]? = some (.int 0) := by rw [eF_8, List.getElem?_set_ne (by decide)]; exact K51_F_4
  have K52_F_8 : F_8[52]? = some (.ref tq) := by rw [eF_8, List.getElem?_set_ne (by decide)]; exact K52_F_4
  have K53_F_8 : F_8[53]? = some (.int 2) := by rw [eF_8]; exact List.getElem?_set_self (by rw [L_F_4]; decide)
  have L_F_8 : F_8.length = 163 := by rw [eF_8, List.length_set]; exact L_F_4
  have hP : va_P (dC, dI) cls [(q, .inr (15, F_8)), (tq, .inl (cT, 2000, .inl f_7))] H := hP
  have hD : va_D A [(q, .inr (15, F_8)), (tq, .inl (cT, 2000, .inl f_7))] := hD
  refine lv_iinc (v := 8) (lv' := [(2, .int 8), (0, .ref q), (1, .int p0)]) hx hb dX15_feed_33 hl (k := 0) rfl (by decide) (by decide) rfl (fun ls hl => ?_)
  refine lv_goto (tgt := 3) hx hb dX15_feed_36 (by decide) ?_
  refine lv_iload_n hx hb dX15_feed_3 rfl (lv_at hl 0 rfl) ?_
  refine lv_if_lt (tgt := 39) hx hb dX15_feed_4 (by decide) (fun c0 => absurd c0 (by decide)) (fun _ => ?_)
  refine lv_aload_n hx hb dX15_feed_7 rfl (lv_at hl 1 rfl) ?_
  refine va_get (D := (dC, dI)) (ci := 15) (v := .ref tq) (C := RX15) (T := TX15) (N := 163) hx hb ht uX15 hown hK hP 0 rfl rfl 52 (by decide) (ht _ k_11_0) (fun _ h9 => h9) K52_F_8 dX15_feed_8 ?_
  refine lv_aload_n hx hb dX15_feed_11 rfl (lv_at hl 1 rfl) ?_
  refine va_get (D := (dC, dI)) (ci := 15) (v := .int 2) (C := RX15) (T := TX15) (N := 163) hx hb ht uX15 hown hK hP 0 rfl rfl 53 (by decide) (ht _ k_11_1) (fun _ h9 => h9) K53_F_8 dX15_feed_12 ?_
  refine lv_iload_n hx hb dX15_feed_15 rfl (lv_at hl 2 rfl) ?_
  refine lv_iload_n hx hb dX15_feed_16 rfl (lv_at hl 0 rfl) ?_
  refine lv_ishr hx hb dX15_feed_17 ?_
  refine lv_topi (fun x_9 ex_9 => ?_)
  refine lv_sipush (v := 255) hx hb dX15_feed_18 (by decide) ?_
  refine lv_iand hx hb dX15_feed_21 ?_
  refine lv_topi (fun x_10 ex_10 => ?_)
  refine va_iast (i := 2) (x := x_10) hx hb hK hP hD hS 1 0 rfl rfl (by unfold vp_in; decide) dX15_feed_22 (fun H locs hP hD hS => ?_)
  obtain ⟨f_11, ef_11⟩ : ∃ g : Nat → Int32, g = upd f_7 (2 : Int32).toNatClampNeg x_10 := ⟨_, rfl⟩
  rw [← ef_11] at hP hD
  have hP : va_P (dC, dI) cls [(q, .inr (15, F_8)), (tq, .inl (cT, 2000, .inl f_11))] H := hP
  have hD : va_D A [(q, .inr (15, F_8)), (tq, .inl (cT, 2000, .inl f_11))] := hD
  refine lv_aload_n hx hb dX15_feed_23 rfl (lv_at hl 1 rfl) ?_
  refine lv_dup hx hb dX15_feed_24 rfl ?_
  refine va_get (D := (dC, dI)) (ci := 15) (v := .int 2) (C := RX15) (T := TX15) (N := 163) hx hb ht uX15 hown hK hP 0 rfl rfl 53 (by decide) (ht _ k_11_1) (fun _ h9 => h9) K53_F_8 dX15_feed_25 ?_
  refine lv_iconst (v := 1) hx hb dX15_feed_28 (by decide) ?_
  refine lv_iadd hx hb dX15_feed_29 ?_
  refine tk_i (y := 3) (by decide) ?_
  refine va_put (D := (dC, dI)) (ci := 15) (v := .int 3) (ty := .int) (C := RX15) (T := TX15) (N := 163) hx hb ht uX15 tyX15 tkX15 nmX15 hown hK hP hD hS 0 rfl rfl 53 (by decide) (ht _ k_11_1) (fun _ h9 => h9) rfl (by decide +kernel) rfl rfl (by rw [L_F_8]; decide) dX15_feed_30 (fun H locs hP hD hS => ?_)
  obtain ⟨F_12, eF_12⟩ : ∃ g : List Value, g = F_8.set 53 (.int 3) := ⟨_, rfl⟩
  rw [← eF_12] at hP hD
  have K51_F_12 : F_12[51]? = some (.int 0) := by rw [eF_12, List.getElem?_set_ne (by decide)]; exact K51_F_8
  have K52_F_12 : F_12[52]? = some (.ref tq) := by rw [eF_12, List.getElem?_set_ne (by decide)]; exact K52_F_8
  have K53_F_12 : F_12[53]? = some (.int 3) := by rw [eF_12]; exact List.getElem?_set_self (by rw [L_F_8]; decide)
  have L_F_12 : F_12.length = 163 := by rw [eF_12, List.length_set]; exact L_F_8
  have hP : va_P (dC, dI) cls [(q, .inr (15, F_12)), (tq, .inl (cT, 2000, .inl f_11))] H := hP
  have hD : va_D A [(q, .inr (15, F_12)), (tq, .inl (cT, 2000, .inl f_11))] := hD
  refine lv_iinc (v := 0) (lv' := [(2, .int 0), (0, .ref q), (1, .int p0)]) hx hb dX15_feed_33 hl (k := 0) rfl (by decide) (by decide) rfl (fun ls hl => ?_)
  refine lv_goto (tgt := 3) hx hb dX15_feed_36 (by decide) ?_
  refine lv_iload_n hx hb dX15_feed_3 rfl (lv_at hl 0 rfl) ?_
  refine lv_if_lt (tgt := 39) hx hb dX15_feed_4 (by decide) (fun c0 => absurd c0 (by decide)) (fun _ => ?_)
  refine lv_aload_n hx hb dX15_feed_7 rfl (lv_at hl 1 rfl) ?_
  refine va_get (D := (dC, dI)) (ci := 15) (v := .ref tq) (C := RX15) (T := TX15) (N := 163) hx hb ht uX15 hown hK hP 0 rfl rfl 52 (by decide) (ht _ k_11_0) (fun _ h9 => h9) K52_F_12 dX15_feed_8 ?_
  refine lv_aload_n hx hb dX15_feed_11 rfl (lv_at hl 1 rfl) ?_
  refine va_get (D := (dC, dI)) (ci := 15) (v := .int 3) (C := RX15) (T := TX15) (N := 163) hx hb ht uX15 hown hK hP 0 rfl rfl 53 (by decide) (ht _ k_11_1) (fun _ h9 => h9) K53_F_12 dX15_feed_12 ?_
  refine lv_iload_n hx hb dX15_feed_15 rfl (lv_at hl 2 rfl) ?_
  refine lv_iload_n hx hb dX15_feed_16 rfl (lv_at hl 0 rfl) ?_
  refine lv_ishr hx hb dX15_feed_17 ?_
  refine lv_topi (fun x_13 ex_13 => ?_)
  refine lv_sipush (v := 255) hx hb dX15_feed_18 (by decide) ?_
  refine lv_iand hx hb dX15_feed_21 ?_
  refine lv_topi (fun x_14 ex_14 => ?_)
  refine va_iast (i := 3) (x := x_14) hx hb hK hP hD hS 1 0 rfl rfl (by unfold vp_in; decide) dX15_feed_22 (fun H locs hP hD hS => ?_)
  obtain ⟨f_15, ef_15⟩ : ∃ g : Nat → Int32, g = upd f_11 (3 : Int32).toNatClampNeg x_14 := ⟨_, rfl⟩
  rw [← ef_15] at hP hD
  have hP : va_P (dC, dI) cls [(q, .inr (15, F_12)), (tq, .inl (cT, 2000, .inl f_15))] H := hP
  have hD : va_D A [(q, .inr (15, F_12)), (tq, .inl (cT, 2000, .inl f_15))] := hD
  refine lv_aload_n hx hb dX15_feed_23 rfl (lv_at hl 1 rfl) ?_
  refine lv_dup hx hb dX15_feed_24 rfl ?_
  refine va_get (D := (dC, dI)) (ci := 15) (v := .int 3) (C := RX15) (T := TX15) (N := 163) hx hb ht uX15 hown hK hP 0 rfl rfl 53 (by decide) (ht _ k_11_1) (fun _ h9 => h9) K53_F_12 dX15_feed_25 ?_
  refine lv_iconst (v := 1) hx hb dX15_feed_28 (by decide) ?_
  refine lv_iadd hx hb dX15_feed_29 ?_
  refine tk_i (y := 4) (by decide) ?_
  refine va_put (D := (dC, dI)) (ci := 15) (v := .int 4) (ty := .int) (C := RX15) (T := TX15) (N := 163) hx hb ht uX15 tyX15 tkX15 nmX15 hown hK hP hD hS 0 rfl rfl 53 (by decide) (ht _ k_11_1) (fun _ h9 => h9) rfl (by decide +kernel) rfl rfl (by rw [L_F_12]; decide) dX15_feed_30 (fun H locs hP hD hS => ?_)
  obtain ⟨F_16, eF_16⟩ : ∃ g : List Value, g = F_12.set 53 (.int 4) := ⟨_, rfl⟩
  rw [← eF_16] at hP hD
  have K51_F_16 : F_16[51]? = some (.int 0) := by rw [eF_16, List.getElem?_set_ne (by decide)]; exact K51_F_12
  have K52_F_16 : F_16[52]? = some (.ref tq) := by rw [eF_16, List.getElem?_set_ne (by decide)]; exact K52_F_12
  have K53_F_16 : F_16[53]? = some (.int 4) := by rw [eF_16]; exact List.getElem?_set_self (by rw [L_F_12]; decide)
  have L_F_16 : F_16.length = 163 := by rw [eF_16, List.length_set]; exact L_F_12
  have hP : va_P (dC, dI) cls [(q, .inr (15, F_16)), (tq, .inl (cT, 2000, .inl f_15))] H := hP
  have hD : va_D A [(q, .inr (15, F_16)), (tq, .inl (cT, 2000, .inl f_15))] := hD
  refine lv_iinc (v := (-8)) (lv' := [(2, .int (-8)), (0, .ref q), (1, .int p0)]) hx hb dX15_feed_33 hl (k := 0) rfl (by decide) (by decide) rfl (fun ls hl => ?_)
  refine lv_goto (tgt := 3) hx hb dX15_feed_36 (by decide) ?_
  refine lv_iload_n hx hb dX15_feed_3 rfl (lv_at hl 0 rfl) ?_
  refine lv_if_lt (tgt := 39) hx hb dX15_feed_4 (by decide) (fun _ => ?_) (fun c0 => absurd c0 (by decide))
  exact W.vret hx hb hr (fun t ht9 hW => ⟨⟨(F_16, f_15), rfl, ⟨trivial, L_F_16, K51_F_16, K52_F_16, K53_F_16⟩, by rw [ht9]; exact hP.sub [0, 1] rfl, va_K.moved hW.alike (hK.sub [0] rfl), hD.sub [0, 1] (by decide) rfl⟩, hS.F ht9⟩) hS.2.2 dX15_feed_39
set_option maxHeartbeats 4000000 in
set_option maxRecDepth 100000 in
theorem r_feed1_4 (l : Launch) (dC : Nat → ClassId) (dI : Nat → Nat → Nat) (sz : Nat) (q : Nat) (fs : List Value) (tq : Nat) (cT : ClassId) (ft : Nat → Int32) (p0 : Int32) (L_fs : fs.length = 163) (K51_fs : fs[51]? = some (.int 0)) (K52_fs : fs[52]? = some (.ref tq)) (K53_fs : fs[53]? = some (.int 4)) : Met l yX15_feed (Cond.code yX15_feed cX15_feed 3 none :: tb) ({ frames := 0, cells := 0, slots := 0, locals := 0 }) (pcw [.ref q, .int p0] (dC, dI) [(q, .inr (15, fs)), (tq, .inl (cT, 2000, .inl ft))] [(cT, .int)] sz) (va_Qv (fun (u : (List Value) × (Nat → Int32)) => match u with | (fs1, ft1) => (True) ∧ (fs1.length = 163) ∧ (fs1[51]? = some (.int 0)) ∧ (fs1[52]? = some (.ref tq)) ∧ (fs1[53]? = some (.int 8))) (bw (dC, dI) (va_A [(q, .inr (15, fs)), (tq, .inl (cT, 2000, .inl ft))] sz) (fun (u : (List Value) × (Nat → Int32)) => match u with | (fs1, ft1) => [(q, .inr (15, fs1)), (tq, .inl (cT, 2000, .inl ft1))]) (fun (u : (List Value) × (Nat → Int32)) => match u with | (fs1, ft1) => [(cT, .int)])) (va_A [(q, .inr (15, fs)), (tq, .inl (cT, 2000, .inl ft))] sz)) 0 0 (va_A [(q, .inr (15, fs)), (tq, .inl (cT, 2000, .inl ft))] sz) := by
  refine Met.ofW (cc := cX15_feed) (maxL := 3) (ret := none) (by decide) rfl ?_
  intro p e s m args below meth c s₁ B hml hv
  obtain ⟨rfl, hsz, hP, hK, hD0⟩ := hv
  have hx := B.exec
  have hb := B.bytes
  have hr := B.returns
  have hts := atoms_spec (ws := Cond.code yX15_feed cX15_feed 3 none :: tb) B.pre
  have ht : ∀ w ∈ tb, w.before _ s = true := fun w h => hts w (List.mem_cons_of_mem _ h)
  have hown : s.vm.findClass RX15 = some m.cls := findClass_of_methodNamed B.named
  have hlocks := B.notSynchronized
  subst hsz
  have hD := hD0.self (sz := s.heap.size)
  generalize hAe : va_A [(q, .inr (15, fs)), (tq, .inl (cT, 2000, .inl ft))] s.heap.size = A at hD ⊢
  have hA : ∀ q : Nat, s.heap.size ≤ q → A q := fun q h => by rw [← hAe]; exact Or.inr h
  have hS : va_S A s.heap s.heap [] := va_S.rf
  have hl := lv_entry ([.ref q, .int p0]) (n := 3) (Nat.le_of_ble_eq_true rfl)
  rw [lg_entry_eq]
  generalize (lg_sl ([.ref q, .int p0]) ++ List.replicate (3 - (lg_sl ([.ref q, .int p0])).length) Slot.unset).toArray = ls at hl ⊢
  have hl : lv_has ls 3 [(0, .ref q), (1, .int p0)] := hl
  have hP : va_P (dC, dI) cls [(q, .inr (15, fs)), (tq, .inl (cT, 2000, .inl ft))] s.heap := hP
  refine lv_bipush (v := 24) hx hb dX15_feed_0 (by decide) ?_
  refine lv_istore_n (lv' := [(2, .int 24), (0, .ref q), (1, .int p0)]) hx hb dX15_feed_2 rfl hl (by decide) rfl (fun ls hl => ?_)
  refine lv_iload_n hx hb dX15_feed_3 rfl (lv_at hl 0 rfl) ?_
  refine lv_if_lt (tgt := 39) hx hb dX15_feed_4 (by decide) (fun c0 => absurd c0 (by decide)) (fun _ => ?_)
  refine lv_aload_n hx hb dX15_feed_7 rfl (lv_at hl 1 rfl) ?_
  refine va_get (D := (dC, dI)) (ci := 15) (v := .ref tq) (C := RX15) (T := TX15) (N := 163) hx hb ht uX15 hown hK hP 0 rfl rfl 52 (by decide) (ht _ k_11_0) (fun _ h9 => h9) K52_fs dX15_feed_8 ?_
  refine lv_aload_n hx hb dX15_feed_11 rfl (lv_at hl 1 rfl) ?_
  refine va_get (D := (dC, dI)) (ci := 15) (v := .int 4) (C := RX15) (T := TX15) (N := 163) hx hb ht uX15 hown hK hP 0 rfl rfl 53 (by decide) (ht _ k_11_1) (fun _ h9 => h9) K53_fs dX15_feed_12 ?_
  refine lv_iload_n hx hb dX15_feed_15 rfl (lv_at hl 2 rfl) ?_
  refine lv_iload_n hx hb dX15_feed_16 rfl (lv_at hl 0 rfl) ?_
  refine lv_ishr hx hb dX15_feed_17 ?_
  refine lv_topi (fun x_1 ex_1 => ?_)
  refine lv_sipush (v := 255) hx hb dX15_feed_18 (by decide) ?_
  refine lv_iand hx hb dX15_feed_21 ?_
  refine lv_topi (fun x_2 ex_2 => ?_)
  refine va_iast (i := 4) (x := x_2) hx hb hK hP hD hS 1 0 rfl rfl (by unfold vp_in; decide) dX15_feed_22 (fun H locs hP hD hS => ?_)
  obtain ⟨f_3, ef_3⟩ : ∃ g : Nat → Int32, g = upd ft (4 : Int32).toNatClampNeg x_2 := ⟨_, rfl⟩
  rw [← ef_3] at hP hD
  have hP : va_P (dC, dI) cls [(q, .inr (15, fs)), (tq, .inl (cT, 2000, .inl f_3))] H := hP
  have hD : va_D A [(q, .inr (15, fs)), (tq, .inl (cT, 2000, .inl f_3))] := hD
  refine lv_aload_n hx hb dX15_feed_23 rfl (lv_at hl 1 rfl) ?_
  refine lv_dup hx hb dX15_feed_24 rfl ?_
  refine va_get (D := (dC, dI)) (ci := 15) (v := .int 4) (C := RX15) (T := TX15) (N := 163) hx hb ht uX15 hown hK hP 0 rfl rfl 53 (by decide) (ht _ k_11_1) (fun _ h9 => h9) K53_fs dX15_feed_25 ?_
  refine lv_iconst (v := 1) hx hb dX15_feed_28 (by decide) ?_
  refine lv_iadd hx hb dX15_feed_29 ?_
  refine tk_i (y := 5) (by decide) ?_
  refine va_put (D := (dC, dI)) (ci := 15) (v := .int 5) (ty := .int) (C := RX15) (T := TX15) (N := 163) hx hb ht uX15 tyX15 tkX15 nmX15 hown hK hP hD hS 0 rfl rfl 53 (by decide) (ht _ k_11_1) (fun _ h9 => h9) rfl (by decide +kernel) rfl rfl (by rw [L_fs]; decide) dX15_feed_30 (fun H locs hP hD hS => ?_)
  obtain ⟨F_4, eF_4⟩ : ∃ g : List Value, g = fs.set 53 (.int 5) := ⟨_, rfl⟩
  rw [← eF_4] at hP hD
  have K51_F_4 : F_4[51]? = some (.int 0) := by rw [eF_4, List.getElem?_set_ne (by decide)]; exact K51_fs
  have K52_F_4 : F_4[52]? = some (.ref tq) := by rw [eF_4, List.getElem?_set_ne (by decide)]; exact K52_fs
  have K53_F_4 : F_4[53]? = some (.int 5) := by rw [eF_4]; exact List.getElem?_set_self (by rw [L_fs]; decide)
  have L_F_4 : F_4.length = 163 := by rw [eF_4, List.length_set]; exact L_fs
  have hP : va_P (dC, dI) cls [(q, .inr (15, F_4)), (tq, .inl (cT, 2000, .inl f_3))] H := hP
  have hD : va_D A [(q, .inr (15, F_4)), (tq, .inl (cT, 2000, .inl f_3))] := hD
  refine lv_iinc (v := 16) (lv' := [(2, .int 16), (0, .ref q), (1, .int p0)]) hx hb dX15_feed_33 hl (k := 0) rfl (by decide) (by decide) rfl (fun ls hl => ?_)
  refine lv_goto (tgt := 3) hx hb dX15_feed_36 (by decide) ?_
  refine lv_iload_n hx hb dX15_feed_3 rfl (lv_at hl 0 rfl) ?_
  refine lv_if_lt (tgt := 39) hx hb dX15_feed_4 (by decide) (fun c0 => absurd c0 (by decide)) (fun _ => ?_)
  refine lv_aload_n hx hb dX15_feed_7 rfl (lv_at hl 1 rfl) ?_
  refine va_get (D := (dC, dI)) (ci := 15) (v := .ref tq) (C := RX15) (T := TX15) (N := 163) hx hb ht uX15 hown hK hP 0 rfl rfl 52 (by decide) (ht _ k_11_0) (fun _ h9 => h9) K52_F_4 dX15_feed_8 ?_
  refine lv_aload_n hx hb dX15_feed_11 rfl (lv_at hl 1 rfl) ?_
  refine va_get (D := (dC, dI)) (ci := 15) (v := .int 5) (C := RX15) (T := TX15) (N := 163) hx hb ht uX15 hown hK hP 0 rfl rfl 53 (by decide) (ht _ k_11_1) (fun _ h9 => h9) K53_F_4 dX15_feed_12 ?_
  refine lv_iload_n hx hb dX15_feed_15 rfl (lv_at hl 2 rfl) ?_
  refine lv_iload_n hx hb dX15_feed_16 rfl (lv_at hl 0 rfl) ?_
  refine lv_ishr hx hb dX15_feed_17 ?_
  refine lv_topi (fun x_5 ex_5 => ?_)
  refine lv_sipush (v := 255) hx hb dX15_feed_18 (by decide) ?_
  refine lv_iand hx hb dX15_feed_21 ?_
  refine lv_topi (fun x_6 ex_6 => ?_)
  refine va_iast (i := 5) (x := x_6) hx hb hK hP hD hS 1 0 rfl rfl (by unfold vp_in; decide) dX15_feed_22 (fun H locs hP hD hS => ?_)
  obtain ⟨f_7, ef_7⟩ : ∃ g : Nat → Int32, g = upd f_3 (5 : Int32).toNatClampNeg x_6 := ⟨_, rfl⟩
  rw [← ef_7] at hP hD
  have hP : va_P (dC, dI) cls [(q, .inr (15, F_4)), (tq, .inl (cT, 2000, .inl f_7))] H := hP
  have hD : va_D A [(q, .inr (15, F_4)), (tq, .inl (cT, 2000, .inl f_7))] := hD
  refine lv_aload_n hx hb dX15_feed_23 rfl (lv_at hl 1 rfl) ?_
  refine lv_dup hx hb dX15_feed_24 rfl ?_
  refine va_get (D := (dC, dI)) (ci := 15) (v := .int 5) (C := RX15) (T := TX15) (N := 163) hx hb ht uX15 hown hK hP 0 rfl rfl 53 (by decide) (ht _ k_11_1) (fun _ h9 => h9) K53_F_4 dX15_feed_25 ?_
  refine lv_iconst (v := 1) hx hb dX15_feed_28 (by decide) ?_
  refine lv_iadd hx hb dX15_feed_29 ?_
  refine tk_i (y := 6) (by decide) ?_
  refine va_put (D := (dC, dI)) (ci := 15) (v := .int 6) (ty := .int) (C := RX15) (T := TX15) (N := 163) hx hb ht uX15 tyX15 tkX15 nmX15 hown hK hP hD hS 0 rfl rfl 53 (by decide) (ht _ k_11_1) (fun _ h9 => h9) rfl (by decide +kernel) rfl rfl (by rw [L_F_4]; decide) dX15_feed_30 (fun H locs hP hD hS => ?_)
  obtain ⟨F_8, eF_8⟩ : ∃ g : List Value, g = F_4.set 53 (.int 6) := ⟨_, rfl⟩
  rw [← eF_8] at hP hD
  have K51_F_8 : F_8[51]? = some (.int 0) := by rw [eF_8, List.getElem?_set_ne (by decide)]; exact K51_F_4
  have K52_F_8 : F_8[52]? = some (.ref tq) := by rw [eF_8, List.getElem?_set_ne (by decide)]; exact K52_F_4
  have K53_F_8 : F_8[53]? = some (.int 6) := by rw [eF_8]; exact List.getElem?_set_self (by rw [L_F_4]; decide)
  have L_F_8 : F_8.length = 163 := by rw [eF_8, List.length_set]; exact L_F_4
  have hP : va_P (dC, dI) cls [(q, .inr (15, F_8)), (tq, .inl (cT, 2000, .inl f_7))] H := hP
  have hD : va_D A [(q, .inr (15, F_8)), (tq, .inl (cT, 2000, .inl f_7))] := hD
  refine lv_iinc (v := 8) (lv' := [(2, .int 8), (0, .ref q), (1, .int p0)]) hx hb dX15_feed_33 hl (k := 0) rfl (by decide) (by decide) rfl (fun ls hl => ?_)
  refine lv_goto (tgt := 3) hx hb dX15_feed_36 (by decide) ?_
  refine lv_iload_n hx hb dX15_feed_3 rfl (lv_at hl 0 rfl) ?_
  refine lv_if_lt (tgt := 39) hx hb dX15_feed_4 (by decide) (fun c0 => absurd c0 (by decide)) (fun _ => ?_)
  refine lv_aload_n hx hb dX15_feed_7 rfl (lv_at hl 1 rfl) ?_
  refine va_get (D := (dC, dI)) (ci := 15) (v := .ref tq) (C := RX15) (T := TX15) (N := 163) hx hb ht uX15 hown hK hP 0 rfl rfl 52 (by decide) (ht _ k_11_0) (fun _ h9 => h9) K52_F_8 dX15_feed_8 ?_
  refine lv_aload_n hx hb dX15_feed_11 rfl (lv_at hl 1 rfl) ?_
  refine va_get (D := (dC, dI)) (ci := 15) (v := .int 6) (C := RX15) (T := TX15) (N := 163) hx hb ht uX15 hown hK hP 0 rfl rfl 53 (by decide) (ht _ k_11_1) (fun _ h9 => h9) K53_F_8 dX15_feed_12 ?_
  refine lv_iload_n hx hb dX15_feed_15 rfl (lv_at hl 2 rfl) ?_
  refine lv_iload_n hx hb dX15_feed_16 rfl (lv_at hl 0 rfl) ?_
  refine lv_ishr hx hb dX15_feed_17 ?_
  refine lv_topi (fun x_9 ex_9 => ?_)
  refine lv_sipush (v := 255) hx hb dX15_feed_18 (by decide) ?_
  refine lv_iand hx hb dX15_feed_21 ?_
  refine lv_topi (fun x_10 ex_10 => ?_)
  refine va_iast (i := 6) (x := x_10) hx hb hK hP hD hS 1 0 rfl rfl (by unfold vp_in; decide) dX15_feed_22 (fun H locs hP hD hS => ?_)
  obtain ⟨f_11, ef_11⟩ : ∃ g : Nat → Int32, g = upd f_7 (6 : Int32).toNatClampNeg x_10 := ⟨_, rfl⟩
  rw [← ef_11] at hP hD
  have hP : va_P (dC, dI) cls [(q, .inr (15, F_8)), (tq, .inl (cT, 2000, .inl f_11))] H := hP
  have hD : va_D A [(q, .inr (15, F_8)), (tq, .inl (cT, 2000, .inl f_11))] := hD
  refine lv_aload_n hx hb dX15_feed_23 rfl (lv_at hl 1 rfl) ?_
  refine lv_dup hx hb dX15_feed_24 rfl ?_
  refine va_get (D := (dC, dI)) (ci := 15) (v := .int 6) (C := RX15) (T := TX15) (N := 163) hx hb ht uX15 hown hK hP 0 rfl rfl 53 (by decide) (ht _ k_11_1) (fun _ h9 => h9) K53_F_8 dX15_feed_25 ?_
  refine lv_iconst (v := 1) hx hb dX15_feed_28 (by decide) ?_
  refine lv_iadd hx hb dX15_feed_29 ?_
  refine tk_i (y := 7) (by decide) ?_
  refine va_put (D := (dC, dI)) (ci := 15) (v := .int 7) (ty := .int) (C := RX15) (T := TX15) (N := 163) hx hb ht uX15 tyX15 tkX15 nmX15 hown hK hP hD hS 0 rfl rfl 53 (by decide) (ht _ k_11_1) (fun _ h9 => h9) rfl (by decide +kernel) rfl rfl (by rw [L_F_8]; decide) dX15_feed_30 (fun H locs hP hD hS => ?_)
  obtain ⟨F_12, eF_12⟩ : ∃ g : List Value, g = F_8.set 53 (.int 7) := ⟨_, rfl⟩
  rw [← eF_12] at hP hD
  have K51_F_12 : F_12[51]? = some (.int 0) := by rw [eF_12, List.getElem?_set_ne (by decide)]; exact K51_F_8
  have K52_F_12 : F_12[52]? = some (.ref tq) := by rw [eF_12, List.getElem?_set_ne (by decide)]; exact K52_F_8
  have K53_F_12 : F_12[53]? = some (.int 7) := by rw [eF_12]; exact List.getElem?_set_self (by rw [L_F_8]; decide)
  have L_F_12 : F_12.length = 163 := by rw [eF_12, List.length_set]; exact L_F_8
  have hP : va_P (dC, dI) cls [(q, .inr (15, F_12)), (tq, .inl (cT, 2000, .inl f_11))] H := hP
  have hD : va_D A [(q, .inr (15, F_12)), (tq, .inl (cT, 2000, .inl f_11))] := hD
  refine lv_iinc (v := 0) (lv' := [(2, .int 0), (0, .ref q), (1, .int p0)]) hx hb dX15_feed_33 hl (k := 0) rfl (by decide) (by decide) rfl (fun ls hl => ?_)
  refine lv_goto (tgt := 3) hx hb dX15_feed_36 (by decide) ?_
  refine lv_iload_n hx hb dX15_feed_3 rfl (lv_at hl 0 rfl) ?_
  refine lv_if_lt (tgt := 39) hx hb dX15_feed_4 (by decide) (fun c0 => absurd c0 (by decide)) (fun _ => ?_)
  refine lv_aload_n hx hb dX15_feed_7 rfl (lv_at hl 1 rfl) ?_
  refine va_get (D := (dC, dI)) (ci := 15) (v := .ref tq) (C := RX15) (T := TX15) (N := 163) hx hb ht uX15 hown hK hP 0 rfl rfl 52 (by decide) (ht _ k_11_0) (fun _ h9 => h9) K52_F_12 dX15_feed_8 ?_
  refine lv_aload_n hx hb dX15_feed_11 rfl (lv_at hl 1 rfl) ?_
  refine va_get (D := (dC, dI)) (ci := 15) (v := .int 7) (C := RX15) (T := TX15) (N := 163) hx hb ht uX15 hown hK hP 0 rfl rfl 53 (by decide) (ht _ k_11_1) (fun _ h9 => h9) K53_F_12 dX15_feed_12 ?_
  refine lv_iload_n hx hb dX15_feed_15 rfl (lv_at hl 2 rfl) ?_
  refine lv_iload_n hx hb dX15_feed_16 rfl (lv_at hl 0 rfl) ?_
  refine lv_ishr hx hb dX15_feed_17 ?_
  refine lv_topi (fun x_13 ex_13 => ?_)
  refine lv_sipush (v := 255) hx hb dX15_feed_18 (by decide) ?_
  refine lv_iand hx hb dX15_feed_21 ?_
  refine lv_topi (fun x_14 ex_14 => ?_)
  refine va_iast (i := 7) (x := x_14) hx hb hK hP hD hS 1 0 rfl rfl (by unfold vp_in; decide) dX15_feed_22 (fun H locs hP hD hS => ?_)
  obtain ⟨f_15, ef_15⟩ : ∃ g : Nat → Int32, g = upd f_11 (7 : Int32).toNatClampNeg x_14 := ⟨_, rfl⟩
  rw [← ef_15] at hP hD
  have hP : va_P (dC, dI) cls [(q, .inr (15, F_12)), (tq, .inl (cT, 2000, .inl f_15))] H := hP
  have hD : va_D A [(q, .inr (15, F_12)), (tq, .inl (cT, 2000, .inl f_15))] := hD
  refine lv_aload_n hx hb dX15_feed_23 rfl (lv_at hl 1 rfl) ?_
  refine lv_dup hx hb dX15_feed_24 rfl ?_
  refine va_get (D := (dC, dI)) (ci := 15) (v := .int 7) (C := RX15) (T := TX15) (N := 163) hx hb ht uX15 hown hK hP 0 rfl rfl 53 (by decide) (ht _ k_11_1) (fun _ h9 => h9) K53_F_12 dX15_feed_25 ?_
  refine lv_iconst (v := 1) hx hb dX15_feed_28 (by decide) ?_
  refine lv_iadd hx hb dX15_feed_29 ?_
  refine tk_i (y := 8) (by decide) ?_
  refine va_put (D := (dC, dI)) (ci := 15) (v := .int 8) (ty := .int) (C := RX15) (T := TX15) (N := 163) hx hb ht uX15 tyX15 tkX15 nmX15 hown hK hP hD hS 0 rfl rfl 53 (by decide) (ht _ k_11_1) (fun _ h9 => h9) rfl (by decide +kernel) rfl rfl (by rw [L_F_12]; decide) dX15_feed_30 (fun H locs hP hD hS => ?_)
  obtain ⟨F_16, eF_16⟩ : ∃ g : List Value, g = F_12.set 53 (.int 8) := ⟨_, rfl⟩
  rw [← eF_16] at hP hD
  have K51_F_16 : F_16[51]? = some (.int 0) := by rw [eF_16, List.getElem?_set_ne (by decide)]; exact K51_F_12
  have K52_F_16 : F_16[52]? = some (.ref tq) := by rw [eF_16, List.getElem?_set_ne (by decide)]; exact K52_F_12
  have K53_F_16 : F_16[53]? = some (.int 8) := by rw [eF_16]; exact List.getElem?_set_self (by rw [L_F_12]; decide)
  have L_F_16 : F_16.length = 163 := by rw [eF_16, List.length_set]; exact L_F_12
  have hP : va_P (dC, dI) cls [(q, .inr (15, F_16)), (tq, .inl (cT, 2000, .inl f_15))] H := hP
  have hD : va_D A [(q, .inr (15, F_16)), (tq, .inl (cT, 2000, .inl f_15))] := hD
  refine lv_iinc (v := (-8)) (lv' := [(2, .int (-8)), (0, .ref q), (1, .int p0)]) hx hb dX15_feed_33 hl (k := 0) rfl (by decide) (by decide) rfl (fun ls hl => ?_)
  refine lv_goto (tgt := 3) hx hb dX15_feed_36 (by decide) ?_
  refine lv_iload_n hx hb dX15_feed_3 rfl (lv_at hl 0 rfl) ?_
  refine lv_if_lt (tgt := 39) hx hb dX15_feed_4 (by decide) (fun _ => ?_) (fun c0 => absurd c0 (by decide))
  exact W.vret hx hb hr (fun t ht9 hW => ⟨⟨(F_16, f_15), rfl, ⟨trivial, L_F_16, K51_F_16, K52_F_16, K53_F_16⟩, by rw [ht9]; exact hP.sub [0, 1] rfl, va_K.moved hW.alike (hK.sub [0] rfl), hD.sub [0, 1] (by decide) rfl⟩, hS.F ht9⟩) hS.2.2 dX15_feed_39
set_option maxHeartbeats 4000000 in
set_option maxRecDepth 100000 in
theorem r_feed1_8 (l : Launch) (dC : Nat → ClassId) (dI : Nat → Nat → Nat) (sz : Nat) (q : Nat) (fs : List Value) (tq : Nat) (cT : ClassId) (ft : Nat → Int32) (p0 : Int32) (L_fs : fs.length = 163) (K51_fs : fs[51]? = some (.int 0)) (K52_fs : fs[52]? = some (.ref tq)) (K53_fs : fs[53]? = some (.int 8)) : Met l yX15_feed (Cond.code yX15_feed cX15_feed 3 none :: tb) ({ frames := 0, cells := 0, slots := 0, locals := 0 }) (pcw [.ref q, .int p0] (dC, dI) [(q, .inr (15, fs)), (tq, .inl (cT, 2000, .inl ft))] [(cT, .int)] sz) (va_Qv (fun (u : (List Value) × (Nat → Int32)) => match u with | (fs1, ft1) => (True) ∧ (fs1.length = 163) ∧ (fs1[51]? = some (.int 0)) ∧ (fs1[52]? = some (.ref tq)) ∧ (fs1[53]? = some (.int 12))) (bw (dC, dI) (va_A [(q, .inr (15, fs)), (tq, .inl (cT, 2000, .inl ft))] sz) (fun (u : (List Value) × (Nat → Int32)) => match u with | (fs1, ft1) => [(q, .inr (15, fs1)), (tq, .inl (cT, 2000, .inl ft1))]) (fun (u : (List Value) × (Nat → Int32)) => match u with | (fs1, ft1) => [(cT, .int)])) (va_A [(q, .inr (15, fs)), (tq, .inl (cT, 2000, .inl ft))] sz)) 0 0 (va_A [(q, .inr (15, fs)), (tq, .inl (cT, 2000, .inl ft))] sz) := by
  refine Met.ofW (cc := cX15_feed) (maxL := 3) (ret := none) (by decide) rfl ?_
  intro p e s m args below meth c s₁ B hml hv
  obtain ⟨rfl, hsz, hP, hK, hD0⟩ := hv
  have hx := B.exec
  have hb := B.bytes
  have hr := B.returns
  have hts := atoms_spec (ws := Cond.code yX15_feed cX15_feed 3 none :: tb) B.pre
  have ht : ∀ w ∈ tb, w.before _ s = true := fun w h => hts w (List.mem_cons_of_mem _ h)
  have hown : s.vm.findClass RX15 = some m.cls := findClass_of_methodNamed B.named
  have hlocks := B.notSynchronized
  subst hsz
  have hD := hD0.self (sz := s.heap.size)
  generalize hAe : va_A [(q, .inr (15, fs)), (tq, .inl (cT, 2000, .inl ft))] s.heap.size = A at hD ⊢
  have hA : ∀ q : Nat, s.heap.size ≤ q → A q := fun q h => by rw [← hAe]; exact Or.inr h
  have hS : va_S A s.heap s.heap [] := va_S.rf
  have hl := lv_entry ([.ref q, .int p0]) (n := 3) (Nat.le_of_ble_eq_true rfl)
  rw [lg_entry_eq]
  generalize (lg_sl ([.ref q, .int p0]) ++ List.replicate (3 - (lg_sl ([.ref q, .int p0])).length) Slot.unset).toArray = ls at hl ⊢
  have hl : lv_has ls 3 [(0, .ref q), (1, .int p0)] := hl
  have hP : va_P (dC, dI) cls [(q, .inr (15, fs)), (tq, .inl (cT, 2000, .inl ft))] s.heap := hP
  refine lv_bipush (v := 24) hx hb dX15_feed_0 (by decide) ?_
  refine lv_istore_n (lv' := [(2, .int 24), (0, .ref q), (1, .int p0)]) hx hb dX15_feed_2 rfl hl (by decide) rfl (fun ls hl => ?_)
  refine lv_iload_n hx hb dX15_feed_3 rfl (lv_at hl 0 rfl) ?_
  refine lv_if_lt (tgt := 39) hx hb dX15_feed_4 (by decide) (fun c0 => absurd c0 (by decide)) (fun _ => ?_)
  refine lv_aload_n hx hb dX15_feed_7 rfl (lv_at hl 1 rfl) ?_
  refine va_get (D := (dC, dI)) (ci := 15) (v := .ref tq) (C := RX15) (T := TX15) (N := 163) hx hb ht uX15 hown hK hP 0 rfl rfl 52 (by decide) (ht _ k_11_0) (fun _ h9 => h9) K52_fs dX15_feed_8 ?_
  refine lv_aload_n hx hb dX15_feed_11 rfl (lv_at hl 1 rfl) ?_
  refine va_get (D := (dC, dI)) (ci := 15) (v := .int 8) (C := RX15) (T := TX15) (N := 163) hx hb ht uX15 hown hK hP 0 rfl rfl 53 (by decide) (ht _ k_11_1) (fun _ h9 => h9) K53_fs dX15_feed_12 ?_
  refine lv_iload_n hx hb dX15_feed_15 rfl (lv_at hl 2 rfl) ?_
  refine lv_iload_n hx hb dX15_feed_16 rfl (lv_at hl 0 rfl) ?_
  refine lv_ishr hx hb dX15_feed_17 ?_
  refine lv_topi (fun x_1 ex_1 => ?_)
  refine lv_sipush (v := 255) hx hb dX15_feed_18 (by decide) ?_
  refine lv_iand hx hb dX15_feed_21 ?_
  refine lv_topi (fun x_2 ex_2 => ?_)
  refine va_iast (i := 8) (x := x_2) hx hb hK hP hD hS 1 0 rfl rfl (by unfold vp_in; decide) dX15_feed_22 (fun H locs hP hD hS => ?_)
  obtain ⟨f_3, ef_3⟩ : ∃ g : Nat → Int32, g = upd ft (8 : Int32).toNatClampNeg x_2 := ⟨_, rfl⟩
  rw [← ef_3] at hP hD
  have hP : va_P (dC, dI) cls [(q, .inr (15, fs)), (tq, .inl (cT, 2000, .inl f_3))] H := hP
  have hD : va_D A [(q, .inr (15, fs)), (tq, .inl (cT, 2000, .inl f_3))] := hD
  refine lv_aload_n hx hb dX15_feed_23 rfl (lv_at hl 1 rfl) ?_
  refine lv_dup hx hb dX15_feed_24 rfl ?_
  refine va_get (D := (dC, dI)) (ci := 15) (v := .int 8) (C := RX15) (T := TX15) (N := 163) hx hb ht uX15 hown hK hP 0 rfl rfl 53 (by decide) (ht _ k_11_1) (fun _ h9 => h9) K53_fs dX15_feed_25 ?_
  refine lv_iconst (v := 1) hx hb dX15_feed_28 (by decide) ?_
  refine lv_iadd hx hb dX15_feed_29 ?_
  refine tk_i (y := 9) (by decide) ?_
  refine va_put (D := (dC, dI)) (ci := 15) (v := .int 9) (ty := .int) (C := RX15) (T := TX15) (N := 163) hx hb ht uX15 tyX15 tkX15 nmX15 hown hK hP hD hS 0 rfl rfl 53 (by decide) (ht _ k_11_1) (fun _ h9 => h9) rfl (by decide +kernel) rfl rfl (by rw [L_fs]; decide) dX15_feed_30 (fun H locs hP hD hS => ?_)
  obtain ⟨F_4, eF_4⟩ : ∃ g : List Value, g = fs.set 53 (.int 9) := ⟨_, rfl⟩
  rw [← eF_4] at hP hD
  have K51_F_4 : F_4[51]? = some (.int 0) := by rw [eF_4, List.getElem?_set_ne (by decide)]; exact K51_fs
  have K52_F_4 : F_4[52]? = some (.ref tq) := by rw [eF_4, List.getElem?_set_ne (by decide)]; exact K52_fs
  have K53_F_4 : F_4[53]? = some (.int 9) := by rw [eF_4]; exact List.getElem?_set_self (by rw [L_fs]; decide)
  have L_F_4 : F_4.length = 163 := by rw [eF_4, List.length_set]; exact L_fs
  have hP : va_P (dC, dI) cls [(q, .inr (15, F_4)), (tq, .inl (cT, 2000, .inl f_3))] H := hP
  have hD : va_D A [(q, .inr (15, F_4)), (tq, .inl (cT, 2000, .inl f_3))] := hD
  refine lv_iinc (v := 16) (lv' := [(2, .int 16), (0, .ref q), (1, .int p0)]) hx hb dX15_feed_33 hl (k := 0) rfl (by decide) (by decide) rfl (fun ls hl => ?_)
  refine lv_goto (tgt := 3) hx hb dX15_feed_36 (by decide) ?_
  refine lv_iload_n hx hb dX15_feed_3 rfl (lv_at hl 0 rfl) ?_
  refine lv_if_lt (tgt := 39) hx hb dX15_feed_4 (by decide) (fun c0 => absurd c0 (by decide)) (fun _ => ?_)
  refine lv_aload_n hx hb dX15_feed_7 rfl (lv_at hl 1 rfl) ?_
  refine va_get (D := (dC, dI)) (ci := 15) (v := .ref tq) (C := RX15) (T := TX15) (N := 163) hx hb ht uX15 hown hK hP 0 rfl rfl 52 (by decide) (ht _ k_11_0) (fun _ h9 => h9) K52_F_4 dX15_feed_8 ?_
  refine lv_aload_n hx hb dX15_feed_11 rfl (lv_at hl 1 rfl) ?_
  refine va_get (D := (dC, dI)) (ci := 15) (v := .int 9) (C := RX15) (T := TX15) (N := 163) hx hb ht uX15 hown hK hP 0 rfl rfl 53 (by decide) (ht _ k_11_1) (fun _ h9 => h9) K53_F_4 dX15_feed_12 ?_
  refine lv_iload_n hx hb dX15_feed_15 rfl (lv_at hl 2 rfl) ?_
  refine lv_iload_n hx hb dX15_feed_16 rfl (lv_at hl 0 rfl) ?_
  refine lv_ishr hx hb dX15_feed_17 ?_
  refine lv_topi (fun x_5 ex_5 => ?_)
  refine lv_sipush (v := 255) hx hb dX15_feed_18 (by decide) ?_
  refine lv_iand hx hb dX15_feed_21 ?_
  refine lv_topi (fun x_6 ex_6 => ?_)
  refine va_iast (i := 9) (x := x_6) hx hb hK hP hD hS 1 0 rfl rfl (by unfold vp_in; decide) dX15_feed_22 (fun H locs hP hD hS => ?_)
  obtain ⟨f_7, ef_7⟩ : ∃ g : Nat → Int32, g = upd f_3 (9 : Int32).toNatClampNeg x_6 := ⟨_, rfl⟩
  rw [← ef_7] at hP hD
  have hP : va_P (dC, dI) cls [(q, .inr (15, F_4)), (tq, .inl (cT, 2000, .inl f_7))] H := hP
  have hD : va_D A [(q, .inr (15, F_4)), (tq, .inl (cT, 2000, .inl f_7))] := hD
  refine lv_aload_n hx hb dX15_feed_23 rfl (lv_at hl 1 rfl) ?_
  refine lv_dup hx hb dX15_feed_24 rfl ?_
  refine va_get (D := (dC, dI)) (ci := 15) (v := .int 9) (C := RX15) (T := TX15) (N := 163) hx hb ht uX15 hown hK hP 0 rfl rfl 53 (by decide) (ht _ k_11_1) (fun _ h9 => h9) K53_F_4 dX15_feed_25 ?_
  refine lv_iconst (v := 1) hx hb dX15_feed_28 (by decide) ?_
  refine lv_iadd hx hb dX15_feed_29 ?_
  refine tk_i (y := 10) (by decide) ?_
  refine va_put (D := (dC, dI)) (ci := 15) (v := .int 10) (ty := .int) (C := RX15) (T := TX15) (N := 163) hx hb ht uX15 tyX15 tkX15 nmX15 hown hK hP hD hS 0 rfl rfl 53 (by decide) (ht _ k_11_1) (fun _ h9 => h9) rfl (by decide +kernel) rfl rfl (by rw [L_F_4]; decide) dX15_feed_30 (fun H locs hP hD hS => ?_)
  obtain ⟨F_8, eF_8⟩ : ∃ g : List Value, g = F_4.set 53 (.int 10) := ⟨_, rfl⟩
  rw [← eF_8] at hP hD
  have K51_F_8 : F_8[51]? = some (.int 0) := by rw [eF_8, List.getElem?_set_ne (by decide)]; exact K51_F_4
  have K52_F_8 : F_8[52]? = some (.ref tq) := by rw [eF_8, List.getElem?_set_ne (by decide)]; exact K52_F_4
  have K53_F_8 : F_8[53]? = some (.int 10) := by rw [eF_8]; exact List.getElem?_set_self (by rw [L_F_4]; decide)
  have L_F_8 : F_8.length = 163 := by rw [eF_8, List.length_set]; exact L_F_4
  have hP : va_P (dC, dI) cls [(q, .inr (15, F_8)), (tq, .inl (cT, 2000, .inl f_7))] H := hP
  have hD : va_D A [(q, .inr (15, F_8)), (tq, .inl (cT, 2000, .inl f_7))] := hD
  refine lv_iinc (v := 8) (lv' := [(2, .int 8), (0, .ref q), (1, .int p0)]) hx hb dX15_feed_33 hl (k := 0) rfl (by decide) (by decide) rfl (fun ls hl => ?_)
  refine lv_goto (tgt := 3) hx hb dX15_feed_36 (by decide) ?_
  refine lv_iload_n hx hb dX15_feed_3 rfl (lv_at hl 0 rfl) ?_
  refine lv_if_lt (tgt := 39) hx hb dX15_feed_4 (by decide) (fun c0 => absurd c0 (by decide)) (fun _ => ?_)
  refine lv_aload_n hx hb dX15_feed_7 rfl (lv_at hl 1 rfl) ?_
  refine va_get (D := (dC, dI)) (ci := 15) (v := .ref tq) (C := RX15) (T := TX15) (N := 163) hx hb ht uX15 hown hK hP 0 rfl rfl 52 (by decide) (ht _ k_11_0) (fun _ h9 => h9) K52_F_8 dX15_feed_8 ?_
  refine lv_aload_n hx hb dX15_feed_11 rfl (lv_at hl 1 rfl) ?_
  refine va_get (D := (dC, dI)) (ci := 15) (v := .int 10) (C := RX15) (T := TX15) (N := 163) hx hb ht uX15 hown hK hP 0 rfl rfl 53 (by decide) (ht _ k_11_1) (fun _ h9 => h9) K53_F_8 dX15_feed_12 ?_
  refine lv_iload_n hx hb dX15_feed_15 rfl (lv_at hl 2 rfl) ?_
  refine lv_iload_n hx hb dX15_feed_16 rfl (lv_at hl 0 rfl) ?_
  refine lv_ishr hx hb dX15_feed_17 ?_
  refine lv_topi (fun x_9 ex_9 => ?_)
  refine lv_sipush (v := 255) hx hb dX15_feed_18 (by decide) ?_
  refine lv_iand hx hb dX15_feed_21 ?_
  refine lv_topi (fun x_10 ex_10 => ?_)
  refine va_iast (i := 10) (x := x_10) hx hb hK hP hD hS 1 0 rfl rfl (by unfold vp_in; decide) dX15_feed_22 (fun H locs hP hD hS => ?_)
  obtain ⟨f_11, ef_11⟩ : ∃ g : Nat → Int32, g = upd f_7 (10 : Int32).toNatClampNeg x_10 := ⟨_, rfl⟩
  rw [← ef_11] at hP hD
  have hP : va_P (dC, dI) cls [(q, .inr (15, F_8)), (tq, .inl (cT, 2000, .inl f_11))] H := hP
  have hD : va_D A [(q, .inr (15, F_8)), (tq, .inl (cT, 2000, .inl f_11))] := hD
  refine lv_aload_n hx hb dX15_feed_23 rfl (lv_at hl 1 rfl) ?_
  refine lv_dup hx hb dX15_feed_24 rfl ?_
  refine va_get (D := (dC, dI)) (ci := 15) (v := .int 10) (C := RX15) (T := TX15) (N := 163) hx hb ht uX15 hown hK hP 0 rfl rfl 53 (by decide) (ht _ k_11_1) (fun _ h9 => h9) K53_F_8 dX15_feed_25 ?_
  refine lv_iconst (v := 1) hx hb dX15_feed_28 (by decide) ?_
  refine lv_iadd hx hb dX15_feed_29 ?_
  refine tk_i (y := 11) (by decide) ?_
  refine va_put (D := (dC, dI)) (ci := 15) (v := .int 11) (ty := .int) (C := RX15) (T := TX15) (N := 163) hx hb ht uX15 tyX15 tkX15 nmX15 hown hK hP hD hS 0 rfl rfl 53 (by decide) (ht _ k_11_1) (fun _ h9 => h9) rfl (by decide +kernel) rfl rfl (by rw [L_F_8]; decide) dX15_feed_30 (fun H locs hP hD hS => ?_)
  obtain ⟨F_12, eF_12⟩ : ∃ g : List Value, g = F_8.set 53 (.int 11) := ⟨_, rfl⟩
  rw [← eF_12] at hP hD
  have K51_F_12 : F_12[51]? = some (.int 0) := by rw [eF_12, List.getElem?_set_ne (by decide)]; exact K51_F_8
  have K52_F_12 : F_12[52]? = some (.ref tq) := by rw [eF_12, List.getElem?_set_ne (by decide)]; exact K52_F_8
  have K53_F_12 : F_12[53]? = some (.int 11) := by rw [eF_12]; exact List.getElem?_set_self (by rw [L_F_8]; decide)
  have L_F_12 : F_12.length = 163 := by rw [eF_12, List.length_set]; exact L_F_8
  have hP : va_P (dC, dI) cls [(q, .inr (15, F_12)), (tq, .inl (cT, 2000, .inl f_11))] H := hP
  have hD : va_D A [(q, .inr (15, F_12)), (tq, .inl (cT, 2000, .inl f_11))] := hD
  refine lv_iinc (v := 0) (lv' := [(2, .int 0), (0, .ref q), (1, .int p0)]) hx hb dX15_feed_33 hl (k := 0) rfl (by decide) (by decide) rfl (fun ls hl => ?_)
  refine lv_goto (tgt := 3) hx hb dX15_feed_36 (by decide) ?_
  refine lv_iload_n hx hb dX15_feed_3 rfl (lv_at hl 0 rfl) ?_
  refine lv_if_lt (tgt := 39) hx hb dX15_feed_4 (by decide) (fun c0 => absurd c0 (by decide)) (fun _ => ?_)
  refine lv_aload_n hx hb dX15_feed_7 rfl (lv_at hl 1 rfl) ?_
  refine va_get (D := (dC, dI)) (ci := 15) (v := .ref tq) (C := RX15) (T := TX15) (N := 163) hx hb ht uX15 hown hK hP 0 rfl rfl 52 (by decide) (ht _ k_11_0) (fun _ h9 => h9) K52_F_12 dX15_feed_8 ?_
  refine lv_aload_n hx hb dX15_feed_11 rfl (lv_at hl 1 rfl) ?_
  refine va_get (D := (dC, dI)) (ci := 15) (v := .int 11) (C := RX15) (T := TX15) (N := 163) hx hb ht uX15 hown hK hP 0 rfl rfl 53 (by decide) (ht _ k_11_1) (fun _ h9 => h9) K53_F_12 dX15_feed_12 ?_
  refine lv_iload_n hx hb dX15_feed_15 rfl (lv_at hl 2 rfl) ?_
  refine lv_iload_n hx hb dX15_feed_16 rfl (lv_at hl 0 rfl) ?_
  refine lv_ishr hx hb dX15_feed_17 ?_
  refine lv_topi (fun x_13 ex_13 => ?_)
  refine lv_sipush (v := 255) hx hb dX15_feed_18 (by decide) ?_
  refine lv_iand hx hb dX15_feed_21 ?_
  refine lv_topi (fun x_14 ex_14 => ?_)
  refine va_iast (i := 11) (x := x_14) hx hb hK hP hD hS 1 0 rfl rfl (by unfold vp_in; decide) dX15_feed_22 (fun H locs hP hD hS => ?_)
  obtain ⟨f_15, ef_15⟩ : ∃ g : Nat → Int32, g = upd f_11 (11 : Int32).toNatClampNeg x_14 := ⟨_, rfl⟩
  rw [← ef_15] at hP hD
  have hP : va_P (dC, dI) cls [(q, .inr (15, F_12)), (tq, .inl (cT, 2000, .inl f_15))] H := hP
  have hD : va_D A [(q, .inr (15, F_12)), (tq, .inl (cT, 2000, .inl f_15))] := hD
  refine lv_aload_n hx hb dX15_feed_23 rfl (lv_at hl 1 rfl) ?_
  refine lv_dup hx hb dX15_feed_24 rfl ?_
  refine va_get (D := (dC, dI)) (ci := 15) (v := .int 11) (C := RX15) (T := TX15) (N := 163) hx hb ht uX15 hown hK hP 0 rfl rfl 53 (by decide) (ht _ k_11_1) (fun _ h9 => h9) K53_F_12 dX15_feed_25 ?_
  refine lv_iconst (v := 1) hx hb dX15_feed_28 (by decide) ?_
  refine lv_iadd hx hb dX15_feed_29 ?_
  refine tk_i (y := 12) (by decide) ?_
  refine va_put (D := (dC, dI)) (ci := 15) (v := .int 12) (ty := .int) (C := RX15) (T := TX15) (N := 163) hx hb ht uX15 tyX15 tkX15 nmX15 hown hK hP hD hS 0 rfl rfl 53 (by decide) (ht _ k_11_1) (fun _ h9 => h9) rfl (by decide +kernel) rfl rfl (by rw [L_F_12]; decide) dX15_feed_30 (fun H locs hP hD hS => ?_)
  obtain ⟨F_16, eF_16⟩ : ∃ g : List Value, g = F_12.set 53 (.int 12) := ⟨_, rfl⟩
  rw [← eF_16] at hP hD
  have K51_F_16 : F_16[51]? = some (.int 0) := by rw [eF_16, List.getElem?_set_ne (by decide)]; exact K51_F_12
  have K52_F_16 : F_16[52]? = some (.ref tq) := by rw [eF_16, List.getElem?_set_ne (by decide)]; exact K52_F_12
  have K53_F_16 : F_16[53]? = some (.int 12) := by rw [eF_16]; exact List.getElem?_set_self (by rw [L_F_12]; decide)
  have L_F_16 : F_16.length = 163 := by rw [eF_16, List.length_set]; exact L_F_12
  have hP : va_P (dC, dI) cls [(q, .inr (15, F_16)), (tq, .inl (cT, 2000, .inl f_15))] H := hP
  have hD : va_D A [(q, .inr (15, F_16)), (tq, .inl (cT, 2000, .inl f_15))] := hD
  refine lv_iinc (v := (-8)) (lv' := [(2, .int (-8)), (0, .ref q), (1, .int p0)]) hx hb dX15_feed_33 hl (k := 0) rfl (by decide) (by decide) rfl (fun ls hl => ?_)
  refine lv_goto (tgt := 3) hx hb dX15_feed_36 (by decide) ?_
  refine lv_iload_n hx hb dX15_feed_3 rfl (lv_at hl 0 rfl) ?_
  refine lv_if_lt (tgt := 39) hx hb dX15_feed_4 (by decide) (fun _ => ?_) (fun c0 => absurd c0 (by decide))
  exact W.vret hx hb hr (fun t ht9 hW => ⟨⟨(F_16, f_15), rfl, ⟨trivial, L_F_16, K51_F_16, K52_F_16, K53_F_16⟩, by rw [ht9]; exact hP.sub [0, 1] rfl, va_K.moved hW.alike (hK.sub [0] rfl), hD.sub [0, 1] (by decide) rfl⟩, hS.F ht9⟩) hS.2.2 dX15_feed_39
set_option maxHeartbeats 4000000 in
set_option maxRecDepth 100000 in
theorem r_feed1_12 (l : Launch) (dC : Nat → ClassId) (dI : Nat → Nat → Nat) (sz : Nat) (q : Nat) (fs : List Value) (tq : Nat) (cT : ClassId) (ft : Nat → Int32) (p0 : Int32) (L_fs : fs.length = 163) (K51_fs : fs[51]? = some (.int 0)) (K52_fs : fs[52]? = some (.ref tq)) (K53_fs : fs[53]? = some (.int 12)) : Met l yX15_feed (Cond.code yX15_feed cX15_feed 3 none :: tb) ({ frames := 0, cells := 0, slots := 0, locals := 0 }) (pcw [.ref q, .int p0] (dC, dI) [(q, .inr (15, fs)), (tq, .inl (cT, 2000, .inl ft))] [(cT, .int)] sz) (va_Qv (fun (u : (List Value) × (Nat → Int32)) => match u with | (fs1, ft1) => (True) ∧ (fs1.length = 163) ∧ (fs1[51]? = some (.int 0)) ∧ (fs1[52]? = some (.ref tq)) ∧ (fs1[53]? = some (.int 16))) (bw (dC, dI) (va_A [(q, .inr (15, fs)), (tq, .inl (cT, 2000, .inl ft))] sz) (fun (u : (List Value) × (Nat → Int32)) => match u with | (fs1, ft1) => [(q, .inr (15, fs1)), (tq, .inl (cT, 2000, .inl ft1))]) (fun (u : (List Value) × (Nat → Int32)) => match u with | (fs1, ft1) => [(cT, .int)])) (va_A [(q, .inr (15, fs)), (tq, .inl (cT, 2000, .inl ft))] sz)) 0 0 (va_A [(q, .inr (15, fs)), (tq, .inl (cT, 2000, .inl ft))] sz) := by
  refine Met.ofW (cc := cX15_feed) (maxL := 3) (ret := none) (by decide) rfl ?_
  intro p e s m args below meth c s₁ B hml hv
  obtain ⟨rfl, hsz, hP, hK, hD0⟩ := hv
  have hx := B.exec
  have hb := B.bytes
  have hr := B.returns
  have hts := atoms_spec (ws := Cond.code yX15_feed cX15_feed 3 none :: tb) B.pre
  have ht : ∀ w ∈ tb, w.before _ s = true := fun w h => hts w (List.mem_cons_of_mem _ h)
  have hown : s.vm.findClass RX15 = some m.cls := findClass_of_methodNamed B.named
  have hlocks := B.notSynchronized
  subst hsz
  have hD := hD0.self (sz := s.heap.size)
  generalize hAe : va_A [(q, .inr (15, fs)), (tq, .inl (cT, 2000, .inl ft))] s.heap.size = A at hD ⊢
  have hA : ∀ q : Nat, s.heap.size ≤ q → A q := fun q h => by rw [← hAe]; exact Or.inr h
  have hS : va_S A s.heap s.heap [] := va_S.rf
  have hl := lv_entry ([.ref q, .int p0]) (n := 3) (Nat.le_of_ble_eq_true rfl)
  rw [lg_entry_eq]
  generalize (lg_sl ([.ref q, .int p0]) ++ List.replicate (3 - (lg_sl ([.ref q, .int p0])).length) Slot.unset).toArray = ls at hl ⊢
  have hl : lv_has ls 3 [(0, .ref q), (1, .int p0)] := hl
  have hP : va_P (dC, dI) cls [(q, .inr (15, fs)), (tq, .inl (cT, 2000, .inl ft))] s.heap := hP
  refine lv_bipush (v := 24) hx hb dX15_feed_0 (by decide) ?_
  refine lv_istore_n (lv' := [(2, .int 24), (0, .ref q), (1, .int p0)]) hx hb dX15_feed_2 rfl hl (by decide) rfl (fun ls hl => ?_)
  refine lv_iload_n hx hb dX15_feed_3 rfl (lv_at hl 0 rfl) ?_
  refine lv_if_lt (tgt := 39) hx hb dX15_feed_4 (by decide) (fun c0 => absurd c0 (by decide)) (fun _ => ?_)
  refine lv_aload_n hx hb dX15_feed_7 rfl (lv_at hl 1 rfl) ?_
  refine va_get (D := (dC, dI)) (ci := 15) (v := .ref tq) (C := RX15) (T := TX15) (N := 163) hx hb ht uX15 hown hK hP 0 rfl rfl 52 (by decide) (ht _ k_11_0) (fun _ h9 => h9) K52_fs dX15_feed_8 ?_
  refine lv_aload_n hx hb dX15_feed_11 rfl (lv_at hl 1 rfl) ?_
  refine va_get (D := (dC, dI)) (ci := 15) (v := .int 12) (C := RX15) (T := TX15) (N := 163) hx hb ht uX15 hown hK hP 0 rfl rfl 53 (by decide) (ht _ k_11_1) (fun _ h9 => h9) K53_fs dX15_feed_12 ?_
  refine lv_iload_n hx hb dX15_feed_15 rfl (lv_at hl 2 rfl) ?_
  refine lv_iload_n hx hb dX15_feed_16 rfl (lv_at hl 0 rfl) ?_
  refine lv_ishr hx hb dX15_feed_17 ?_
  refine lv_topi (fun x_1 ex_1 => ?_)
  refine lv_sipush (v := 255) hx hb dX15_feed_18 (by decide) ?_
  refine lv_iand hx hb dX15_feed_21 ?_
  refine lv_topi (fun x_2 ex_2 => ?_)
  refine va_iast (i := 12) (x := x_2) hx hb hK hP hD hS 1 0 rfl rfl (by unfold vp_in; decide) dX15_feed_22 (fun H locs hP hD hS => ?_)
  obtain ⟨f_3, ef_3⟩ : ∃ g : Nat → Int32, g = upd ft (12 : Int32).toNatClampNeg x_2 := ⟨_, rfl⟩
  rw [← ef_3] at hP hD
  have hP : va_P (dC, dI) cls [(q, .inr (15, fs)), (tq, .inl (cT, 2000, .inl f_3))] H := hP
  have hD : va_D A [(q, .inr (15, fs)), (tq, .inl (cT, 2000, .inl f_3))] := hD
  refine lv_aload_n hx hb dX15_feed_23 rfl (lv_at hl 1 rfl) ?_
  refine lv_dup hx hb dX15_feed_24 rfl ?_
  refine va_get (D := (dC, dI)) (ci := 15) (v := .int 12) (C := RX15) (T := TX15) (N := 163) hx hb ht uX15 hown hK hP 0 rfl rfl 53 (by decide) (ht _ k_11_1) (fun _ h9 => h9) K53_fs dX15_feed_25 ?_
  refine lv_iconst (v := 1) hx hb dX15_feed_28 (by decide) ?_
  refine lv_iadd hx hb dX15_feed_29 ?_
  refine tk_i (y := 13) (by decide) ?_
  refine va_put (D := (dC, dI)) (ci := 15) (v := .int 13) (ty := .int) (C := RX15) (T := TX15) (N := 163) hx hb ht uX15 tyX15 tkX15 nmX15 hown hK hP hD hS 0 rfl rfl 53 (by decide) (ht _ k_11_1) (fun _ h9 => h9) rfl (by decide +kernel) rfl rfl (by rw [L_fs]; decide) dX15_feed_30 (fun H locs hP hD hS => ?_)
  obtain ⟨F_4, eF_4⟩ : ∃ g : List Value, g = fs.set 53 (.int 13) := ⟨_, rfl⟩
  rw [← eF_4] at hP hD
  have K51_F_4 : F_4[51]? = some (.int 0) := by rw [eF_4, List.getElem?_set_ne (by decide)]; exact K51_fs
  have K52_F_4 : F_4[52]? = some (.ref tq) := by rw [eF_4, List.getElem?_set_ne (by decide)]; exact K52_fs
  have K53_F_4 : F_4[53]? = some (.int 13) := by rw [eF_4]; exact List.getElem?_set_self (by rw [L_fs]; decide)
  have L_F_4 : F_4.length = 163 := by rw [eF_4, List.length_set]; exact L_fs
  have hP : va_P (dC, dI) cls [(q, .inr (15, F_4)), (tq, .inl (cT, 2000, .inl f_3))] H := hP
  have hD : va_D A [(q, .inr (15, F_4)), (tq, .inl (cT, 2000, .inl f_3))] := hD
  refine lv_iinc (v := 16) (lv' := [(2, .int 16), (0, .ref q), (1, .int p0)]) hx hb dX15_feed_33 hl (k := 0) rfl (by decide) (by decide) rfl (fun ls hl => ?_)
  refine lv_goto (tgt := 3) hx hb dX15_feed_36 (by decide) ?_
  refine lv_iload_n hx hb dX15_feed_3 rfl (lv_at hl 0 rfl) ?_
  refine lv_if_lt (tgt := 39) hx hb dX15_feed_4 (by decide) (fun c0 => absurd c0 (by decide)) (fun _ => ?_)
  refine lv_aload_n hx hb dX15_feed_7 rfl (lv_at hl 1 rfl) ?_
  refine va_get (D := (dC, dI)) (ci := 15) (v := .ref tq) (C := RX15) (T := TX15) (N := 163) hx hb ht uX15 hown hK hP 0 rfl rfl 52 (by decide) (ht _ k_11_0) (fun _ h9 => h9) K52_F_4 dX15_feed_8 ?_
  refine lv_aload_n hx hb dX15_feed_11 rfl (lv_at hl 1 rfl) ?_
  refine va_get (D := (dC, dI)) (ci := 15) (v := .int 13) (C := RX15) (T := TX15) (N := 163) hx hb ht uX15 hown hK hP 0 rfl rfl 53 (by decide) (ht _ k_11_1) (fun _ h9 => h9) K53_F_4 dX15_feed_12 ?_
  refine lv_iload_n hx hb dX15_feed_15 rfl (lv_at hl 2 rfl) ?_
  refine lv_iload_n hx hb dX15_feed_16 rfl (lv_at hl 0 rfl) ?_
  refine lv_ishr hx hb dX15_feed_17 ?_
  refine lv_topi (fun x_5 ex_5 => ?_)
  refine lv_sipush (v := 255) hx hb dX15_feed_18 (by decide) ?_
  refine lv_iand hx hb dX15_feed_21 ?_
  refine lv_topi (fun x_6 ex_6 => ?_)
  refine va_iast (i := 13) (x := x_6) hx hb hK hP hD hS 1 0 rfl rfl (by unfold vp_in; decide) dX15_feed_22 (fun H locs hP hD hS => ?_)
  obtain ⟨f_7, ef_7⟩ : ∃ g : Nat → Int32, g = upd f_3 (13 : Int32).toNatClampNeg x_6 := ⟨_, rfl⟩
  rw [← ef_7] at hP hD
  have hP : va_P (dC, dI) cls [(q, .inr (15, F_4)), (tq, .inl (cT, 2000, .inl f_7))] H := hP
  have hD : va_D A [(q, .inr (15, F_4)), (tq, .inl (cT, 2000, .inl f_7))] := hD
  refine lv_aload_n hx hb dX15_feed_23 rfl (lv_at hl 1 rfl) ?_
  refine lv_dup hx hb dX15_feed_24 rfl ?_
  refine va_get (D := (dC, dI)) (ci := 15) (v := .int 13) (C := RX15) (T := TX15) (N := 163) hx hb ht uX15 hown hK hP 0 rfl rfl 53 (by decide) (ht _ k_11_1) (fun _ h9 => h9) K53_F_4 dX15_feed_25 ?_
  refine lv_iconst (v := 1) hx hb dX15_feed_28 (by decide) ?_
  refine lv_iadd hx hb dX15_feed_29 ?_
  refine tk_i (y := 14) (by decide) ?_
  refine va_put (D := (dC, dI)) (ci := 15) (v := .int 14) (ty := .int) (C := RX15) (T := TX15) (N := 163) hx hb ht uX15 tyX15 tkX15 nmX15 hown hK hP hD hS 0 rfl rfl 53 (by decide) (ht _ k_11_1) (fun _ h9 => h9) rfl (by decide +kernel) rfl rfl (by rw [L_F_4]; decide) dX15_feed_30 (fun H locs hP hD hS => ?_)
  obtain ⟨F_8, eF_8⟩ : ∃ g : List Value, g = F_4.set 53 (.int 14) := ⟨_, rfl⟩
  rw [← eF_8] at hP hD
  have K51_F_8 : F_8[51]? = some (.int 0) := by rw [eF_8, List.getElem?_set_ne (by decide)]; exact K51_F_4
  have K52_F_8 : F_8[52]? = some (.ref tq) := by rw [eF_8, List.getElem?_set_ne (by decide)]; exact K52_F_4
  have K53_F_8 : F_8[53]? = some (.int 14) := by rw [eF_8]; exact List.getElem?_set_self (by rw [L_F_4]; decide)
  have L_F_8 : F_8.length = 163 := by rw [eF_8, List.length_set]; exact L_F_4
  have hP : va_P (dC, dI) cls [(q, .inr (15, F_8)), (tq, .inl (cT, 2000, .inl f_7))] H := hP
  have hD : va_D A [(q, .inr (15, F_8)), (tq, .inl (cT, 2000, .inl f_7))] := hD
  refine lv_iinc (v := 8) (lv' := [(2, .int 8), (0, .ref q), (1, .int p0)]) hx hb dX15_feed_33 hl (k := 0) rfl (by decide) (by decide) rfl (fun ls hl => ?_)
  refine lv_goto (tgt := 3) hx hb dX15_feed_36 (by decide) ?_
  refine lv_iload_n hx hb dX15_feed_3 rfl (lv_at hl 0 rfl) ?_
  refine lv_if_lt (tgt := 39) hx hb dX15_feed_4 (by decide) (fun c0 => absurd c0 (by decide)) (fun _ => ?_)
  refine lv_aload_n hx hb dX15_feed_7 rfl (lv_at hl 1 rfl) ?_
  refine va_get (D := (dC, dI)) (ci := 15) (v := .ref tq) (C := RX15) (T := TX15) (N := 163) hx hb ht uX15 hown hK hP 0 rfl rfl 52 (by decide) (ht _ k_11_0) (fun _ h9 => h9) K52_F_8 dX15_feed_8 ?_
  refine lv_aload_n hx hb dX15_feed_11 rfl (lv_at hl 1 rfl) ?_
  refine va_get (D := (dC, dI)) (ci := 15) (v := .int 14) (C := RX15) (T := TX15) (N := 163) hx hb ht uX15 hown hK hP 0 rfl rfl 53 (by decide) (ht _ k_11_1) (fun _ h9 => h9) K53_F_8 dX15_feed_12 ?_
  refine lv_iload_n hx hb dX15_feed_15 rfl (lv_at hl 2 rfl) ?_
  refine lv_iload_n hx hb dX15_feed_16 rfl (lv_at hl 0 rfl) ?_
  refine lv_ishr hx hb dX15_feed_17 ?_
  refine lv_topi (fun x_9 ex_9 => ?_)
  refine lv_sipush (v := 255) hx hb dX15_feed_18 (by decide) ?_
  refine lv_iand hx hb dX15_feed_21 ?_
  refine lv_topi (fun x_10 ex_10 => ?_)
  refine va_iast (i := 14) (x := x_10) hx hb hK hP hD hS 1 0 rfl rfl (by unfold vp_in; decide) dX15_feed_22 (fun H locs hP hD hS => ?_)
  obtain ⟨f_11, ef_11⟩ : ∃ g : Nat → Int32, g = upd f_7 (14 : Int32).toNatClampNeg x_10 := ⟨_, rfl⟩
  rw [← ef_11] at hP hD
  have hP : va_P (dC, dI) cls [(q, .inr (15, F_8)), (tq, .inl (cT, 2000, .inl f_11))] H := hP
  have hD : va_D A [(q, .inr (15, F_8)), (tq, .inl (cT, 2000, .inl f_11))] := hD
  refine lv_aload_n hx hb dX15_feed_23 rfl (lv_at hl 1 rfl) ?_
  refine lv_dup hx hb dX15_feed_24 rfl ?_
  refine va_get (D := (dC, dI)) (ci := 15) (v := .int 14) (C := RX15) (T := TX15) (N := 163) hx hb ht uX15 hown hK hP 0 rfl rfl 53 (by decide) (ht _ k_11_1) (fun _ h9 => h9) K53_F_8 dX15_feed_25 ?_
  refine lv_iconst (v := 1) hx hb dX15_feed_28 (by decide) ?_
  refine lv_iadd hx hb dX15_feed_29 ?_
  refine tk_i (y := 15) (by decide) ?_
  refine va_put (D := (dC, dI)) (ci := 15) (v := .int 15) (ty := .int) (C := RX15) (T := TX15) (N := 163) hx hb ht uX15 tyX15 tkX15 nmX15 hown hK hP hD hS 0 rfl rfl 53 (by decide) (ht _ k_11_1) (fun _ h9 => h9) rfl (by decide +kernel) rfl rfl (by rw [L_F_8]; decide) dX15_feed_30 (fun H locs hP hD hS => ?_)
  obtain ⟨F_12, eF_12⟩ : ∃ g : List Value, g = F_8.set 53 (.int 15) := ⟨_, rfl⟩
  rw [← eF_12] at hP hD
  have K51_F_12 : F_12[51]? = some (.int 0) := by rw [eF_12, List.getElem?_set_ne (by decide)]; exact K51_F_8
  have K52_F_12 : F_12[52]? = some (.ref tq) := by rw [eF_12, List.getElem?_set_ne (by decide)]; exact K52_F_8
  have K53_F_12 : F_12[53]? = some (.int 15) := by rw [eF_12]; exact List.getElem?_set_self (by rw [L_F_8]; decide)
  have L_F_12 : F_12.length = 163 := by rw [eF_12, List.length_set]; exact L_F_8
  have hP : va_P (dC, dI) cls [(q, .inr (15, F_12)), (tq, .inl (cT, 2000, .inl f_11))] H := hP
  have hD : va_D A [(q, .inr (15, F_12)), (tq, .inl (cT, 2000, .inl f_11))] := hD
  refine lv_iinc (v := 0) (lv' := [(2, .int 0), (0, .ref q), (1, .int p0)]) hx hb dX15_feed_33 hl (k := 0) rfl (by decide) (by decide) rfl (fun ls hl => ?_)
  refine lv_goto (tgt := 3) hx hb dX15_feed_36 (by decide) ?_
  refine lv_iload_n hx hb dX15_feed_3 rfl (lv_at hl 0 rfl) ?_
  refine lv_if_lt (tgt := 39) hx hb dX15_feed_4 (by decide) (fun c0 => absurd c0 (by decide)) (fun _ => ?_)
  refine lv_aload_n hx hb dX15_feed_7 rfl (lv_at hl 1 rfl) ?_
  refine va_get (D := (dC, dI)) (ci := 15) (v := .ref tq) (C := RX15) (T := TX15) (N := 163) hx hb ht uX15 hown hK hP 0 rfl rfl 52 (by decide) (ht _ k_11_0) (fun _ h9 => h9) K52_F_12 dX15_feed_8 ?_
  refine lv_aload_n hx hb dX15_feed_11 rfl (lv_at hl 1 rfl) ?_
  refine va_get (D := (dC, dI)) (ci := 15) (v := .int 15) (C := RX15) (T := TX15) (N := 163) hx hb ht uX15 hown hK hP 0 rfl rfl 53 (by decide) (ht _ k_11_1) (fun _ h9 => h9) K53_F_12 dX15_feed_12 ?_
  refine lv_iload_n hx hb dX15_feed_15 rfl (lv_at hl 2 rfl) ?_
  refine lv_iload_n hx hb dX15_feed_16 rfl (lv_at hl 0 rfl) ?_
  refine lv_ishr hx hb dX15_feed_17 ?_
  refine lv_topi (fun x_13 ex_13 => ?_)
  refine lv_sipush (v := 255) hx hb dX15_feed_18 (by decide) ?_
  refine lv_iand hx hb dX15_feed_21 ?_
  refine lv_topi (fun x_14 ex_14 => ?_)
  refine va_iast (i := 15) (x := x_14) hx hb hK hP hD hS 1 0 rfl rfl (by unfold vp_in; decide) dX15_feed_22 (fun H locs hP hD hS => ?_)
  obtain ⟨f_15, ef_15⟩ : ∃ g : Nat → Int32, g = upd f_11 (15 : Int32).toNatClampNeg x_14 := ⟨_, rfl⟩
  rw [← ef_15] at hP hD
  have hP : va_P (dC, dI) cls [(q, .inr (15, F_12)), (tq, .inl (cT, 2000, .inl f_15))] H := hP
  have hD : va_D A [(q, .inr (15, F_12)), (tq, .inl (cT, 2000, .inl f_15))] := hD
  refine lv_aload_n hx hb dX15_feed_23 rfl (lv_at hl 1 rfl) ?_
  refine lv_dup hx hb dX15_feed_24 rfl ?_
  refine va_get (D := (dC, dI)) (ci := 15) (v := .int 15) (C := RX15) (T := TX15) (N := 163) hx hb ht uX15 hown hK hP 0 rfl rfl 53 (by decide) (ht _ k_11_1) (fun _ h9 => h9) K53_F_12 dX15_feed_25 ?_
  refine lv_iconst (v := 1) hx hb dX15_feed_28 (by decide) ?_
  refine lv_iadd hx hb dX15_feed_29 ?_
  refine tk_i (y := 16) (by decide) ?_
  refine va_put (D := (dC, dI)) (ci := 15) (v := .int 16) (ty := .int) (C := RX15) (T := TX15) (N := 163) hx hb ht uX15 tyX15 tkX15 nmX15 hown hK hP hD hS 0 rfl rfl 53 (by decide) (ht _ k_11_1) (fun _ h9 => h9) rfl (by decide +kernel) rfl rfl (by rw [L_F_12]; decide) dX15_feed_30 (fun H locs hP hD hS => ?_)
  obtain ⟨F_16, eF_16⟩ : ∃ g : List Value, g = F_12.set 53 (.int 16) := ⟨_, rfl⟩
  rw [← eF_16] at hP hD
  have K51_F_16 : F_16[51]? = some (.int 0) := by rw [eF_16, List.getElem?_set_ne (by decide)]; exact K51_F_12
  have K52_F_16 : F_16[52]? = some (.ref tq) := by rw [eF_16, List.getElem?_set_ne (by decide)]; exact K52_F_12
  have K53_F_16 : F_16[53]? = some (.int 16) := by rw [eF_16]; exact List.getElem?_set_self (by rw [L_F_12]; decide)
  have L_F_16 : F_16.length = 163 := by rw [eF_16, List.length_set]; exact L_F_12
  have hP : va_P (dC, dI) cls [(q, .inr (15, F_16)), (tq, .inl (cT, 2000, .inl f_15))] H := hP
  have hD : va_D A [(q, .inr (15, F_16)), (tq, .inl (cT, 2000, .inl f_15))] := hD
  refine lv_iinc (v := (-8)) (lv' := [(2, .int (-8)), (0, .ref q), (1, .int p0)]) hx hb dX15_feed_33 hl (k := 0) rfl (by decide) (by decide) rfl (fun ls hl => ?_)
  refine lv_goto (tgt := 3) hx hb dX15_feed_36 (by decide) ?_
  refine lv_iload_n hx hb dX15_feed_3 rfl (lv_at hl 0 rfl) ?_
  refine lv_if_lt (tgt := 39) hx hb dX15_feed_4 (by decide) (fun _ => ?_) (fun c0 => absurd c0 (by decide))
  exact W.vret hx hb hr (fun t ht9 hW => ⟨⟨(F_16, f_15), rfl, ⟨trivial, L_F_16, K51_F_16, K52_F_16, K53_F_16⟩, by rw [ht9]; exact hP.sub [0, 1] rfl, va_K.moved hW.alike (hK.sub [0] rfl), hD.sub [0, 1] (by decide) rfl⟩, hS.F ht9⟩) hS.2.2 dX15_feed_39
set_option maxHeartbeats 4000000 in
set_option maxRecDepth 100000 in
theorem r_feed1_16 (l : Launch) (dC : Nat → ClassId) (dI : Nat → Nat → Nat) (sz : Nat) (q : Nat) (fs : List Value) (tq : Nat) (cT : ClassId) (ft : Nat → Int32) (p0 : Int32) (L_fs : fs.length = 163) (K51_fs : fs[51]? = some (.int 0)) (K52_fs : fs[52]? = some (.ref tq)) (K53_fs : fs[53]? = some (.int 16)) : Met l yX15_feed (Cond.code yX15_feed cX15_feed 3 none :: tb) ({ frames := 0, cells := 0, slots := 0, locals := 0 }) (pcw [.ref q, .int p0] (dC, dI) [(q, .inr (15, fs)), (tq, .inl (cT, 2000, .inl ft))] [(cT, .int)] sz) (va_Qv (fun (u : (List Value) × (Nat → Int32)) => match u with | (fs1, ft1) => (True) ∧ (fs1.length = 163) ∧ (fs1[51]? = some (.int 0)) ∧ (fs1[52]? = some (.ref tq)) ∧ (fs1[53]? = some (.int 20))) (bw (dC, dI) (va_A [(q, .inr (15, fs)), (tq, .inl (cT, 2000, .inl ft))] sz) (fun (u : (List Value) × (Nat → Int32)) => match u with | (fs1, ft1) => [(q, .inr (15, fs1)), (tq, .inl (cT, 2000, .inl ft1))]) (fun (u : (List Value) × (Nat → Int32)) => match u with | (fs1, ft1) => [(cT, .int)])) (va_A [(q, .inr (15, fs)), (tq, .inl (cT, 2000, .inl ft))] sz)) 0 0 (va_A [(q, .inr (15, fs)), (tq, .inl (cT, 2000, .inl ft))] sz) := by
  refine Met.ofW (cc := cX15_feed) (maxL := 3) (ret := none) (by decide) rfl ?_
  intro p e s m args below meth c s₁ B hml hv
  obtain ⟨rfl, hsz, hP, hK, hD0⟩ := hv
  have hx := B.exec
  have hb := B.bytes
  have hr := B.returns
  have hts := atoms_spec (ws := Cond.code yX15_feed cX15_feed 3 none :: tb) B.pre
  have ht : ∀ w ∈ tb, w.before _ s = true := fun w h => hts w (List.mem_cons_of_mem _ h)
  have hown : s.vm.findClass RX15 = some m.cls := findClass_of_methodNamed B.named
  have hlocks := B.notSynchronized
  subst hsz
  have hD := hD0.self (sz := s.heap.size)
  generalize hAe : va_A [(q, .inr (15, fs)), (tq, .inl (cT, 2000, .inl ft))] s.heap.size = A at hD ⊢
  have hA : ∀ q : Nat, s.heap.size ≤ q → A q := fun q h => by rw [← hAe]; exact Or.inr h
  have hS : va_S A s.heap s.heap [] := va_S.rf
  have hl := lv_entry ([.ref q, .int p0]) (n := 3) (Nat.le_of_ble_eq_true rfl)
  rw [lg_entry_eq]
  generalize (lg_sl ([.ref q, .int p0]) ++ List.replicate (3 - (lg_sl ([.ref q, .int p0])).length) Slot.unset).toArray = ls at hl ⊢
  have hl : lv_has ls 3 [(0, .ref q), (1, .int p0)] := hl
  have hP : va_P (dC, dI) cls [(q, .inr (15, fs)), (tq, .inl (cT, 2000, .inl ft))] s.heap := hP
  refine lv_bipush (v := 24) hx hb dX15_feed_0 (by decide) ?_
  refine lv_istore_n (lv' := [(2, .int 24), (0, .ref q), (1, .int p0)]) hx hb dX15_feed_2 rfl hl (by decide) rfl (fun ls hl => ?_)
  refine lv_iload_n hx hb dX15_feed_3 rfl (lv_at hl 0 rfl) ?_
  refine lv_if_lt (tgt := 39) hx hb dX15_feed_4 (by decide) (fun c0 => absurd c0 (by decide)) (fun _ => ?_)
  refine lv_aload_n hx hb dX15_feed_7 rfl (lv_at hl 1 rfl) ?_
  refine va_get (D := (dC, dI)) (ci := 15) (v := .ref tq) (C := RX15) (T := TX15) (N := 163) hx hb ht uX15 hown hK hP 0 rfl rfl 52 (by decide) (ht _ k_11_0) (fun _ h9 => h9) K52_fs dX15_feed_8 ?_
  refine lv_aload_n hx hb dX15_feed_11 rfl (lv_at hl 1 rfl) ?_
  refine va_get (D := (dC, dI)) (ci := 15) (v := .int 16) (C := RX15) (T := TX15) (N := 163) hx hb ht uX15 hown hK hP 0 rfl rfl 53 (by decide) (ht _ k_11_1) (fun _ h9 => h9) K53_fs dX15_feed_12 ?_
  refine lv_iload_n hx hb dX15_feed_15 rfl (lv_at hl 2 rfl) ?_
  refine lv_iload_n hx hb dX15_feed_16 rfl (lv_at hl 0 rfl) ?_
  refine lv_ishr hx hb dX15_feed_17 ?_
  refine lv_topi (fun x_1 ex_1 => ?_)
  refine lv_sipush (v := 255) hx hb dX15_feed_18 (by decide) ?_
  refine lv_iand hx hb dX15_feed_21 ?_
  refine lv_topi (fun x_2 ex_2 => ?_)
  refine va_iast (i := 16) (x := x_2) hx hb hK hP hD hS 1 0 rfl rfl (by unfold vp_in; decide) dX15_feed_22 (fun H locs hP hD hS => ?_)
  obtain ⟨f_3, ef_3⟩ : ∃ g : Nat → Int32, g = upd ft (16 : Int32).toNatClampNeg x_2 := ⟨_, rfl⟩
  rw [← ef_3] at hP hD
  have hP : va_P (dC, dI) cls [(q, .inr (15, fs)), (tq, .inl (cT, 2000, .inl f_3))] H := hP
  have hD : va_D A [(q, .inr (15, fs)), (tq, .inl (cT, 2000, .inl f_3))] := hD
  refine lv_aload_n hx hb dX15_feed_23 rfl (lv_at hl 1 rfl) ?_
  refine lv_dup hx hb dX15_feed_24 rfl ?_
  refine va_get (D := (dC, dI)) (ci := 15) (v := .int 16) (C := RX15) (T := TX15) (N := 163) hx hb ht uX15 hown hK hP 0 rfl rfl 53 (by decide) (ht _ k_11_1) (fun _ h9 => h9) K53_fs dX15_feed_25 ?_
  refine lv_iconst (v := 1) hx hb dX15_feed_28 (by decide) ?_
  refine lv_iadd hx hb dX15_feed_29 ?_
  refine tk_i (y := 17) (by decide) ?_
  refine va_put (D := (dC, dI)) (ci := 15) (v := .int 17) (ty := .int) (C := RX15) (T := TX15) (N := 163) hx hb ht uX15 tyX15 tkX15 nmX15 hown hK hP hD hS 0 rfl rfl 53 (by decide) (ht _ k_11_1) (fun _ h9 => h9) rfl (by decide +kernel) rfl rfl (by rw [L_fs]; decide) dX15_feed_30 (fun H locs hP hD hS => ?_)
  obtain ⟨F_4, eF_4⟩ : ∃ g : List Value, g = fs.set 53 (.int 17) := ⟨_, rfl⟩
  rw [← eF_4] at hP hD
  have K51_F_4 : F_4[51]? = some (.int 0) := by rw [eF_4, List.getElem?_set_ne (by decide)]; exact K51_fs
  have K52_F_4 : F_4[52]? = some (.ref tq) := by rw [eF_4, List.getElem?_set_ne (by decide)]; exact K52_fs
  have K53_F_4 : F_4[53]? = some (.int 17) := by rw [eF_4]; exact List.getElem?_set_self (by rw [L_fs]; decide)
  have L_F_4 : F_4.length = 163 := by rw [eF_4, List.length_set]; exact L_fs
  have hP : va_P (dC, dI) cls [(q, .inr (15, F_4)), (tq, .inl (cT, 2000, .inl f_3))] H := hP
  have hD : va_D A [(q, .inr (15, F_4)), (tq, .inl (cT, 2000, .inl f_3))] := hD
  refine lv_iinc (v := 16) (lv' := [(2, .int 16), (0, .ref q), (1, .int p0)]) hx hb dX15_feed_33 hl (k := 0) rfl (by decide) (by decide) rfl (fun ls hl => ?_)
  refine lv_goto (tgt := 3) hx hb dX15_feed_36 (by decide) ?_
  refine lv_iload_n hx hb dX15_feed_3 rfl (lv_at hl 0 rfl) ?_
  refine lv_if_lt (tgt := 39) hx hb dX15_feed_4 (by decide) (fun c0 => absurd c0 (by decide)) (fun _ => ?_)
  refine lv_aload_n hx hb dX15_feed_7 rfl (lv_at hl 1 rfl) ?_
  refine va_get (D := (dC, dI)) (ci := 15) (v := .ref tq) (C := RX15) (T := TX15) (N := 163) hx hb ht uX15 hown hK hP 0 rfl rfl 52 (by decide) (ht _ k_11_0) (fun _ h9 => h9) K52_F_4 dX15_feed_8 ?_
  refine lv_aload_n hx hb dX15_feed_11 rfl (lv_at hl 1 rfl) ?_
  refine va_get (D := (dC, dI)) (ci := 15) (v := .int 17) (C := RX15) (T := TX15) (N := 163) hx hb ht uX15 hown hK hP 0 rfl rfl 53 (by decide) (ht _ k_11_1) (fun _ h9 => h9) K53_F_4 dX15_feed_12 ?_
  refine lv_iload_n hx hb dX15_feed_15 rfl (lv_at hl 2 rfl) ?_
  refine lv_iload_n hx hb dX15_feed_16 rfl (lv_at hl 0 rfl) ?_
  refine lv_ishr hx hb dX15_feed_17 ?_
  refine lv_topi (fun x_5 ex_5 => ?_)
  refine lv_sipush (v := 255) hx hb dX15_feed_18 (by decide) ?_
  refine lv_iand hx hb dX15_feed_21 ?_
  refine lv_topi (fun x_6 ex_6 => ?_)
  refine va_iast (i := 17) (x := x_6) hx hb hK hP hD hS 1 0 rfl rfl (by unfold vp_in; decide) dX15_feed_22 (fun H locs hP hD hS => ?_)
  obtain ⟨f_7, ef_7⟩ : ∃ g : Nat → Int32, g = upd f_3 (17 : Int32).toNatClampNeg x_6 := ⟨_, rfl⟩
  rw [← ef_7] at hP hD
  have hP : va_P (dC, dI) cls [(q, .inr (15, F_4)), (tq, .inl (cT, 2000, .inl f_7))] H := hP
  have hD : va_D A [(q, .inr (15, F_4)), (tq, .inl (cT, 2000, .inl f_7))] := hD
  refine lv_aload_n hx hb dX15_feed_23 rfl (lv_at hl 1 rfl) ?_
  refine lv_dup hx hb dX15_feed_24 rfl ?_
  refine va_get (D := (dC, dI)) (ci := 15) (v := .int 17) (C := RX15) (T := TX15) (N := 163) hx hb ht uX15 hown hK hP 0 rfl rfl 53 (by decide) (ht _ k_11_1) (fun _ h9 => h9) K53_F_4 dX15_feed_25 ?_
  refine lv_iconst (v := 1) hx hb dX15_feed_28 (by decide) ?_
  refine lv_iadd hx hb dX15_feed_29 ?_
  refine tk_i (y := 18) (by decide) ?_
  refine va_put (D := (dC, dI)) (ci := 15) (v := .int 18) (ty := .int) (C := RX15) (T := TX15) (N := 163) hx hb ht uX15 tyX15 tkX15 nmX15 hown hK hP hD hS 0 rfl rfl 53 (by decide) (ht _ k_11_1) (fun _ h9 => h9) rfl (by decide +kernel) rfl rfl (by rw [L_F_4]; decide) dX15_feed_30 (fun H locs hP hD hS => ?_)
  obtain ⟨F_8, eF_8⟩ : ∃ g : List Value, g = F_4.set 53 (.int 18) := ⟨_, rfl⟩
  rw [← eF_8] at hP hD
  have K51_F_8 : F_8[51]? = some (.int 0) := by rw [eF_8, List.getElem?_set_ne (by decide)]; exact K51_F_4
  have K52_F_8 : F_8[52]? = some (.ref tq) := by rw [eF_8, List.getElem?_set_ne (by decide)]; exact K52_F_4
  have K53_F_8 : F_8[53]? = some (.int 18) := by rw [eF_8]; exact List.getElem?_set_self (by rw [L_F_4]; decide)
  have L_F_8 : F_8.length = 163 := by rw [eF_8, List.length_set]; exact L_F_4
  have hP : va_P (dC, dI) cls [(q, .inr (15, F_8)), (tq, .inl (cT, 2000, .inl f_7))] H := hP
  have hD : va_D A [(q, .inr (15, F_8)), (tq, .inl (cT, 2000, .inl f_7))] := hD
  refine lv_iinc (v := 8) (lv' := [(2, .int 8), (0, .ref q), (1, .int p0)]) hx hb dX15_feed_33 hl (k := 0) rfl (by decide) (by decide) rfl (fun ls hl => ?_)
  refine lv_goto (tgt := 3) hx hb dX15_feed_36 (by decide) ?_
  refine lv_iload_n hx hb dX15_feed_3 rfl (lv_at hl 0 rfl) ?_
  refine lv_if_lt (tgt := 39) hx hb dX15_feed_4 (by decide) (fun c0 => absurd c0 (by decide)) (fun _ => ?_)
  refine lv_aload_n hx hb dX15_feed_7 rfl (lv_at hl 1 rfl) ?_
  refine va_get (D := (dC, dI)) (ci := 15) (v := .ref tq) (C := RX15) (T := TX15) (N := 163) hx hb ht uX15 hown hK hP 0 rfl rfl 52 (by decide) (ht _ k_11_0) (fun _ h9 => h9) K52_F_8 dX15_feed_8 ?_
  refine lv_aload_n hx hb dX15_feed_11 rfl (lv_at hl 1 rfl) ?_
  refine va_get (D := (dC, dI)) (ci := 15) (v := .int 18) (C := RX15) (T := TX15) (N := 163) hx hb ht uX15 hown hK hP 0 rfl rfl 53 (by decide) (ht _ k_11_1) (fun _ h9 => h9) K53_F_8 dX15_feed_12 ?_
  refine lv_iload_n hx hb dX15_feed_15 rfl (lv_at hl 2 rfl) ?_
  refine lv_iload_n hx hb dX15_feed_16 rfl (lv_at hl 0 rfl) ?_
  refine lv_ishr hx hb dX15_feed_17 ?_
  refine lv_topi (fun x_9 ex_9 => ?_)
  refine lv_sipush (v := 255) hx hb dX15_feed_18 (by decide) ?_
  refine lv_iand hx hb dX15_feed_21 ?_
  refine lv_topi (fun x_10 ex_10 => ?_)
  refine va_iast (i := 18) (x := x_10) hx hb hK hP hD hS 1 0 rfl rfl (by unfold vp_in; decide) dX15_feed_22 (fun H locs hP hD hS => ?_)
  obtain ⟨f_11, ef_11⟩ : ∃ g : Nat → Int32, g = upd f_7 (18 : Int32).toNatClampNeg x_10 := ⟨_, rfl⟩
  rw [← ef_11] at hP hD
  have hP : va_P (dC, dI) cls [(q, .inr (15, F_8)), (tq, .inl (cT, 2000, .inl f_11))] H := hP
  have hD : va_D A [(q, .inr (15, F_8)), (tq, .inl (cT, 2000, .inl f_11))] := hD
  refine lv_aload_n hx hb dX15_feed_23 rfl (lv_at hl 1 rfl) ?_
  refine lv_dup hx hb dX15_feed_24 rfl ?_
  refine va_get (D := (dC, dI)) (ci := 15) (v := .int 18) (C := RX15) (T := TX15) (N := 163) hx hb ht uX15 hown hK hP 0 rfl rfl 53 (by decide) (ht _ k_11_1) (fun _ h9 => h9) K53_F_8 dX15_feed_25 ?_
  refine lv_iconst (v := 1) hx hb dX15_feed_28 (by decide) ?_
  refine lv_iadd hx hb dX15_feed_29 ?_
  refine tk_i (y := 19) (by decide) ?_
  refine va_put (D := (dC, dI)) (ci := 15) (v := .int 19) (ty := .int) (C := RX15) (T := TX15) (N := 163) hx hb ht uX15 tyX15 tkX15 nmX15 hown hK hP hD hS 0 rfl rfl 53 (by decide) (ht _ k_11_1) (fun _ h9 => h9) rfl (by decide +kernel) rfl rfl (by rw [L_F_8]; decide) dX15_feed_30 (fun H locs hP hD hS => ?_)
  obtain ⟨F_12, eF_12⟩ : ∃ g : List Value, g = F_8.set 53 (.int 19) := ⟨_, rfl⟩
  rw [← eF_12] at hP hD
  have K51_F_12 : F_12[51]? = some (.int 0) := by rw [eF_12, List.getElem?_set_ne (by decide)]; exact K51_F_8
  have K52_F_12 : F_12[52]? = some (.ref tq) := by rw [eF_12, List.getElem?_set_ne (by decide)]; exact K52_F_8
  have K53_F_12 : F_12[53]? = some (.int 19) := by rw [eF_12]; exact List.getElem?_set_self (by rw [L_F_8]; decide)
  have L_F_12 : F_12.length = 163 := by rw [eF_12, List.length_set]; exact L_F_8
  have hP : va_P (dC, dI) cls [(q, .inr (15, F_12)), (tq, .inl (cT, 2000, .inl f_11))] H := hP
  have hD : va_D A [(q, .inr (15, F_12)), (tq, .inl (cT, 2000, .inl f_11))] := hD
  refine lv_iinc (v := 0) (lv' := [(2, .int 0), (0, .ref q), (1, .int p0)]) hx hb dX15_feed_33 hl (k := 0) rfl (by decide) (by decide) rfl (fun ls hl => ?_)
  refine lv_goto (tgt := 3) hx hb dX15_feed_36 (by decide) ?_
  refine lv_iload_n hx hb dX15_feed_3 rfl (lv_at hl 0 rfl) ?_
  refine lv_if_lt (tgt := 39) hx hb dX15_feed_4 (by decide) (fun c0 => absurd c0 (by decide)) (fun _ => ?_)
  refine lv_aload_n hx hb dX15_feed_7 rfl (lv_at hl 1 rfl) ?_
  refine va_get (D := (dC, dI)) (ci := 15) (v := .ref tq) (C := RX15) (T := TX15) (N := 163) hx hb ht uX15 hown hK hP 0 rfl rfl 52 (by decide) (ht _ k_11_0) (fun _ h9 => h9) K52_F_12 dX15_feed_8 ?_
  refine lv_aload_n hx hb dX15_feed_11 rfl (lv_at hl 1 rfl) ?_
  refine va_get (D := (dC, dI)) (ci := 15) (v := .int 19) (C := RX15) (T := TX15) (N := 163) hx hb ht uX15 hown hK hP 0 rfl rfl 53 (by decide) (ht _ k_11_1) (fun _ h9 => h9) K53_F_12 dX15_feed_12 ?_
  refine lv_iload_n hx hb dX15_feed_15 rfl (lv_at hl 2 rfl) ?_
  refine lv_iload_n hx hb dX15_feed_16 rfl (lv_at hl 0 rfl) ?_
  refine lv_ishr hx hb dX15_feed_17 ?_
  refine lv_topi (fun x_13 ex_13 => ?_)
  refine lv_sipush (v := 255) hx hb dX15_feed_18 (by decide) ?_
  refine lv_iand hx hb dX15_feed_21 ?_
  refine lv_topi (fun x_14 ex_14 => ?_)
  refine va_iast (i := 19) (x := x_14) hx hb hK hP hD hS 1 0 rfl rfl (by unfold vp_in; decide) dX15_feed_22 (fun H locs hP hD hS => ?_)
  obtain ⟨f_15, ef_15⟩ : ∃ g : Nat → Int32, g = upd f_11 (19 : Int32).toNatClampNeg x_14 := ⟨_, rfl⟩
  rw [← ef_15] at hP hD
  have hP : va_P (dC, dI) cls [(q, .inr (15, F_12)), (tq, .inl (cT, 2000, .inl f_15))] H := hP
  have hD : va_D A [(q, .inr (15, F_12)), (tq, .inl (cT, 2000, .inl f_15))] := hD
  refine lv_aload_n hx hb dX15_feed_23 rfl (lv_at hl 1 rfl) ?_
  refine lv_dup hx hb dX15_feed_24 rfl ?_
  refine va_get (D := (dC, dI)) (ci := 15) (v := .int 19) (C := RX15) (T := TX15) (N := 163) hx hb ht uX15 hown hK hP 0 rfl rfl 53 (by decide) (ht _ k_11_1) (fun _ h9 => h9) K53_F_12 dX15_feed_25 ?_
  refine lv_iconst (v := 1) hx hb dX15_feed_28 (by decide) ?_
  refine lv_iadd hx hb dX15_feed_29 ?_
  refine tk_i (y := 20) (by decide) ?_
  refine va_put (D := (dC, dI)) (ci := 15) (v := .int 20) (ty := .int) (C := RX15) (T := TX15) (N := 163) hx hb ht uX15 tyX15 tkX15 nmX15 hown hK hP hD hS 0 rfl rfl 53 (by decide) (ht _ k_11_1) (fun _ h9 => h9) rfl (by decide +kernel) rfl rfl (by rw [L_F_12]; decide) dX15_feed_30 (fun H locs hP hD hS => ?_)
  obtain ⟨F_16, eF_16⟩ : ∃ g : List Value, g = F_12.set 53 (.int 20) := ⟨_, rfl⟩
  rw [← eF_16] at hP hD
  have K51_F_16 : F_16[51]? = some (.int 0) := by rw [eF_16, List.getElem?_set_ne (by decide)]; exact K51_F_12
  have K52_F_16 : F_16[52]? = some (.ref tq) := by rw [eF_16, List.getElem?_set_ne (by decide)]; exact K52_F_12
  have K53_F_16 : F_16[53]? = some (.int 20) := by rw [eF_16]; exact List.getElem?_set_self (by rw [L_F_12]; decide)
  have L_F_16 : F_16.length = 163 := by rw [eF_16, List.length_set]; exact L_F_12
  have hP : va_P (dC, dI) cls [(q, .inr (15, F_16)), (tq, .inl (cT, 2000, .inl f_15))] H := hP
  have hD : va_D A [(q, .inr (15, F_16)), (tq, .inl (cT, 2000, .inl f_15))] := hD
  refine lv_iinc (v := (-8)) (lv' := [(2, .int (-8)), (0, .ref q), (1, .int p0)]) hx hb dX15_feed_33 hl (k := 0) rfl (by decide) (by decide) rfl (fun ls hl => ?_)
  refine lv_goto (tgt := 3) hx hb dX15_feed_36 (by decide) ?_
  refine lv_iload_n hx hb dX15_feed_3 rfl (lv_at hl 0 rfl) ?_
  refine lv_if_lt (tgt := 39) hx hb dX15_feed_4 (by decide) (fun _ => ?_) (fun c0 => absurd c0 (by decide))
  exact W.vret hx hb hr (fun t ht9 hW => ⟨⟨(F_16, f_15), rfl, ⟨trivial, L_F_16, K51_F_16, K52_F_16, K53_F_16⟩, by rw [ht9]; exact hP.sub [0, 1] rfl, va_K.moved hW.alike (hK.sub [0] rfl), hD.sub [0, 1] (by decide) rfl⟩, hS.F ht9⟩) hS.2.2 dX15_feed_39
set_option maxHeartbeats 4000000 in
set_option maxRecDepth 100000 in
theorem r_feed (l : Launch) (dC : Nat → ClassId) (dI : Nat → Nat → Nat) (sz : Nat) (q : Nat) (fs : List Value) (tq : Nat) (cT : ClassId) (ft : Nat → Int32) (p0 : Int32) (p1 : Int32) (p2 : Int32) (p3 : Int32) (p4 : Int32) (L_fs : fs.length = 163) (K52_fs : fs[52]? = some (.ref tq)) (K53_fs : fs[53]? = some (.int 0)) : Met l yX15_feed_ (Cond.code yX15_feed_ cX15_feed_ 6 (some .int) :: tb) ({ frames := 1, cells := 0, slots := 0, locals := 22 }) (pcw [.ref q, .int p0, .int p1, .int p2, .int p3, .int p4] (dC, dI) [(q, .inr (15, fs)), (tq, .inl (cT, 2000, .inl ft))] [(cT, .int)] sz) (va_Qi (fun (r : Int32) => (fun (fs1 : List Value) => (r = 20) ∧ (fs1.length = 163) ∧ (fs1[51]? = some (.int 0)))) (bw (dC, dI) (va_A [(q, .inr (15, fs)), (tq, .inl (cT, 2000, .inl ft))] sz) (fun (fs1 : List Value) => [(q, .inr (15, fs1))]) (fun (fs1 : List Value) => [])) (va_A [(q, .inr (15, fs)), (tq, .inl (cT, 2000, .inl ft))] sz)) 0 0 (va_A [(q, .inr (15, fs)), (tq, .inl (cT, 2000, .inl ft))] sz) := by
  refine Met.ofW (cc := cX15_feed_) (maxL := 6) (ret := (some .int)) (by decide) rfl ?_
  intro p e s m args below meth c s₁ B hml hv
  obtain ⟨rfl, hsz, hP, hK, hD0⟩ := hv
  have hx := B.exec
  have hb := B.bytes
  have hr := B.returns
  have hts := atoms_spec (ws := Cond.code yX15_feed_ cX15_feed_ 6 (some .int) :: tb) B.pre
  have ht : ∀ w ∈ tb, w.before _ s = true := fun w h => hts w (List.mem_cons_of_mem _ h)
  have hown : s.vm.findClass RX15 = some m.cls := findClass_of_methodNamed B.named
  have hlocks := B.notSynchronized
  subst hsz
  have hD := hD0.self (sz := s.heap.size)
  generalize hAe : va_A [(q, .inr (15, fs)), (tq, .inl (cT, 2000, .inl ft))] s.heap.size = A at hD ⊢
  have hA : ∀ q : Nat, s.heap.size ≤ q → A q := fun q h => by rw [← hAe]; exact Or.inr h
  have hS : va_S A s.heap s.heap [] := va_S.rf
  have hl := lv_entry ([.ref q, .int p0, .int p1, .int p2, .int p3, .int p4]) (n := 6) (Nat.le_of_ble_eq_true rfl)
  rw [lg_entry_eq]
  generalize (lg_sl ([.ref q, .int p0, .int p1, .int p2, .int p3, .int p4]) ++ List.replicate (6 - (lg_sl ([.ref q, .int p0, .int p1, .int p2, .int p3, .int p4])).length) Slot.unset).toArray = ls at hl ⊢
  have hl : lv_has ls 6 [(0, .ref q), (1, .int p0), (2, .int p1), (3, .int p2), (4, .int p3), (5, .int p4)] := hl
  have hP : va_P (dC, dI) cls [(q, .inr (15, fs)), (tq, .inl (cT, 2000, .inl ft))] s.heap := hP
  refine lv_aload_n hx hb dX15_feed__0 rfl (lv_at hl 0 rfl) ?_
  refine lv_aload_n hx hb dX15_feed__1 rfl (lv_at hl 0 rfl) ?_
  refine va_get (D := (dC, dI)) (ci := 15) (v := .int 0) (C := RX15) (T := TX15) (N := 163) hx hb ht uX15 hown hK hP 0 rfl rfl 53 (by decide) (ht _ k_11_1) (fun _ h9 => h9) K53_fs dX15_feed__2 ?_
  refine lv_bipush (v := 20) hx hb dX15_feed__5 (by decide) ?_
  refine lv_iadd hx hb dX15_feed__7 ?_
  refine tk_i (y := 20) (by decide) ?_
  refine lv_sipush (v := 2000) hx hb dX15_feed__8 (by decide) ?_
  refine lv_icmp_le (tgt := 18) hx hb dX15_feed__11 (by decide) (fun _ => ?_) (fun c0 => absurd c0 (by decide))
  refine lv_iconst (v := 0) hx hb dX15_feed__18 (by decide) ?_
  refine va_put (D := (dC, dI)) (ci := 15) (v := .int 0) (ty := .int) (C := RX15) (T := TX15) (N := 163) hx hb ht uX15 tyX15 tkX15 nmX15 hown hK hP hD hS 0 rfl rfl 51 (by decide) (ht _ k_10_239) (fun _ h9 => h9) rfl (by decide +kernel) rfl rfl (by rw [L_fs]; decide) dX15_feed__19 (fun H locs hP hD hS => ?_)
  obtain ⟨F_1, eF_1⟩ : ∃ g : List Value, g = fs.set 51 (.int 0) := ⟨_, rfl⟩
  rw [← eF_1] at hP hD
  have K52_F_1 : F_1[52]? = some (.ref tq) := by rw [eF_1, List.getElem?_set_ne (by decide)]; exact K52_fs
  have K53_F_1 : F_1[53]? = some (.int 0) := by rw [eF_1, List.getElem?_set_ne (by decide)]; exact K53_fs
  have K51_F_1 : F_1[51]? = some (.int 0) := by rw [eF_1]; exact List.getElem?_set_self (by rw [L_fs]; decide)
  have L_F_1 : F_1.length = 163 := by rw [eF_1, List.length_set]; exact L_fs
  have hP : va_P (dC, dI) cls [(q, .inr (15, F_1)), (tq, .inl (cT, 2000, .inl ft))] H := hP
  have hD : va_D A [(q, .inr (15, F_1)), (tq, .inl (cT, 2000, .inl ft))] := hD
  refine lv_aload_n hx hb dX15_feed__22 rfl (lv_at hl 0 rfl) ?_
  refine va_get (D := (dC, dI)) (ci := 15) (v := .int 0) (C := RX15) (T := TX15) (N := 163) hx hb ht uX15 hown hK hP 0 rfl rfl 51 (by decide) (ht _ k_10_239) (fun _ h9 => h9) K51_F_1 dX15_feed__23 ?_
  refine lv_if_le (tgt := 31) hx hb dX15_feed__26 (by decide) (fun _ => ?_) (fun c0 => absurd c0 (by decide))
  refine lv_aload_n hx hb dX15_feed__31 rfl (lv_at hl 0 rfl) ?_
  refine lv_iload_n hx hb dX15_feed__32 rfl (lv_at hl 1 rfl) ?_
  refine ca_v (wr := []) (va_runV (As := [.int p0]) (rest := []) ⟨hx, hb, hml, hown, ht⟩ (r_feed1_0 l dC dI H.size q F_1 tq cT ft p0 L_F_1 K51_F_1 K52_F_1 K53_F_1 ) (cwV 1 ht (gdV k_12_209 k_12_206 k_12_208 ks_111 k_1_17) rfl rfl rfl (by decide +kernel) ⟨Nat.le_of_ble_eq_true rfl, Nat.le_of_ble_eq_true rfl⟩) ⟨pcw_blind, va_recv hK hP (ci := 15) (q0 := 0) rfl rfl, pcw_at hP hD hK [0, 1] [0] (by decide) rfl rfl rfl⟩ rfl rfl hl.1 rfl (lv_room (Nat.le_of_ble_eq_true rfl)) dX15_feed__33 ⟨Nat.le_of_ble_eq_true rfl, Nat.le_of_ble_eq_true rfl⟩) hP hD hK hS hA [0, 1] [] rfl rfl (by decide) (by decide) (fun u H locs w_3 hK hP hD hS => ?_)
  obtain ⟨F_4, y_5⟩ := u
  have hK : va_K (dC, dI) cls [(cT, .int), (cT, .int)] s := hK
  have hP : va_P (dC, dI) cls [(q, .inr (15, F_4)), (tq, .inl (cT, 2000, .inl y_5))] H := hP
  have hD : va_D A [(q, .inr (15, F_4)), (tq, .inl (cT, 2000, .inl y_5))] := hD
  obtain ⟨w_3, K_6, K_7, K_8, K_9⟩ := w_3
  refine lv_aload_n hx hb dX15_feed__36 rfl (lv_at hl 0 rfl) ?_
  refine lv_iload_n hx hb dX15_feed__37 rfl (lv_at hl 2 rfl) ?_
  refine ca_v (wr := []) (va_runV (As := [.int p1]) (rest := []) ⟨hx, hb, hml, hown, ht⟩ (r_feed1_4 l dC dI H.size q F_4 tq cT y_5 p1 K_6 K_7 K_8 K_9 ) (cwV 1 ht (gdV k_12_209 k_12_206 k_12_208 ks_111 k_1_17) rfl rfl rfl (by decide +kernel) ⟨Nat.le_of_ble_eq_true rfl, Nat.le_of_ble_eq_true rfl⟩) ⟨pcw_blind, va_recv hK hP (ci := 15) (q0 := 0) rfl rfl, pcw_at hP hD hK [0, 1] [0] (by decide) rfl rfl rfl⟩ rfl rfl hl.1 rfl (lv_room (Nat.le_of_ble_eq_true rfl)) dX15_feed__38 ⟨Nat.le_of_ble_eq_true rfl, Nat.le_of_ble_eq_true rfl⟩) hP hD hK hS hA [0, 1] [] rfl rfl (by decide) (by decide) (fun u H locs w_11 hK hP hD hS => ?_)
  obtain ⟨F_12, y_13⟩ := u
  have hK : va_K (dC, dI) cls [(cT, .int), (cT, .int), (cT, .int)] s := hK
  have hP : va_P (dC, dI) cls [(q, .inr (15, F_12)), (tq, .inl (cT, 2000, .inl y_13))] H := hP
  have hD : va_D A [(q, .inr (15, F_12)), (tq, .inl (cT, 2000, .inl y_13))] := hD
  obtain ⟨w_11, K_14, K_15, K_16, K_17⟩ := w_11
  refine lv_aload_n hx hb dX15_feed__41 rfl (lv_at hl 0 rfl) ?_
  refine lv_iload_n hx hb dX15_feed__42 rfl (lv_at hl 3 rfl) ?_
  refine ca_v (wr := []) (va_runV (As := [.int p2]) (rest := []) ⟨hx, hb, hml, hown, ht⟩ (r_feed1_8 l dC dI H.size q F_12 tq cT y_13 p2 K_14 K_15 K_16 K_17 ) (cwV 1 ht (gdV k_12_209 k_12_206 k_12_208 ks_111 k_1_17) rfl rfl rfl (by decide +kernel) ⟨Nat.le_of_ble_eq_true rfl, Nat.le_of_ble_eq_true rfl⟩) ⟨pcw_blind, va_recv hK hP (ci := 15) (q0 := 0) rfl rfl, pcw_at hP hD hK [0, 1] [0] (by decide) rfl rfl rfl⟩ rfl rfl hl.1 rfl (lv_room (Nat.le_of_ble_eq_true rfl)) dX15_feed__43 ⟨Nat.le_of_ble_eq_true rfl, Nat.le_of_ble_eq_true rfl⟩) hP hD hK hS hA [0, 1] [] rfl rfl (by decide) (by decide) (fun u H locs w_19 hK hP hD hS => ?_)
  obtain ⟨F_20, y_21⟩ := u
  have hK : va_K (dC, dI) cls [(cT, .int), (cT, .int), (cT, .int), (cT, .int)] s := hK
  have hP : va_P (dC, dI) cls [(q, .inr (15, F_20)), (tq, .inl (cT, 2000, .inl y_21))] H := hP
  have hD : va_D A [(q, .inr (15, F_20)), (tq, .inl (cT, 2000, .inl y_21))] := hD
  obtain ⟨w_19, K_22, K_23, K_24, K_25⟩ := w_19
  refine lv_aload_n hx hb dX15_feed__46 rfl (lv_at hl 0 rfl) ?_
  refine lv_iload hx hb dX15_feed__47 (lv_at hl 4 rfl) ?_
  refine ca_v (wr := []) (va_runV (As := [.int p3]) (rest := []) ⟨hx, hb, hml, hown, ht⟩ (r_feed1_12 l dC dI H.size q F_20 tq cT y_21 p3 K_22 K_23 K_24 K_25 ) (cwV 1 ht (gdV k_12_209 k_12_206 k_12_208 ks_111 k_1_17) rfl rfl rfl (by decide +kernel) ⟨Nat.le_of_ble_eq_true rfl, Nat.le_of_ble_eq_true rfl⟩) ⟨pcw_blind, va_recv hK hP (ci := 15) (q0 := 0) rfl rfl, pcw_at hP hD hK [0, 1] [0] (by decide) rfl rfl rfl⟩ rfl rfl hl.1 rfl (lv_room (Nat.le_of_ble_eq_true rfl)) dX15_feed__49 ⟨Nat.le_of_ble_eq_true rfl, Nat.le_of_ble_eq_true rfl⟩) hP hD hK hS hA [0, 1] [] rfl rfl (by decide) (by decide) (fun u H locs w_27 hK hP hD hS => ?_)
  obtain ⟨F_28, y_29⟩ := u
  have hK : va_K (dC, dI) cls [(cT, .int), (cT, .int), (cT, .int), (cT, .int), (cT, .int)] s := hK
  have hP : va_P (dC, dI) cls [(q, .inr (15, F_28)), (tq, .inl (cT, 2000, .inl y_29))] H := hP
  have hD : va_D A [(q, .inr (15, F_28)), (tq, .inl (cT, 2000, .inl y_29))] := hD
  obtain ⟨w_27, K_30, K_31, K_32, K_33⟩ := w_27
  refine lv_aload_n hx hb dX15_feed__52 rfl (lv_at hl 0 rfl) ?_
  refine lv_iload hx hb dX15_feed__53 (lv_at hl 5 rfl) ?_
  refine ca_v (wr := []) (va_runV (As := [.int p4]) (rest := []) ⟨hx, hb, hml, hown, ht⟩ (r_feed1_16 l dC dI H.size q F_28 tq cT y_29 p4 K_30 K_31 K_32 K_33 ) (cwV 1 ht (gdV k_12_209 k_12_206 k_12_208 ks_111 k_1_17) rfl rfl rfl (by decide +kernel) ⟨Nat.le_of_ble_eq_true rfl, Nat.le_of_ble_eq_true rfl⟩) ⟨pcw_blind, va_recv hK hP (ci := 15) (q0 := 0) rfl rfl, pcw_at hP hD hK [0, 1] [0] (by decide) rfl rfl rfl⟩ rfl rfl hl.1 rfl (lv_room (Nat.le_of_ble_eq_true rfl)) dX15_feed__55 ⟨Nat.le_of_ble_eq_true rfl, Nat.le_of_ble_eq_true rfl⟩) hP hD hK hS hA [0, 1] [] rfl rfl (by decide) (by decide) (fun u H locs w_35 hK hP hD hS => ?_)
  obtain ⟨F_36, y_37⟩ := u
  have hK : va_K (dC, dI) cls [(cT, .int), (cT, .int), (cT, .int), (cT, .int), (cT, .int), (cT, .int)] s := hK
  have hP : va_P (dC, dI) cls [(q, .inr (15, F_36)), (tq, .inl (cT, 2000, .inl y_37))] H := hP
  have hD : va_D A [(q, .inr (15, F_36)), (tq, .inl (cT, 2000, .inl y_37))] := hD
  obtain ⟨w_35, K_38, K_39, K_40, K_41⟩ := w_35
  refine lv_aload_n hx hb dX15_feed__58 rfl (lv_at hl 0 rfl) ?_
  refine va_get (D := (dC, dI)) (ci := 15) (v := .int 20) (C := RX15) (T := TX15) (N := 163) hx hb ht uX15 hown hK hP 0 rfl rfl 53 (by decide) (ht _ k_11_1) (fun _ h9 => h9) K_41 dX15_feed__59 ?_
  exact W.iret (v := 20) hx hb hr (fun t ht9 hW => ⟨⟨20, (F_36), rfl, ⟨rfl, K_38, K_39⟩, by rw [ht9]; exact hP.sub [0] rfl, va_K.moved hW.alike (hK.sub [] rfl), hD.sub [0] (by decide) rfl⟩, hS.F ht9⟩) hS.2.2 dX15_feed__62
def sp_end (p : Int32) : Int32 := if p = 0 then 0 else 1
