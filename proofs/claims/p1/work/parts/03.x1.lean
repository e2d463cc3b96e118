theorem dX11_place_0 : decode cX11_place 0 = .ok (.aload_n 0, 1) := by decide +kernel
theorem k_4_94 : Jvm.Cond.fieldLink "FinderHouse" (13 : Nat) "FinderHouse" "faultPlace" "I" ∈ tb := tb4 94 (by decide +kernel) (by decide +kernel)
theorem dX11_place_1 : decode cX11_place 1 = .ok (.getfield 13, 3) := by decide +kernel
theorem dX11_place_4 : decode cX11_place 4 = .ok (.ireturn, 1) := by decide +kernel
theorem dX11_mended_0 : decode cX11_mended 0 = .ok (.aload_n 0, 1) := by decide +kernel
theorem k_4_95 : Jvm.Cond.fieldLink "FinderHouse" (17 : Nat) "FinderHouse" "mendPlace" "I" ∈ tb := tb4 95 (by decide +kernel) (by decide +kernel)
theorem dX11_mended_1 : decode cX11_mended 1 = .ok (.getfield 17, 3) := by decide +kernel
theorem dX11_mended_4 : decode cX11_mended 4 = .ok (.ireturn, 1) := by decide +kernel
theorem dX11_worked_0 : decode cX11_worked 0 = .ok (.aload_n 0, 1) := by decide +kernel
theorem k_4_96 : Jvm.Cond.fieldLink "FinderHouse" (341 : Nat) "FinderHouse" "workedActs" "I" ∈ tb := tb4 96 (by decide +kernel) (by decide +kernel)
theorem dX11_worked_1 : decode cX11_worked 1 = .ok (.getfield 341, 3) := by decide +kernel
theorem dX11_worked_4 : decode cX11_worked 4 = .ok (.ireturn, 1) := by decide +kernel
theorem dX11_refusePrice_0 : decode cX11_refusePrice 0 = .ok (.aload_n 0, 1) := by decide +kernel
theorem k_4_93 : Jvm.Cond.fieldLink "FinderHouse" (107 : Nat) "FinderHouse" "down" "Z" ∈ tb := tb4 93 (by decide +kernel) (by decide +kernel)
theorem dX11_refusePrice_1 : decode cX11_refusePrice 1 = .ok (.getfield 107, 3) := by decide +kernel
theorem dX11_refusePrice_4 : decode cX11_refusePrice 4 = .ok (.ifCond .eq 6, 3) := by decide +kernel
theorem dX11_refusePrice_10 : decode cX11_refusePrice 10 = .ok (.iload_n 1, 1) := by decide +kernel
theorem dX11_refusePrice_11 : decode cX11_refusePrice 11 = .ok (.iconst 1, 1) := by decide +kernel
theorem dX11_refusePrice_12 : decode cX11_refusePrice 12 = .ok (.if_icmp .lt 9, 3) := by decide +kernel
theorem dX11_refusePrice_21 : decode cX11_refusePrice 21 = .ok (.iconst (-1), 1) := by decide +kernel
theorem dX11_refusePrice_22 : decode cX11_refusePrice 22 = .ok (.ireturn, 1) := by decide +kernel
theorem dX11_refusePrice_15 : decode cX11_refusePrice 15 = .ok (.iload_n 1, 1) := by decide +kernel
theorem dX11_refusePrice_16 : decode cX11_refusePrice 16 = .ok (.bipush 12, 2) := by decide +kernel
theorem dX11_refusePrice_18 : decode cX11_refusePrice 18 = .ok (.if_icmp .le 5, 3) := by decide +kernel
theorem dX11_refusePrice_23 : decode cX11_refusePrice 23 = .ok (.aload_n 0, 1) := by decide +kernel
theorem k_4_102 : Jvm.Cond.fieldLink "FinderHouse" (136 : Nat) "FinderHouse" "hasAsk" "Z" ∈ tb := tb4 102 (by decide +kernel) (by decide +kernel)
theorem dX11_refusePrice_24 : decode cX11_refusePrice 24 = .ok (.getfield 136, 3) := by decide +kernel
theorem dX11_refusePrice_27 : decode cX11_refusePrice 27 = .ok (.ifCond .ne 6, 3) := by decide +kernel
theorem dX11_refusePrice_30 : decode cX11_refusePrice 30 = .ok (.bipush (-2), 2) := by decide +kernel
theorem dX11_refusePrice_32 : decode cX11_refusePrice 32 = .ok (.ireturn, 1) := by decide +kernel
theorem dX11_find_0 : decode cX11_find 0 = .ok (.aload_n 0, 1) := by decide +kernel
theorem dX11_find_1 : decode cX11_find 1 = .ok (.iload_n 1, 1) := by decide +kernel
theorem k_5_231 : Jvm.Cond.code ({ cls := "FinderHouse", name := "refusePrice", desc := "(I)I" } : Jvm.MethodName) prog_1_method_13_code (2 : Nat) (Option.some Jvm.ClassFile.FieldType.int) ∈ tb := tb5 231 (by decide +kernel) (by decide +kernel)
theorem k_5_228 : Jvm.Cond.methodLink "FinderHouse" (220 : Nat) ({ cls := "FinderHouse", name := "refusePrice", desc := "(I)I" } : Jvm.MethodName) ∈ tb := tb5 228 (by decide +kernel) (by decide +kernel)
theorem k_5_230 : Jvm.Cond.instanceMethod ({ cls := "FinderHouse", name := "refusePrice", desc := "(I)I" } : Jvm.MethodName) ∈ tb := tb5 230 (by decide +kernel) (by decide +kernel)
theorem ks_38 : Jvm.Cond.selects "FinderHouse" ({ cls := "FinderHouse", name := "refusePrice", desc := "(I)I" } : Jvm.MethodName) ({ cls := "FinderHouse", name := "refusePrice", desc := "(I)I" } : Jvm.MethodName) ∈ tb := tbp 38 (by decide +kernel) (by decide +kernel)
theorem k_1_1 : Jvm.Cond.initialized "FinderHouse" ∈ tb := tb1 1 (by decide +kernel) (by decide +kernel)
theorem dX11_find_2 : decode cX11_find 2 = .ok (.invokevirtual 220, 3) := by decide +kernel
theorem dX11_find_5 : decode cX11_find 5 = .ok (.istore_n 2, 1) := by decide +kernel
theorem dX11_find_6 : decode cX11_find 6 = .ok (.iload_n 2, 1) := by decide +kernel
theorem dX11_find_7 : decode cX11_find 7 = .ok (.ifCond .eq 5, 3) := by decide +kernel
theorem dX11_find_10 : decode cX11_find 10 = .ok (.iload_n 2, 1) := by decide +kernel
theorem dX11_find_11 : decode cX11_find 11 = .ok (.ireturn, 1) := by decide +kernel
theorem dX11_different_0 : decode cX11_different 0 = .ok (.aload_n 0, 1) := by decide +kernel
theorem dX11_different_1 : decode cX11_different 1 = .ok (.iload_n 1, 1) := by decide +kernel
theorem dX11_different_2 : decode cX11_different 2 = .ok (.invokevirtual 220, 3) := by decide +kernel
theorem dX11_different_5 : decode cX11_different 5 = .ok (.istore_n 2, 1) := by decide +kernel
theorem dX11_different_6 : decode cX11_different 6 = .ok (.iload_n 2, 1) := by decide +kernel
theorem dX11_different_7 : decode cX11_different 7 = .ok (.ifCond .eq 7, 3) := by decide +kernel
theorem dX11_different_10 : decode cX11_different 10 = .ok (.iload_n 2, 1) := by decide +kernel
theorem dX11_different_11 : decode cX11_different 11 = .ok (.goto 11, 3) := by decide +kernel
theorem dX11_different_22 : decode cX11_different 22 = .ok (.ireturn, 1) := by decide +kernel
theorem dX11_question_0 : decode cX11_question 0 = .ok (.aload_n 0, 1) := by decide +kernel
theorem dX11_question_1 : decode cX11_question 1 = .ok (.iload_n 1, 1) := by decide +kernel
theorem dX11_question_2 : decode cX11_question 2 = .ok (.invokevirtual 220, 3) := by decide +kernel
theorem dX11_question_5 : decode cX11_question 5 = .ok (.istore_n 2, 1) := by decide +kernel
theorem dX11_question_6 : decode cX11_question 6 = .ok (.iload_n 2, 1) := by decide +kernel
theorem dX11_question_7 : decode cX11_question 7 = .ok (.ifCond .eq 7, 3) := by decide +kernel
theorem dX11_question_10 : decode cX11_question 10 = .ok (.iload_n 2, 1) := by decide +kernel
theorem dX11_question_11 : decode cX11_question 11 = .ok (.goto 11, 3) := by decide +kernel
theorem dX11_question_22 : decode cX11_question 22 = .ok (.ireturn, 1) := by decide +kernel
theorem dX11_count_0 : decode cX11_count 0 = .ok (.aload_n 0, 1) := by decide +kernel
theorem dX11_count_1 : decode cX11_count 1 = .ok (.iload_n 1, 1) := by decide +kernel
theorem dX11_count_2 : decode cX11_count 2 = .ok (.invokevirtual 220, 3) := by decide +kernel
theorem dX11_count_5 : decode cX11_count 5 = .ok (.istore_n 2, 1) := by decide +kernel
theorem dX11_count_6 : decode cX11_count 6 = .ok (.iload_n 2, 1) := by decide +kernel
theorem dX11_count_7 : decode cX11_count 7 = .ok (.ifCond .eq 8, 3) := by decide +kernel
theorem dX11_count_10 : decode cX11_count 10 = .ok (.iload_n 2, 1) := by decide +kernel
theorem dX11_count_11 : decode cX11_count 11 = .ok (.i2l, 1) := by decide +kernel
theorem dX11_count_12 : decode cX11_count 12 = .ok (.goto 11, 3) := by decide +kernel
theorem dX11_count_23 : decode cX11_count 23 = .ok (.lreturn, 1) := by decide +kernel
theorem dX11_ith_0 : decode cX11_ith 0 = .ok (.aload_n 0, 1) := by decide +kernel
theorem dX11_ith_1 : decode cX11_ith 1 = .ok (.iload_n 1, 1) := by decide +kernel
theorem dX11_ith_2 : decode cX11_ith 2 = .ok (.invokevirtual 220, 3) := by decide +kernel
theorem dX11_ith_5 : decode cX11_ith 5 = .ok (.istore 4, 2) := by decide +kernel
theorem dX11_ith_7 : decode cX11_ith 7 = .ok (.iload 4, 2) := by decide +kernel
theorem dX11_ith_9 : decode cX11_ith 9 = .ok (.ifCond .eq 6, 3) := by decide +kernel
theorem dX11_ith_12 : decode cX11_ith 12 = .ok (.iload 4, 2) := by decide +kernel
theorem dX11_ith_14 : decode cX11_ith 14 = .ok (.ireturn, 1) := by decide +kernel
theorem dX11_toldOfAsk_0 : decode cX11_toldOfAsk 0 = .ok (.iload_n 1, 1) := by decide +kernel
theorem dX11_toldOfAsk_1 : decode cX11_toldOfAsk 1 = .ok (.bipush 8, 2) := by decide +kernel
theorem dX11_toldOfAsk_3 : decode cX11_toldOfAsk 3 = .ok (.if_icmp .lt 9, 3) := by decide +kernel
theorem dX11_toldOfAsk_12 : decode cX11_toldOfAsk 12 = .ok (.iconst (-1), 1) := by decide +kernel
theorem dX11_toldOfAsk_13 : decode cX11_toldOfAsk 13 = .ok (.ireturn, 1) := by decide +kernel
theorem dX11_toldOfAsk_6 : decode cX11_toldOfAsk 6 = .ok (.iload_n 1, 1) := by decide +kernel
theorem dX11_toldOfAsk_7 : decode cX11_toldOfAsk 7 = .ok (.bipush 12, 2) := by decide +kernel
theorem dX11_toldOfAsk_9 : decode cX11_toldOfAsk 9 = .ok (.if_icmp .le 5, 3) := by decide +kernel
theorem dX11_toldOfAsk_14 : decode cX11_toldOfAsk 14 = .ok (.aload_n 0, 1) := by decide +kernel
theorem dX11_toldOfAsk_15 : decode cX11_toldOfAsk 15 = .ok (.getfield 136, 3) := by decide +kernel
theorem dX11_toldOfAsk_18 : decode cX11_toldOfAsk 18 = .ok (.ifCond .ne 6, 3) := by decide +kernel
theorem dX11_toldOfAsk_21 : decode cX11_toldOfAsk 21 = .ok (.bipush (-2), 2) := by decide +kernel
theorem dX11_toldOfAsk_23 : decode cX11_toldOfAsk 23 = .ok (.ireturn, 1) := by decide +kernel
theorem dX11_told_0 : decode cX11_told 0 = .ok (.aload_n 0, 1) := by decide +kernel
theorem dX11_told_1 : decode cX11_told 1 = .ok (.getfield 107, 3) := by decide +kernel
theorem dX11_told_4 : decode cX11_told 4 = .ok (.ifCond .eq 6, 3) := by decide +kernel
theorem dX11_told_10 : decode cX11_told 10 = .ok (.iload_n 1, 1) := by decide +kernel
theorem dX11_told_11 : decode cX11_told 11 = .ok (.tableswitch 106 0 7 #[45, 53, 61, 69, 77, 85, 93, 101], 45) := by decide +kernel
theorem dX11_told_56 : decode cX11_told 56 = .ok (.aload_n 0, 1) := by decide +kernel
theorem k_4_98 : Jvm.Cond.fieldLink "FinderHouse" (23 : Nat) "FinderHouse" "acts" "LFinderHouse$Acts;" ∈ tb := tb4 98 (by decide +kernel) (by decide +kernel)
theorem dX11_told_57 : decode cX11_told 57 = .ok (.getfield 23, 3) := by decide +kernel
theorem k_1_158 : Jvm.Cond.fieldLink "FinderHouse" (111 : Nat) "FinderHouse$Acts" "owned" "I" ∈ tb := tb1 158 (by decide +kernel) (by decide +kernel)
theorem dX11_told_60 : decode cX11_told 60 = .ok (.getfield 111, 3) := by decide +kernel
theorem dX11_told_63 : decode cX11_told 63 = .ok (.ireturn, 1) := by decide +kernel
theorem dX11_told_64 : decode cX11_told 64 = .ok (.aload_n 0, 1) := by decide +kernel
theorem k_4_104 : Jvm.Cond.fieldLink "FinderHouse" (56 : Nat) "FinderHouse" "shelf" "LFinderHouse$Shelf;" ∈ tb := tb4 104 (by decide +kernel) (by decide +kernel)
theorem dX11_told_65 : decode cX11_told 65 = .ok (.getfield 56, 3) := by decide +kernel
theorem k_3_40 : Jvm.Cond.fieldLink "FinderHouse" (114 : Nat) "FinderHouse$Shelf" "keptCount" "I" ∈ tb := tb3 40 (by decide +kernel) (by decide +kernel)
theorem dX11_told_68 : decode cX11_told 68 = .ok (.getfield 114, 3) := by decide +kernel
theorem dX11_told_71 : decode cX11_told 71 = .ok (.ireturn, 1) := by decide +kernel
theorem dX11_told_72 : decode cX11_told 72 = .ok (.aload_n 0, 1) := by decide +kernel
theorem k_4_106 : Jvm.Cond.fieldLink "FinderHouse" (70 : Nat) "FinderHouse" "wordRows" "LFinderHouse$WordRows;" ∈ tb := tb4 106 (by decide +kernel) (by decide +kernel)
theorem dX11_told_73 : decode cX11_told 73 = .ok (.getfield 70, 3) := by decide +kernel
theorem k_3_176 : Jvm.Cond.fieldLink "FinderHouse" (117 : Nat) "FinderHouse$WordRows" "rows" "I" ∈ tb := tb3 176 (by decide +kernel) (by decide +kernel)
theorem dX11_told_76 : decode cX11_told 76 = .ok (.getfield 117, 3) := by decide +kernel
theorem dX11_told_79 : decode cX11_told 79 = .ok (.ireturn, 1) := by decide +kernel
theorem dX11_told_80 : decode cX11_told 80 = .ok (.aload_n 0, 1) := by decide +kernel
theorem k_4_107 : Jvm.Cond.fieldLink "FinderHouse" (77 : Nat) "FinderHouse" "machines" "LFinderHouse$Machines;" ∈ tb := tb4 107 (by decide +kernel) (by decide +kernel)
theorem dX11_told_81 : decode cX11_told 81 = .ok (.getfield 77, 3) := by decide +kernel
theorem k_4_8 : Jvm.Cond.fieldLink "FinderHouse" (120 : Nat) "FinderHouse$Machines" "words" "I" ∈ tb := tb4 8 (by decide +kernel) (by decide +kernel)
theorem dX11_told_84 : decode cX11_told 84 = .ok (.getfield 120, 3) := by decide +kernel
theorem dX11_told_87 : decode cX11_told 87 = .ok (.ireturn, 1) := by decide +kernel
theorem dX11_told_88 : decode cX11_told 88 = .ok (.aload_n 0, 1) := by decide +kernel
theorem k_4_108 : Jvm.Cond.fieldLink "FinderHouse" (84 : Nat) "FinderHouse" "disk" "LFinderHouse$Disk;" ∈ tb := tb4 108 (by decide +kernel) (by decide +kernel)
theorem dX11_told_89 : decode cX11_told 89 = .ok (.getfield 84, 3) := by decide +kernel
theorem k_4_69 : Jvm.Cond.fieldLink "FinderHouse" (123 : Nat) "FinderHouse$Disk" "waiting" "I" ∈ tb := tb4 69 (by decide +kernel) (by decide +kernel)
theorem dX11_told_92 : decode cX11_told 92 = .ok (.getfield 123, 3) := by decide +kernel
theorem dX11_told_95 : decode cX11_told 95 = .ok (.ireturn, 1) := by decide +kernel
theorem dX11_told_96 : decode cX11_told 96 = .ok (.aload_n 0, 1) := by decide +kernel
theorem dX11_told_97 : decode cX11_told 97 = .ok (.getfield 84, 3) := by decide +kernel
theorem k_4_71 : Jvm.Cond.fieldLink "FinderHouse" (126 : Nat) "FinderHouse$Disk" "waitingBytes" "I" ∈ tb := tb4 71 (by decide +kernel) (by decide +kernel)
theorem dX11_told_100 : decode cX11_told 100 = .ok (.getfield 126, 3) := by decide +kernel
theorem dX11_told_103 : decode cX11_told 103 = .ok (.ireturn, 1) := by decide +kernel
theorem dX11_told_104 : decode cX11_told 104 = .ok (.aload_n 0, 1) := by decide +kernel
theorem dX11_told_105 : decode cX11_told 105 = .ok (.getfield 84, 3) := by decide +kernel
theorem k_4_65 : Jvm.Cond.fieldLink "FinderHouse" (129 : Nat) "FinderHouse$Disk" "used" "I" ∈ tb := tb4 65 (by decide +kernel) (by decide +kernel)
theorem dX11_told_108 : decode cX11_told 108 = .ok (.getfield 129, 3) := by decide +kernel
theorem dX11_told_111 : decode cX11_told 111 = .ok (.ireturn, 1) := by decide +kernel
theorem dX11_told_112 : decode cX11_told 112 = .ok (.aload_n 0, 1) := by decide +kernel
theorem k_4_92 : Jvm.Cond.fieldLink "FinderHouse" (88 : Nat) "FinderHouse" "tapeSize" "I" ∈ tb := tb4 92 (by decide +kernel) (by decide +kernel)
theorem dX11_told_113 : decode cX11_told 113 = .ok (.getfield 88, 3) := by decide +kernel
theorem dX11_told_116 : decode cX11_told 116 = .ok (.ireturn, 1) := by decide +kernel
theorem dX11_told_117 : decode cX11_told 117 = .ok (.aload_n 0, 1) := by decide +kernel
theorem dX11_told_118 : decode cX11_told 118 = .ok (.iload_n 1, 1) := by decide +kernel
theorem k_4_153 : Jvm.Cond.code ({ cls := "FinderHouse", name := "toldOfAsk", desc := "(I)I" } : Jvm.MethodName) prog_1_method_7_code (2 : Nat) (Option.some Jvm.ClassFile.FieldType.int) ∈ tb := tb4 153 (by decide +kernel) (by decide +kernel)
theorem k_4_150 : Jvm.Cond.methodLink "FinderHouse" (132 : Nat) ({ cls := "FinderHouse", name := "toldOfAsk", desc := "(I)I" } : Jvm.MethodName) ∈ tb := tb4 150 (by decide +kernel) (by decide +kernel)
theorem k_4_152 : Jvm.Cond.instanceMethod ({ cls := "FinderHouse", name := "toldOfAsk", desc := "(I)I" } : Jvm.MethodName) ∈ tb := tb4 152 (by decide +kernel) (by decide +kernel)
theorem ks_0 : Jvm.Cond.selects "FinderHouse" ({ cls := "FinderHouse", name := "toldOfAsk", desc := "(I)I" } : Jvm.MethodName) ({ cls := "FinderHouse", name := "toldOfAsk", desc := "(I)I" } : Jvm.MethodName) ∈ tb := tbp 0 (by decide +kernel) (by decide +kernel)
theorem dX11_told_119 : decode cX11_told 119 = .ok (.invokevirtual 132, 3) := by decide +kernel
theorem dX11_told_122 : decode cX11_told 122 = .ok (.ireturn, 1) := by decide +kernel
/-- what a price is answered with where there is no ask -/
def sp_price (p : Int32) : Int32 := if p < 1 then -1 else if p ≤ 12 then -2 else -1
theorem sp_price_ne (p : Int32) : ¬ sp_price p = 0 := by unfold sp_price; split <;> (try split) <;> decide
def sp_told (w : Int32) : Int32 := if w = 0 then 0 else if w = 1 then 0 else if w = 2 then 0 else if w = 3 then 0 else if w = 4 then 0 else if w = 5 then 0 else if w = 6 then 0 else if w = 7 then 0 else if w < 8 then -1 else if w ≤ 12 then -2 else -1
set_option maxHeartbeats 4000000 in
set_option maxRecDepth 100000 in
theorem x_place (l : Launch) (dC : Nat → ClassId) (dI : Nat → Nat → Nat) (sz : Nat) (q : Nat) (fs : List Value) (L_fs : fs.length = 18) (K3_fs : fs[3]? = some (.int (-1))) : Met l yX11_place (Cond.code yX11_place cX11_place 1 (some .int) :: tb) ({ frames := 0, cells := 0, slots := 0, locals := 0 }) (pcw [.ref q] (dC, dI) [(q, .inr (11, fs))] [] sz) (va_Qi (fun (r : Int32) => (fun (_ : Unit) => r = (-1))) (bw (dC, dI) (va_A [(q, .inr (11, fs))] sz) (fun (_ : Unit) => []) (fun (_ : Unit) => [])) (va_A [(q, .inr (11, fs))] sz)) 0 0 (va_A [(q, .inr (11, fs))] sz) := by
  refine Met.ofW (cc := cX11_place) (maxL := 1) (ret := (some .int)) (by decide) rfl ?_
  intro p e s m args below meth c s₁ B hml hv
  obtain ⟨rfl, hsz, hP, hK, hD0⟩ := hv
  have hx := B.exec
  have hb := B.bytes
  have hr := B.returns
  have hts := atoms_spec (ws := Cond.code yX11_place cX11_place 1 (some .int) :: tb) B.pre
  have ht : ∀ w ∈ tb, w.before _ s = true := fun w h => hts w (List.mem_cons_of_mem _ h)
  have hown : s.vm.findClass RX11 = some m.cls := findClass_of_methodNamed B.named
  have hlocks := B.notSynchronized
  subst hsz
  have hD := hD0.self (sz := s.heap.size)
  generalize hAe : va_A [(q, .inr (11, fs))] s.heap.size = A at hD ⊢
  have hA : ∀ q : Nat, s.heap.size ≤ q → A q := fun q h => by rw [← hAe]; exact Or.inr h
  have hS : va_S A s.heap s.heap [] := va_S.rf
  have hl := lv_entry ([.ref q]) (n := 1) (Nat.le_of_ble_eq_true rfl)
  rw [lg_entry_eq]
  generalize (lg_sl ([.ref q]) ++ List.replicate (1 - (lg_sl ([.ref q])).length) Slot.unset).toArray = ls at hl ⊢
  have hl : lv_has ls 1 [(0, .ref q)] := hl
  have hP : va_P (dC, dI) cls [(q, .inr (11, fs))] s.heap := hP
  refine lv_aload_n hx hb dX11_place_0 rfl (lv_at hl 0 rfl) ?_
  refine va_get (D := (dC, dI)) (ci := 11) (v := .int (-1)) (C := RX11) (T := TX11) (N := 18) hx hb ht uX11 hown hK hP 0 rfl rfl 3 (by decide) (ht _ k_4_94) (fun _ h9 => h9) K3_fs dX11_place_1 ?_
  exact W.iret (v := (-1)) hx hb hr (fun t ht9 hW => ⟨⟨(-1), (), rfl, rfl, by rw [ht9]; exact hP.sub [] rfl, va_K.moved hW.alike (hK.sub [] rfl), hD.sub [] (by decide) rfl⟩, hS.F ht9⟩) hS.2.2 dX11_place_4
set_option maxHeartbeats 4000000 in
set_option maxRecDepth 100000 in
theorem x_mended (l : Launch) (dC : Nat → ClassId) (dI : Nat → Nat → Nat) (sz : Nat) (q : Nat) (fs : List Value) (L_fs : fs.length = 18) (K4_fs : fs[4]? = some (.int (-1))) : Met l yX11_mended (Cond.code yX11_mended cX11_mended 1 (some .int) :: tb) ({ frames := 0, cells := 0, slots := 0, locals := 0 }) (pcw [.ref q] (dC, dI) [(q, .inr (11, fs))] [] sz) (va_Qi (fun (r : Int32) => (fun (_ : Unit) => r = (-1))) (bw (dC, dI) (va_A [(q, .inr (11, fs))] sz) (fun (_ : Unit) => []) (fun (_ : Unit) => [])) (va_A [(q, .inr (11, fs))] sz)) 0 0 (va_A [(q, .inr (11, fs))] sz) := by
  refine Met.ofW (cc := cX11_mended) (maxL := 1) (ret := (some .int)) (by decide) rfl ?_
  intro p e s m args below meth c s₁ B hml hv
  obtain ⟨rfl, hsz, hP, hK, hD0⟩ := hv
  have hx := B.exec
  have hb := B.bytes
  have hr := B.returns
  have hts := atoms_spec (ws := Cond.code yX11_mended cX11_mended 1 (some .int) :: tb) B.pre
  have ht : ∀ w ∈ tb, w.before _ s = true := fun w h => hts w (List.mem_cons_of_mem _ h)
  have hown : s.vm.findClass RX11 = some m.cls := findClass_of_methodNamed B.named
  have hlocks := B.notSynchronized
  subst hsz
  have hD := hD0.self (sz := s.heap.size)
  generalize hAe : va_A [(q, .inr (11, fs))] s.heap.size = A at hD ⊢
  have hA : ∀ q : Nat, s.heap.size ≤ q → A q := fun q h => by rw [← hAe]; exact Or.inr h
  have hS : va_S A s.heap s.heap [] := va_S.rf
  have hl := lv_entry ([.ref q]) (n := 1) (Nat.le_of_ble_eq_true rfl)
  rw [lg_entry_eq]
  generalize (lg_sl ([.ref q]) ++ List.replicate (1 - (lg_sl ([.ref q])).length) Slot.unset).toArray = ls at hl ⊢
  have hl : lv_has ls 1 [(0, .ref q)] := hl
  have hP : va_P (dC, dI) cls [(q, .inr (11, fs))] s.heap := hP
  refine lv_aload_n hx hb dX11_mended_0 rfl (lv_at hl 0 rfl) ?_
  refine va_get (D := (dC, dI)) (ci := 11) (v := .int (-1)) (C := RX11) (T := TX11) (N := 18) hx hb ht uX11 hown hK hP 0 rfl rfl 4 (by decide) (ht _ k_4_95) (fun _ h9 => h9) K4_fs dX11_mended_1 ?_
  exact W.iret (v := (-1)) hx hb hr (fun t ht9 hW => ⟨⟨(-1), (), rfl, rfl, by rw [ht9]; exact hP.sub [] rfl, va_K.moved hW.alike (hK.sub [] rfl), hD.sub [] (by decide) rfl⟩, hS.F ht9⟩) hS.2.2 dX11_mended_4
set_option maxHeartbeats 4000000 in
set_option maxRecDepth 100000 in
theorem x_worked (l : Launch) (dC : Nat → ClassId) (dI : Nat → Nat → Nat) (sz : Nat) (q : Nat) (fs : List Value) (L_fs : fs.length = 18) (K5_fs : fs[5]? = some (.int 0)) : Met l yX11_worked (Cond.code yX11_worked cX11_worked 1 (some .int) :: tb) ({ frames := 0, cells := 0, slots := 0, locals := 0 }) (pcw [.ref q] (dC, dI) [(q, .inr (11, fs))] [] sz) (va_Qi (fun (r : Int32) => (fun (_ : Unit) => r = 0)) (bw (dC, dI) (va_A [(q, .inr (11, fs))] sz) (fun (_ : Unit) => []) (fun (_ : Unit) => [])) (va_A [(q, .inr (11, fs))] sz)) 0 0 (va_A [(q, .inr (11, fs))] sz) := by
  refine Met.ofW (cc := cX11_worked) (maxL := 1) (ret := (some .int)) (by decide) rfl ?_
  intro p e s m args below meth c s₁ B hml hv
  obtain ⟨rfl, hsz, hP, hK, hD0⟩ := hv
  have hx := B.exec
  have hb := B.bytes
  have hr := B.returns
  have hts := atoms_spec (ws := Cond.code yX11_worked cX11_worked 1 (some .int) :: tb) B.pre
  have ht : ∀ w ∈ tb, w.before _ s = true := fun w h => hts w (List.mem_cons_of_mem _ h)
  have hown : s.vm.findClass RX11 = some m.cls := findClass_of_methodNamed B.named
  have hlocks := B.notSynchronized
  subst hsz
  have hD := hD0.self (sz := s.heap.size)
  generalize hAe : va_A [(q, .inr (11, fs))] s.heap.size = A at hD ⊢
  have hA : ∀ q : Nat, s.heap.size ≤ q → A q := fun q h => by rw [← hAe]; exact Or.inr h
  have hS : va_S A s.heap s.heap [] := va_S.rf
  have hl := lv_entry ([.ref q]) (n := 1) (Nat.le_of_ble_eq_true rfl)
  rw [lg_entry_eq]
  generalize (lg_sl ([.ref q]) ++ List.replicate (1 - (lg_sl ([.ref q])).length) Slot.unset).toArray = ls at hl ⊢
  have hl : lv_has ls 1 [(0, .ref q)] := hl
  have hP : va_P (dC, dI) cls [(q, .inr (11, fs))] s.heap := hP
  refine lv_aload_n hx hb dX11_worked_0 rfl (lv_at hl 0 rfl) ?_
  refine va_get (D := (dC, dI)) (ci := 11) (v := .int 0) (C := RX11) (T := TX11) (N := 18) hx hb ht uX11 hown hK hP 0 rfl rfl 5 (by decide) (ht _ k_4_96) (fun _ h9 => h9) K5_fs dX11_worked_1 ?_
  exact W.iret (v := 0) hx hb hr (fun t ht9 hW => ⟨⟨0, (), rfl, rfl, by rw [ht9]; exact hP.sub [] rfl, va_K.moved hW.alike (hK.sub [] rfl), hD.sub [] (by decide) rfl⟩, hS.F ht9⟩) hS.2.2 dX11_worked_4
set_option maxHeartbeats 4000000 in
set_option maxRecDepth 100000 in
theorem x_refusePrice (l : Launch) (dC : Nat → ClassId) (dI : Nat → Nat → Nat) (sz : Nat) (q : Nat) (fs : List Value) (p0 : Int32) (L_fs : fs.length = 18) (K2_fs : fs[2]? = some (.int 0)) (K11_fs : fs[11]? = some (.int 0)) : Met l yX11_refusePrice (Cond.code yX11_refusePrice cX11_refusePrice 2 (some .int) :: tb) ({ frames := 0, cells := 0, slots := 0, locals := 0 }) (pcw [.ref q, .int p0] (dC, dI) [(q, .inr (11, fs))] [] sz) (va_Qi (fun (r : Int32) => (fun (_ : Unit) => r = sp_price p0)) (bw (dC, dI) (va_A [(q, .inr (11, fs))] sz) (fun (_ : Unit) => []) (fun (_ : Unit) => [])) (va_A [(q, .inr (11, fs))] sz)) 0 0 (va_A [(q, .inr (11, fs))] sz) := by
  refine Met.ofW (cc := cX11_refusePrice) (maxL := 2) (ret := (some .int)) (by decide) rfl ?_
  intro p e s m args below meth c s₁ B hml hv
  obtain ⟨rfl, hsz, hP, hK, hD0⟩ := hv
  have hx := B.exec
  have hb := B.bytes
  have hr := B.returns
  have hts := atoms_spec (ws := Cond.code yX11_refusePrice cX11_refusePrice 2 (some .int) :: tb) B.pre
  have ht : ∀ w ∈ tb, w.before _ s = true := fun w h => hts w (List.mem_cons_of_mem _ h)
  have hown : s.vm.findClass RX11 = some m.cls := findClass_of_methodNamed B.named
  have hlocks := B.notSynchronized
  subst hsz
  have hD := hD0.self (sz := s.heap.size)
  generalize hAe : va_A [(q, .inr (11, fs))] s.heap.size = A at hD ⊢
  have hA : ∀ q : Nat, s.heap.size ≤ q → A q := fun q h => by rw [← hAe]; exact Or.inr h
  have hS : va_S A s.heap s.heap [] := va_S.rf
  have hl := lv_entry ([.ref q, .int p0]) (n := 2) (Nat.le_of_ble_eq_true rfl)
  rw [lg_entry_eq]
  generalize (lg_sl ([.ref q, .int p0]) ++ List.replicate (2 - (lg_sl ([.ref q, .int p0])).length) Slot.unset).toArray = ls at hl ⊢
  have hl : lv_has ls 2 [(0, .ref q), (1, .int p0)] := hl
  have hP : va_P (dC, dI) cls [(q, .inr (11, fs))] s.heap := hP
  refine lv_aload_n hx hb dX11_refusePrice_0 rfl (lv_at hl 0 rfl) ?_
  refine va_get (D := (dC, dI)) (ci := 11) (v := .int 0) (C := RX11) (T := TX11) (N := 18) hx hb ht uX11 hown hK hP 0 rfl rfl 2 (by decide) (ht _ k_4_93) (fun _ h9 => h9) K2_fs dX11_refusePrice_1 ?_
  refine lv_if_eq (tgt := 10) hx hb dX11_refusePrice_4 (by decide) (fun _ => ?_) (fun c0 => absurd c0 (by decide))
  refine lv_iload_n hx hb dX11_refusePrice_10 rfl (lv_at hl 1 rfl) ?_
  refine lv_iconst (v := 1) hx hb dX11_refusePrice_11 (by decide) ?_
  refine lv_icmp_lt (tgt := 21) hx hb dX11_refusePrice_12 (by decide) (fun b1 => ?_) (fun b1 => ?_)
  · refine lv_iconst (v := (-1)) hx hb dX11_refusePrice_21 (by decide) ?_
    exact W.iret (v := (-1)) hx hb hr (fun t ht9 hW => ⟨⟨(-1), (), rfl, (by simp [sp_price, b1]), by rw [ht9]; exact hP.sub [] rfl, va_K.moved hW.alike (hK.sub [] rfl), hD.sub [] (by decide) rfl⟩, hS.F ht9⟩) hS.2.2 dX11_refusePrice_22
  · refine lv_iload_n hx hb dX11_refusePrice_15 rfl (lv_at hl 1 rfl) ?_
    refine lv_bipush (v := 12) hx hb dX11_refusePrice_16 (by decide) ?_
    refine lv_icmp_le (tgt := 23) hx hb dX11_refusePrice_18 (by decide) (fun b2 => ?_) (fun b2 => ?_)
    · refine lv_aload_n hx hb dX11_refusePrice_23 rfl (lv_at hl 0 rfl) ?_
      refine va_get (D := (dC, dI)) (ci := 11) (v := .int 0) (C := RX11) (T := TX11) (N := 18) hx hb ht uX11 hown hK hP 0 rfl rfl 11 (by decide) (ht _ k_4_102) (fun _ h9 => h9) K11_fs dX11_refusePrice_24 ?_
      refine lv_if_ne (tgt := 33) hx hb dX11_refusePrice_27 (by decide) (fun c0 => absurd c0 (by decide)) (fun _ => ?_)
      refine lv_bipush (v := (-2)) hx hb dX11_refusePrice_30 (by decide) ?_
      exact W.iret (v := (-2)) hx hb hr (fun t ht9 hW => ⟨⟨(-2), (), rfl, (by simp [sp_price, b1, b2]), by rw [ht9]; exact hP.sub [] rfl, va_K.moved hW.alike (hK.sub [] rfl), hD.sub [] (by decide) rfl⟩, hS.F ht9⟩) hS.2.2 dX11_refusePrice_32
    · refine lv_iconst (v := (-1)) hx hb dX11_refusePrice_21 (by decide) ?_
      exact W.iret (v := (-1)) hx hb hr (fun t ht9 hW => ⟨⟨(-1), (), rfl, (by simp [sp_price, b1, b2]), by rw [ht9]; exact hP.sub [] rfl, va_K.moved hW.alike (hK.sub [] rfl), hD.sub [] (by decide) rfl⟩, hS.F ht9⟩) hS.2.2 dX11_refusePrice_22
set_option maxHeartbeats 4000000 in
set_option maxRecDepth 100000 in
theorem x_find (l : Launch) (dC : Nat → ClassId) (dI : Nat → Nat → Nat) (sz : Nat) (q : Nat) (fs : List Value) (p0 : Int32) (L_fs : fs.length = 18) (K2_fs : fs[2]? = some (.int 0)) (K11_fs : fs[11]? = some (.int 0)) : Met l yX11_find (Cond.code yX11_find cX11_find 4 (some .int) :: tb) ({ frames := 1, cells := 0, slots := 0, locals := 21 }) (pcw [.ref q, .int p0] (dC, dI) [(q, .inr (11, fs))] [] sz) (va_Qi (fun (r : Int32) => (fun (_ : Unit) => r = sp_price p0)) (bw (dC, dI) (va_A [(q, .inr (11, fs))] sz) (fun (_ : Unit) => []) (fun (_ : Unit) => [])) (va_A [(q, .inr (11, fs))] sz)) 0 0 (va_A [(q, .inr (11, fs))] sz) := by
  refine Met.ofW (cc := cX11_find) (maxL := 4) (ret := (some .int)) (by decide) rfl ?_
  intro p e s m args below meth c s₁ B hml hv
  obtain ⟨rfl, hsz, hP, hK, hD0⟩ := hv
  have hx := B.exec
  have hb := B.bytes
  have hr := B.returns
  have hts := atoms_spec (ws := Cond.code yX11_find cX11_find 4 (some .int) :: tb) B.pre
  have ht : ∀ w ∈ tb, w.before _ s = true := fun w h => hts w (List.mem_cons_of_mem _ h)
  have hown : s.vm.findClass RX11 = some m.cls := findClass_of_methodNamed B.named
  have hlocks := B.notSynchronized
  subst hsz
  have hD := hD0.self (sz := s.heap.size)
  generalize hAe : va_A [(q, .inr (11, fs))] s.heap.size = A at hD ⊢
  have hA : ∀ q : Nat, s.heap.size ≤ q → A q := fun q h => by rw [← hAe]; exact Or.inr h
  have hS : va_S A s.heap s.heap [] := va_S.rf
  have hl := lv_entry ([.ref q, .int p0]) (n := 4) (Nat.le_of_ble_eq_true rfl)
  rw [lg_entry_eq]
  generalize (lg_sl ([.ref q, .int p0]) ++ List.replicate (4 - (lg_sl ([.ref q, .int p0])).length) Slot.unset).toArray = ls at hl ⊢
  have hl : lv_has ls 4 [(0, .ref q), (1, .int p0)] := hl
  have hP : va_P (dC, dI) cls [(q, .inr (11, fs))] s.heap := hP
  refine lv_aload_n hx hb dX11_find_0 rfl (lv_at hl 0 rfl) ?_
  refine lv_iload_n hx hb dX11_find_1 rfl (lv_at hl 1 rfl) ?_
  refine ca_i (wr := []) (va_runV (As := [.int p0]) (rest := []) ⟨hx, hb, hml, hown, ht⟩ (x_refusePrice l dC dI s.heap.size q fs p0 L_fs K2_fs K11_fs ) (cwV 1 ht (gdV k_5_231 k_5_228 k_5_230 ks_38 k_1_1) rfl rfl rfl (by decide +kernel) ⟨Nat.le_of_ble_eq_true rfl, Nat.le_of_ble_eq_true rfl⟩) ⟨pcw_blind, va_recv hK hP (ci := 11) (q0 := 0) rfl rfl, pcw_at hP hD hK [0] [] (by decide) rfl rfl rfl⟩ rfl rfl hl.1 rfl (lv_room (Nat.le_of_ble_eq_true rfl)) dX11_find_2 ⟨Nat.le_of_ble_eq_true rfl, Nat.le_of_ble_eq_true rfl⟩) hP hD hK hS hA [0] [] rfl rfl (by decide) (by decide) (fun r1 u H locs w2 hK hP hD hS => ?_)
  have hK : va_K (dC, dI) cls [] s := hK
  have hP : va_P (dC, dI) cls [] H := hP
  have hD : va_D A [] := hD
  refine lv_istore_n (lv' := [(2, .int r1), (0, .ref q), (1, .int p0)]) hx hb dX11_find_5 rfl hl (by decide) rfl (fun ls hl => ?_)
  refine lv_iload_n hx hb dX11_find_6 rfl (lv_at hl 0 rfl) ?_
  refine lv_if_eq (tgt := 12) hx hb dX11_find_7 (by decide) (fun c0 => absurd c0 ((fun h => sp_price_ne _ (w2.symm.trans h)))) (fun _ => ?_)
  refine lv_iload_n hx hb dX11_find_10 rfl (lv_at hl 0 rfl) ?_
  exact W.iret (v := r1) hx hb hr (fun t ht9 hW => ⟨⟨r1, (), rfl, w2, by rw [ht9]; exact hP.sub [] rfl, va_K.moved hW.alike (hK.sub [] rfl), hD.sub [] (by decide) rfl⟩, hS.F ht9⟩) hS.2.2 dX11_find_11
set_option maxHeartbeats 4000000 in
set_option maxRecDepth 100000 in
theorem x_different (l : Launch) (dC : Nat → ClassId) (dI : Nat → Nat → Nat) (sz : Nat) (q : Nat) (fs : List Value) (p0 : Int32) (L_fs : fs.length = 18) (K2_fs : fs[2]? = some (.int 0)) (K11_fs : fs[11]? = some (.int 0)) : Met l yX11_different (Cond.code yX11_different cX11_different 3 (some .int) :: tb) ({ frames := 1, cells := 0, slots := 0, locals := 21 }) (pcw [.ref q, .int p0] (dC, dI) [(q, .inr (11, fs))] [] sz) (va_Qi (fun (r : Int32) => (fun (_ : Unit) => r = sp_price p0)) (bw (dC, dI) (va_A [(q, .inr (11, fs))] sz) (fun (_ : Unit) => []) (fun (_ : Unit) => [])) (va_A [(q, .inr (11, fs))] sz)) 0 0 (va_A [(q, .inr (11, fs))] sz) := by
  refine Met.ofW (cc := cX11_different) (maxL := 3) (ret := (some .int)) (by decide) rfl ?_
  intro p e s m args below meth c s₁ B hml hv
  obtain ⟨rfl, hsz, hP, hK, hD0⟩ := hv
  have hx := B.exec
  have hb := B.bytes
  have hr := B.returns
  have hts := atoms_spec (ws := Cond.code yX11_different cX11_different 3 (some .int) :: tb) B.pre
  have ht : ∀ w ∈ tb, w.before _ s = true := fun w h => hts w (List.mem_cons_of_mem _ h)
  have hown : s.vm.findClass RX11 = some m.cls := findClass_of_methodNamed B.named
  have hlocks := B.notSynchronized
  subst hsz
  have hD := hD0.self (sz := s.heap.size)
  generalize hAe : va_A [(q, .inr (11, fs))] s.heap.size = A at hD ⊢
  have hA : ∀ q : Nat, s.heap.size ≤ q → A q := fun q h => by rw [← hAe]; exact Or.inr h
  have hS : va_S A s.heap s.heap [] := va_S.rf
  have hl := lv_entry ([.ref q, .int p0]) (n := 3) (Nat.le_of_ble_eq_true rfl)
  rw [lg_entry_eq]
  generalize (lg_sl ([.ref q, .int p0]) ++ List.replicate (3 - (lg_sl ([.ref q, .int p0])).length) Slot.unset).toArray = ls at hl ⊢
  have hl : lv_has ls 3 [(0, .ref q), (1, .int p0)] := hl
  have hP : va_P (dC, dI) cls [(q, .inr (11, fs))] s.heap := hP
  refine lv_aload_n hx hb dX11_different_0 rfl (lv_at hl 0 rfl) ?_
  refine lv_iload_n hx hb dX11_different_1 rfl (lv_at hl 1 rfl) ?_
  refine ca_i (wr := []) (va_runV (As := [.int p0]) (rest := []) ⟨hx, hb, hml, hown, ht⟩ (x_refusePrice l dC dI s.heap.size q fs p0 L_fs K2_fs K11_fs ) (cwV 1 ht (gdV k_5_231 k_5_228 k_5_230 ks_38 k_1_1) rfl rfl rfl (by decide +kernel) ⟨Nat.le_of_ble_eq_true rfl, Nat.le_of_ble_eq_true rfl⟩) ⟨pcw_blind, va_recv hK hP (ci := 11) (q0 := 0) rfl rfl, pcw_at hP hD hK [0] [] (by decide) rfl rfl rfl⟩ rfl rfl hl.1 rfl (lv_room (Nat.le_of_ble_eq_true rfl)) dX11_different_2 ⟨Nat.le_of_ble_eq_true rfl, Nat.le_of_ble_eq_true rfl⟩) hP hD hK hS hA [0] [] rfl rfl (by decide) (by decide) (fun r1 u H locs w2 hK hP hD hS => ?_)
  have hK : va_K (dC, dI) cls [] s := hK
  have hP : va_P (dC, dI) cls [] H := hP
  have hD : va_D A [] := hD
  refine lv_istore_n (lv' := [(2, .int r1), (0, .ref q), (1, .int p0)]) hx hb dX11_different_5 rfl hl (by decide) rfl (fun ls hl => ?_)
  refine lv_iload_n hx hb dX11_different_6 rfl (lv_at hl 0 rfl) ?_
  refine lv_if_eq (tgt := 14) hx hb dX11_different_7 (by decide) (fun c0 => absurd c0 ((fun h => sp_price_ne _ (w2.symm.trans h)))) (fun _ => ?_)
  refine lv_iload_n hx hb dX11_different_10 rfl (lv_at hl 0 rfl) ?_
  refine lv_goto (tgt := 22) hx hb dX11_different_11 (by decide) ?_
  exact W.iret (v := r1) hx hb hr (fun t ht9 hW => ⟨⟨r1, (), rfl, w2, by rw [ht9]; exact hP.sub [] rfl, va_K.moved hW.alike (hK.sub [] rfl), hD.sub [] (by decide) rfl⟩, hS.F ht9⟩) hS.2.2 dX11_different_22
set_option maxHeartbeats 4000000 in
set_option maxRecDepth 100000 in
theorem x_question (l : Launch) (dC : Nat → ClassId) (dI : Nat → Nat → Nat) (sz : Nat) (q : Nat) (fs : List Value) (p0 : Int32) (L_fs : fs.length = 18) (K2_fs : fs[2]? = some (.int 0)) (K11_fs : fs[11]? = some (.int 0)) : Met l yX11_question (Cond.code yX11_question cX11_question 3 (some .int) :: tb) ({ frames := 1, cells := 0, slots := 0, locals := 21 }) (pcw [.ref q, .int p0] (dC, dI) [(q, .inr (11, fs))] [] sz) (va_Qi (fun (r : Int32) => (fun (_ : Unit) => r = sp_price p0)) (bw (dC, dI) (va_A [(q, .inr (11, fs))] sz) (fun (_ : Unit) => []) (fun (_ : Unit) => [])) (va_A [(q, .inr (11, fs))] sz)) 0 0 (va_A [(q, .inr (11, fs))] sz) := by
  refine Met.ofW (cc := cX11_question) (maxL := 3) (ret := (some .int)) (by decide) rfl ?_
  intro p e s m args below meth c s₁ B hml hv
  obtain ⟨rfl, hsz, hP, hK, hD0⟩ := hv
  have hx := B.exec
  have hb := B.bytes
  have hr := B.returns
  have hts := atoms_spec (ws := Cond.code yX11_question cX11_question 3 (some .int) :: tb) B.pre
  have ht : ∀ w ∈ tb, w.before _ s = true := fun w h => hts w (List.mem_cons_of_mem _ h)
  have hown : s.vm.findClass RX11 = some m.cls := findClass_of_methodNamed B.named
  have hlocks := B.notSynchronized
  subst hsz
  have hD := hD0.self (sz := s.heap.size)
  generalize hAe : va_A [(q, .inr (11, fs))] s.heap.size = A at hD ⊢
  have hA : ∀ q : Nat, s.heap.size ≤ q → A q := fun q h => by rw [← hAe]; exact Or.inr h
  have hS : va_S A s.heap s.heap [] := va_S.rf
  have hl := lv_entry ([.ref q, .int p0]) (n := 3) (Nat.le_of_ble_eq_true rfl)
  rw [lg_entry_eq]
  generalize (lg_sl ([.ref q, .int p0]) ++ List.replicate (3 - (lg_sl ([.ref q, .int p0])).length) Slot.unset).toArray = ls at hl ⊢
  have hl : lv_has ls 3 [(0, .ref q), (1, .int p0)] := hl
  have hP : va_P (dC, dI) cls [(q, .inr (11, fs))] s.heap := hP
  refine lv_aload_n hx hb dX11_question_0 rfl (lv_at hl 0 rfl) ?_
  refine lv_iload_n hx hb dX11_question_1 rfl (lv_at hl 1 rfl) ?_
  refine ca_i (wr := []) (va_runV (As := [.int p0]) (rest := []) ⟨hx, hb, hml, hown, ht⟩ (x_refusePrice l dC dI s.heap.size q fs p0 L_fs K2_fs K11_fs ) (cwV 1 ht (gdV k_5_231 k_5_228 k_5_230 ks_38 k_1_1) rfl rfl rfl (by decide +kernel) ⟨Nat.le_of_ble_eq_true rfl, Nat.le_of_ble_eq_true rfl⟩) ⟨pcw_blind, va_recv hK hP (ci := 11) (q0 := 0) rfl rfl, pcw_at hP hD hK [0] [] (by decide) rfl rfl rfl⟩ rfl rfl hl.1 rfl (lv_room (Nat.le_of_ble_eq_true rfl)) dX11_question_2 ⟨Nat.le_of_ble_eq_true rfl, Nat.le_of_ble_eq_true rfl⟩) hP hD hK hS hA [0] [] rfl rfl (by decide) (by decide) (fun r1 u H locs w2 hK hP hD hS => ?_)
  have hK : va_K (dC, dI) cls [] s := hK
  have hP : va_P (dC, dI) cls [] H := hP
  have hD : va_D A [] := hD
  refine lv_istore_n (lv' := [(2, .int r1), (0, .ref q), (1, .int p0)]) hx hb dX11_question_5 rfl hl (by decide) rfl (fun ls hl => ?_)
  refine lv_iload_n hx hb dX11_question_6 rfl (lv_at hl 0 rfl) ?_
  refine lv_if_eq (tgt := 14) hx hb dX11_question_7 (by decide) (fun c0 => absurd c0 ((fun h => sp_price_ne _ (w2.symm.trans h)))) (fun _ => ?_)
  refine lv_iload_n hx hb dX11_question_10 rfl (lv_at hl 0 rfl) ?_
  refine lv_goto (tgt := 22) hx hb dX11_question_11 (by decide) ?_
  exact W.iret (v := r1) hx hb hr (fun t ht9 hW => ⟨⟨r1, (), rfl, w2, by rw [ht9]; exact hP.sub [] rfl, va_K.moved hW.alike (hK.sub [] rfl), hD.sub [] (by decide) rfl⟩, hS.F ht9⟩) hS.2.2 dX11_question_22
set_option maxHeartbeats 4000000 in
set_option maxRecDepth 100000 in
theorem x_count (l : Launch) (dC : Nat → ClassId) (dI : Nat → Nat → Nat) (sz : Nat) (q : Nat) (fs : List Value) (p0 : Int32) (L_fs : fs.length = 18) (K2_fs : fs[2]? = some (.int 0)) (K11_fs : fs[11]? = some (.int 0)) : Met l yX11_count (Cond.code yX11_count cX11_count 3 (some .long) :: tb) ({ frames := 1, cells := 0, slots := 0, locals := 21 }) (pcw [.ref q, .int p0] (dC, dI) [(q, .inr (11, fs))] [] sz) (va_Ql (fun (r : Int64) => (fun (_ : Unit) => r = (sp_price p0).toInt64)) (bw (dC, dI) (va_A [(q, .inr (11, fs))] sz) (fun (_ : Unit) => []) (fun (_ : Unit) => [])) (va_A [(q, .inr (11, fs))] sz)) 0 0 (va_A [(q, .inr (11, fs))] sz) := by
  refine Met.ofW (cc := cX11_count) (maxL := 3) (ret := (some .long)) (by decide) rfl ?_
  intro p e s m args below meth c s₁ B hml hv
  obtain ⟨rfl, hsz, hP, hK, hD0⟩ := hv
  have hx := B.exec
  have hb := B.bytes
  have hr := B.returns
  have hts := atoms_spec (ws := Cond.code yX11_count cX11_count 3 (some .long) :: tb) B.pre
  have ht : ∀ w ∈ tb, w.before _ s = true := fun w h => hts w (List.mem_cons_of_mem _ h)
  have hown : s.vm.findClass RX11 = some m.cls := findClass_of_methodNamed B.named
  have hlocks := B.notSynchronized
  subst hsz
  have hD := hD0.self (sz := s.heap.size)
  generalize hAe : va_A [(q, .inr (11, fs))] s.heap.size = A at hD ⊢
  have hA : ∀ q : Nat, s.heap.size ≤ q → A q := fun q h => by rw [← hAe]; exact Or.inr h
  have hS : va_S A s.heap s.heap [] := va_S.rf
  have hl := lv_entry ([.ref q, .int p0]) (n := 3) (Nat.le_of_ble_eq_true rfl)
  rw [lg_entry_eq]
  generalize (lg_sl ([.ref q, .int p0]) ++ List.replicate (3 - (lg_sl ([.ref q, .int p0])).length) Slot.unset).toArray = ls at hl ⊢
  have hl : lv_has ls 3 [(0, .ref q), (1, .int p0)] := hl
  have hP : va_P (dC, dI) cls [(q, .inr (11, fs))] s.heap := hP
  refine lv_aload_n hx hb dX11_count_0 rfl (lv_at hl 0 rfl) ?_
  refine lv_iload_n hx hb dX11_count_1 rfl (lv_at hl 1 rfl) ?_
  refine ca_i (wr := []) (va_runV (As := [.int p0]) (rest := []) ⟨hx, hb, hml, hown, ht⟩ (x_refusePrice l dC dI s.heap.size q fs p0 L_fs K2_fs K11_fs ) (cwV 1 ht (gdV k_5_231 k_5_228 k_5_230 ks_38 k_1_1) rfl rfl rfl (by decide +kernel) ⟨Nat.le_of_ble_eq_true rfl, Nat.le_of_ble_eq_true rfl⟩) ⟨pcw_blind, va_recv hK hP (ci := 11) (q0 := 0) rfl rfl, pcw_at hP hD hK [0] [] (by decide) rfl rfl rfl⟩ rfl rfl hl.1 rfl (lv_room (Nat.le_of_ble_eq_true rfl)) dX11_count_2 ⟨Nat.le_of_ble_eq_true rfl, Nat.le_of_ble_eq_true rfl⟩) hP hD hK hS hA [0] [] rfl rfl (by decide) (by decide) (fun r1 u H locs w2 hK hP hD hS => ?_)
  have hK : va_K (dC, dI) cls [] s := hK
  have hP : va_P (dC, dI) cls [] H := hP
  have hD : va_D A [] := hD
  refine lv_istore_n (lv' := [(2, .int r1), (0, .ref q), (1, .int p0)]) hx hb dX11_count_5 rfl hl (by decide) rfl (fun ls hl => ?_)
  refine lv_iload_n hx hb dX11_count_6 rfl (lv_at hl 0 rfl) ?_
  refine lv_if_eq (tgt := 15) hx hb dX11_count_7 (by decide) (fun c0 => absurd c0 ((fun h => sp_price_ne _ (w2.symm.trans h)))) (fun _ => ?_)
  refine lv_iload_n hx hb dX11_count_10 rfl (lv_at hl 0 rfl) ?_
  refine lv_i2l hx hb dX11_count_11 rfl ?_
  refine lv_topl (fun x3 ex3 => ?_)
  refine lv_goto (tgt := 23) hx hb dX11_count_12 (by decide) ?_
  exact W.lret (v := x3) hx hb hr (fun t ht9 hW => ⟨⟨x3, (), rfl, (by rw [ex3, w2]), by rw [ht9]; exact hP.sub [] rfl, va_K.moved hW.alike (hK.sub [] rfl), hD.sub [] (by decide) rfl⟩, hS.F ht9⟩) hS.2.2 dX11_count_23
set_option maxHeartbeats 4000000 in
set_option maxRecDepth 100000 in
theorem x_ith (l : Launch) (dC : Nat → ClassId) (dI : Nat → Nat → Nat) (sz : Nat) (q : Nat) (fs : List Value) (p0 : Int32) (p1 : Int64) (L_fs : fs.length = 18) (K2_fs : fs[2]? = some (.int 0)) (K11_fs : fs[11]? = some (.int 0)) : Met l yX11_ith (Cond.code yX11_ith cX11_ith 6 (some .int) :: tb) ({ frames := 1, cells := 0, slots := 0, locals := 21 }) (pcw [.ref q, .int p0, .long p1] (dC, dI) [(q, .inr (11, fs))] [] sz) (va_Qi (fun (r : Int32) => (fun (_ : Unit) => r = sp_price p0)) (bw (dC, dI) (va_A [(q, .inr (11, fs))] sz) (fun (_ : Unit) => []) (fun (_ : Unit) => [])) (va_A [(q, .inr (11, fs))] sz)) 0 0 (va_A [(q, .inr (11, fs))] sz) := by
  refine Met.ofW (cc := cX11_ith) (maxL := 6) (ret := (some .int)) (by decide) rfl ?_
  intro p e s m args below meth c s₁ B hml hv
  obtain ⟨rfl, hsz, hP, hK, hD0⟩ := hv
  have hx := B.exec
  have hb := B.bytes
  have hr := B.returns
  have hts := atoms_spec (ws := Cond.code yX11_ith cX11_ith 6 (some .int) :: tb) B.pre
  have ht : ∀ w ∈ tb, w.before _ s = true := fun w h => hts w (List.mem_cons_of_mem _ h)
  have hown : s.vm.findClass RX11 = some m.cls := findClass_of_methodNamed B.named
  have hlocks := B.notSynchronized
  subst hsz
  have hD := hD0.self (sz := s.heap.size)
  generalize hAe : va_A [(q, .inr (11, fs))] s.heap.size = A at hD ⊢
  have hA : ∀ q : Nat, s.heap.size ≤ q → A q := fun q h => by rw [← hAe]; exact Or.inr h
  have hS : va_S A s.heap s.heap [] := va_S.rf
  have hl := lv_entry ([.ref q, .int p0, .long p1]) (n := 6) (Nat.le_of_ble_eq_true rfl)
  rw [lg_entry_eq]
  generalize (lg_sl ([.ref q, .int p0, .long p1]) ++ List.replicate (6 - (lg_sl ([.ref q, .int p0, .long p1])).length) Slot.unset).toArray = ls at hl ⊢
  have hl : lv_has ls 6 [(0, .ref q), (1, .int p0), (2, .long p1)] := hl
  have hP : va_P (dC, dI) cls [(q, .inr (11, fs))] s.heap := hP
  refine lv_aload_n hx hb dX11_ith_0 rfl (lv_at hl 0 rfl) ?_
  refine lv_iload_n hx hb dX11_ith_1 rfl (lv_at hl 1 rfl) ?_
  refine ca_i (wr := []) (va_runV (As := [.int p0]) (rest := []) ⟨hx, hb, hml, hown, ht⟩ (x_refusePrice l dC dI s.heap.size q fs p0 L_fs K2_fs K11_fs ) (cwV 1 ht (gdV k_5_231 k_5_228 k_5_230 ks_38 k_1_1) rfl rfl rfl (by decide +kernel) ⟨Nat.le_of_ble_eq_true rfl, Nat.le_of_ble_eq_true rfl⟩) ⟨pcw_blind, va_recv hK hP (ci := 11) (q0 := 0) rfl rfl, pcw_at hP hD hK [0] [] (by decide) rfl rfl rfl⟩ rfl rfl hl.1 rfl (lv_room (Nat.le_of_ble_eq_true rfl)) dX11_ith_2 ⟨Nat.le_of_ble_eq_true rfl, Nat.le_of_ble_eq_true rfl⟩) hP hD hK hS hA [0] [] rfl rfl (by decide) (by decide) (fun r1 u H locs w2 hK hP hD hS => ?_)
  have hK : va_K (dC, dI) cls [] s := hK
  have hP : va_P (dC, dI) cls [] H := hP
  have hD : va_D A [] := hD
  refine lv_istore (lv' := [(4, .int r1), (0, .ref q), (1, .int p0), (2, .long p1)]) hx hb dX11_ith_5 hl (by decide) rfl (fun ls hl => ?_)
  refine lv_iload hx hb dX11_ith_7 (lv_at hl 0 rfl) ?_
  refine lv_if_eq (tgt := 15) hx hb dX11_ith_9 (by decide) (fun c0 => absurd c0 ((fun h => sp_price_ne _ (w2.symm.trans h)))) (fun _ => ?_)
  refine lv_iload hx hb dX11_ith_12 (lv_at hl 0 rfl) ?_
  exact W.iret (v := r1) hx hb hr (fun t ht9 hW => ⟨⟨r1, (), rfl, w2, by rw [ht9]; exact hP.sub [] rfl, va_K.moved hW.alike (hK.sub [] rfl), hD.sub [] (by decide) rfl⟩, hS.F ht9⟩) hS.2.2 dX11_ith_14
set_option maxHeartbeats 4000000 in
set_option maxRecDepth 100000 in
theorem x_toldOfAsk (l : Launch) (dC : Nat → ClassId) (dI : Nat → Nat → Nat) (sz : Nat) (q : Nat) (fs : List Value) (p0 : Int32) (L_fs : fs.length = 18) (K11_fs : fs[11]? = some (.int 0)) : Met l yX11_toldOfAsk (Cond.code yX11_toldOfAsk cX11_toldOfAsk 2 (some .int) :: tb) ({ frames := 0, cells := 0, slots := 0, locals := 0 }) (pcw [.ref q, .int p0] (dC, dI) [(q, .inr (11, fs))] [] sz) (va_Qi (fun (r : Int32) => (fun (_ : Unit) => r = (if p0 < 8 then -1 else if p0 ≤ 12 then -2 else -1))) (bw (dC, dI) (va_A [(q, .inr (11, fs))] sz) (fun (_ : Unit) => []) (fun (_ : Unit) => [])) (va_A [(q, .inr (11, fs))] sz)) 0 0 (va_A [(q, .inr (11, fs))] sz) := by
  refine Met.ofW (cc := cX11_toldOfAsk) (maxL := 2) (ret := (some .int)) (by decide) rfl ?_
  intro p e s m args below meth c s₁ B hml hv
  obtain ⟨rfl, hsz, hP, hK, hD0⟩ := hv
  have hx := B.exec
  have hb := B.bytes
  have hr := B.returns
  have hts := atoms_spec (ws := Cond.code yX11_toldOfAsk cX11_toldOfAsk 2 (some .int) :: tb) B.pre
  have ht : ∀ w ∈ tb, w.before _ s = true := fun w h => hts w (List.mem_cons_of_mem _ h)
  have hown : s.vm.findClass RX11 = some m.cls := findClass_of_methodNamed B.named
  have hlocks := B.notSynchronized
  subst hsz
  have hD := hD0.self (sz := s.heap.size)
  generalize hAe : va_A [(q, .inr (11, fs))] s.heap.size = A at hD ⊢
  have hA : ∀ q : Nat, s.heap.size ≤ q → A q := fun q h => by rw [← hAe]; exact Or.inr h
  have hS : va_S A s.heap s.heap [] := va_S.rf
  have hl := lv_entry ([.ref q, .int p0]) (n := 2) (Nat.le_of_ble_eq_true rfl)
  rw [lg_entry_eq]
  generalize (lg_sl ([.ref q, .int p0]) ++ List.replicate (2 - (lg_sl ([.ref q, .int p0])).length) Slot.unset).toArray = ls at hl ⊢
  have hl : lv_has ls 2 [(0, .ref q), (1, .int p0)] := hl
  have hP : va_P (dC, dI) cls [(q, .inr (11, fs))] s.heap := hP
  refine lv_iload_n hx hb dX11_toldOfAsk_0 rfl (lv_at hl 1 rfl) ?_
  refine lv_bipush (v := 8) hx hb dX11_toldOfAsk_1 (by decide) ?_
  refine lv_icmp_lt (tgt := 12) hx hb dX11_toldOfAsk_3 (by decide) (fun b1 => ?_) (fun b1 => ?_)
  · refine lv_iconst (v := (-1)) hx hb dX11_toldOfAsk_12 (by decide) ?_
    exact W.iret (v := (-1)) hx hb hr (fun t ht9 hW => ⟨⟨(-1), (), rfl, (by simp [b1]), by rw [ht9]; exact hP.sub [] rfl, va_K.moved hW.alike (hK.sub [] rfl), hD.sub [] (by decide) rfl⟩, hS.F ht9⟩) hS.2.2 dX11_toldOfAsk_13
  · refine lv_iload_n hx hb dX11_toldOfAsk_6 rfl (lv_at hl 1 rfl) ?_
    refine lv_bipush (v := 12) hx hb dX11_toldOfAsk_7 (by decide) ?_
    refine lv_icmp_le (tgt := 14) hx hb dX11_toldOfAsk_9 (by decide) (fun b2 => ?_) (fun b2 => ?_)
    · refine lv_aload_n hx hb dX11_toldOfAsk_14 rfl (lv_at hl 0 rfl) ?_
      refine va_get (D := (dC, dI)) (ci := 11) (v := .int 0) (C := RX11) (T := TX11) (N := 18) hx hb ht uX11 hown hK hP 0 rfl rfl 11 (by decide) (ht _ k_4_102) (fun _ h9 => h9) K11_fs dX11_toldOfAsk_15 ?_
      refine lv_if_ne (tgt := 24) hx hb dX11_toldOfAsk_18 (by decide) (fun c0 => absurd c0 (by decide)) (fun _ => ?_)
      refine lv_bipush (v := (-2)) hx hb dX11_toldOfAsk_21 (by decide) ?_
      exact W.iret (v := (-2)) hx hb hr (fun t ht9 hW => ⟨⟨(-2), (), rfl, (by simp [b1, b2]), by rw [ht9]; exact hP.sub [] rfl, va_K.moved hW.alike (hK.sub [] rfl), hD.sub [] (by decide) rfl⟩, hS.F ht9⟩) hS.2.2 dX11_toldOfAsk_23
    · refine lv_iconst (v := (-1)) hx hb dX11_toldOfAsk_12 (by decide) ?_
      exact W.iret (v := (-1)) hx hb hr (fun t ht9 hW => ⟨⟨(-1), (), rfl, (by simp [b1, b2]), by rw [ht9]; exact hP.sub [] rfl, va_K.moved hW.alike (hK.sub [] rfl), hD.sub [] (by decide) rfl⟩, hS.F ht9⟩) hS.2.2 dX11_toldOfAsk_13
set_option maxHeartbeats 4000000 in
set_option maxRecDepth 100000 in
theorem x_told (l : Launch) (dC : Nat → ClassId) (dI : Nat → Nat → Nat) (sz : Nat) (q : Nat) (fs : List Value) (p0 : Int32) (q0 : Nat) (q1 : Nat) (q2 : Nat) (q3 : Nat) (q4 : Nat) (g0 : List Value) (g1 : List Value) (g2 : List Value) (g3 : List Value) (g4 : List Value) (L_fs : fs.length = 18) (K1_fs : fs[1]? = some (.int 0)) (K2_fs : fs[2]? = some (.int 0)) (K7_fs : fs[7]? = some (.ref q0)) (K11_fs : fs[11]? = some (.int 0)) (K13_fs : fs[13]? = some (.ref q1)) (K15_fs : fs[15]? = some (.ref q2)) (K16_fs : fs[16]? = some (.ref q3)) (K17_fs : fs[17]? = some (.ref q4)) (L_g0 : g0.length = 16) (K5_g0 : g0[5]? = some (.int 0)) (L_g1 : g1.length = 22) (K9_g1 : g1[9]? = some (.int 0)) (L_g2 : g2.length = 21) (K0_g2 : g2[0]? = some (.int 0)) (L_g3 : g3.length = 15) (K0_g3 : g3[0]? = some (.int 0)) (L_g4 : g4.length = 7) (K1_g4 : g4[1]? = some (.int 0)) (K3_g4 : g4[3]? = some (.int 0)) (K4_g4 : g4[4]? = some (.int 0)) : Met l yX11_told (Cond.code yX11_told cX11_told 2 (some .int) :: tb) ({ frames := 1, cells := 0, slots := 0, locals := 21 }) (pcw [.ref q, .int p0] (dC, dI) [(q, .inr (11, fs)), (q0, .inr (0, g0)), (q1, .inr (8, g1)), (q2, .inr (10, g2)), (q3, .inr (5, g3)), (q4, .inr (2, g4))] [] sz) (va_Qi (fun (r : Int32) => (fun (_ : Unit) => r = sp_told p0)) (bw (dC, dI) (va_A [(q, .inr (11, fs)), (q0, .inr (0, g0)), (q1, .inr (8, g1)), (q2, .inr (10, g2)), (q3, .inr (5, g3)), (q4, .inr (2, g4))] sz) (fun (_ : Unit) => []) (fun (_ : Unit) => [])) (va_A [(q, .inr (11, fs)), (q0, .inr (0, g0)), (q1, .inr (8, g1)), (q2, .inr (10, g2)), (q3, .inr (5, g3)), (q4, .inr (2, g4))] sz)) 0 0 (va_A [(q, .inr (11, fs)), (q0, .inr (0, g0)), (q1, .inr (8, g1)), (q2, .inr (10, g2)), (q3, .inr (5, g3)), (q4, .inr (2, g4))] sz) := by
  refine Met.ofW (cc := cX11_told) (maxL := 2) (ret := (some .int)) (by decide) rfl ?_
  intro p e s m args below meth c s₁ B hml hv
  obtain ⟨rfl, hsz, hP, hK, hD0⟩ := hv
  have hx := B.exec
  have hb := B.bytes
  have hr := B.returns
  have hts := atoms_spec (ws := Cond.code yX11_told cX11_told 2 (some .int) :: tb) B.pre
  have ht : ∀ w ∈ tb, w.before _ s = true := fun w h => hts w (List.mem_cons_of_mem _ h)
  have hown : s.vm.findClass RX11 = some m.cls := findClass_of_methodNamed B.named
  have hlocks := B.notSynchronized
  subst hsz
  have hD := hD0.self (sz := s.heap.size)
  generalize hAe : va_A [(q, .inr (11, fs)), (q0, .inr (0, g0)), (q1, .inr (8, g1)), (q2, .inr (10, g2)), (q3, .inr (5, g3)), (q4, .inr (2, g4))] s.heap.size = A at hD ⊢
  have hA : ∀ q : Nat, s.heap.size ≤ q → A q := fun q h => by rw [← hAe]; exact Or.inr h
  have hS : va_S A s.heap s.heap [] := va_S.rf
  have hl := lv_entry ([.ref q, .int p0]) (n := 2) (Nat.le_of_ble_eq_true rfl)
  rw [lg_entry_eq]
  generalize (lg_sl ([.ref q, .int p0]) ++ List.replicate (2 - (lg_sl ([.ref q, .int p0])).length) Slot.unset).toArray = ls at hl ⊢
  have hl : lv_has ls 2 [(0, .ref q), (1, .int p0)] := hl
  have hP : va_P (dC, dI) cls [(q, .inr (11, fs)), (q0, .inr (0, g0)), (q1, .inr (8, g1)), (q2, .inr (10, g2)), (q3, .inr (5, g3)), (q4, .inr (2, g4))] s.heap := hP
  refine lv_aload_n hx hb dX11_told_0 rfl (lv_at hl 0 rfl) ?_
  refine va_get (D := (dC, dI)) (ci := 11) (v := .int 0) (C := RX11) (T := TX11) (N := 18) hx hb ht uX11 hown hK hP 0 rfl rfl 2 (by decide) (ht _ k_4_93) (fun _ h9 => h9) K2_fs dX11_told_1 ?_
  refine lv_if_eq (tgt := 10) hx hb dX11_told_4 (by decide) (fun _ => ?_) (fun c0 => absurd c0 (by decide))
  refine lv_iload_n hx hb dX11_told_10 rfl (lv_at hl 1 rfl) ?_
  by_cases b1_0 : p0 = 0
  · refine lv_tableIn (off := 45) (tgt := 56) hx hb dX11_told_11 (by rw [b1_0]; decide) (by rw [b1_0]; decide) (by rw [b1_0]; decide) (by decide) ?_
    refine lv_aload_n hx hb dX11_told_56 rfl (lv_at hl 0 rfl) ?_
    refine va_get (D := (dC, dI)) (ci := 11) (v := .ref q0) (C := RX11) (T := TX11) (N := 18) hx hb ht uX11 hown hK hP 0 rfl rfl 7 (by decide) (ht _ k_4_98) (fun _ h9 => h9) K7_fs dX11_told_57 ?_
    refine va_get (D := (dC, dI)) (ci := 0) (v := .int 0) (C := RX0) (T := TX0) (N := 16) hx hb ht uX0 hown hK hP 1 rfl rfl 5 (by decide) (ht _ k_1_158) (fun _ h9 => h9) K5_g0 dX11_told_60 ?_
    exact W.iret (v := 0) hx hb hr (fun t ht9 hW => ⟨⟨0, (), rfl, (by simp [sp_told, b1_0]), by rw [ht9]; exact hP.sub [] rfl, va_K.moved hW.alike (hK.sub [] rfl), hD.sub [] (by decide) rfl⟩, hS.F ht9⟩) hS.2.2 dX11_told_63
  by_cases b1_1 : p0 = 1
  · refine lv_tableIn (off := 53) (tgt := 64) hx hb dX11_told_11 (by rw [b1_1]; decide) (by rw [b1_1]; decide) (by rw [b1_1]; decide) (by decide) ?_
    refine lv_aload_n hx hb dX11_told_64 rfl (lv_at hl 0 rfl) ?_
    refine va_get (D := (dC, dI)) (ci := 11) (v := .ref q1) (C := RX11) (T := TX11) (N := 18) hx hb ht uX11 hown hK hP 0 rfl rfl 13 (by decide) (ht _ k_4_104) (fun _ h9 => h9) K13_fs dX11_told_65 ?_
    refine va_get (D := (dC, dI)) (ci := 8) (v := .int 0) (C := RX8) (T := TX8) (N := 22) hx hb ht uX8 hown hK hP 2 rfl rfl 9 (by decide) (ht _ k_3_40) (fun _ h9 => h9) K9_g1 dX11_told_68 ?_
    exact W.iret (v := 0) hx hb hr (fun t ht9 hW => ⟨⟨0, (), rfl, (by simp [sp_told, b1_1, b1_0]), by rw [ht9]; exact hP.sub [] rfl, va_K.moved hW.alike (hK.sub [] rfl), hD.sub [] (by decide) rfl⟩, hS.F ht9⟩) hS.2.2 dX11_told_71
  by_cases b1_2 : p0 = 2
  · refine lv_tableIn (off := 61) (tgt := 72) hx hb dX11_told_11 (by rw [b1_2]; decide) (by rw [b1_2]; decide) (by rw [b1_2]; decide) (by decide) ?_
    refine lv_aload_n hx hb dX11_told_72 rfl (lv_at hl 0 rfl) ?_
    refine va_get (D := (dC, dI)) (ci := 11) (v := .ref q2) (C := RX11) (T := TX11) (N := 18) hx hb ht uX11 hown hK hP 0 rfl rfl 15 (by decide) (ht _ k_4_106) (fun _ h9 => h9) K15_fs dX11_told_73 ?_
    refine va_get (D := (dC, dI)) (ci := 10) (v := .int 0) (C := RX10) (T := TX10) (N := 21) hx hb ht uX10 hown hK hP 3 rfl rfl 0 (by decide) (ht _ k_3_176) (fun _ h9 => h9) K0_g2 dX11_told_76 ?_
    exact W.iret (v := 0) hx hb hr (fun t ht9 hW => ⟨⟨0, (), rfl, (by simp [sp_told, b1_2, b1_0, b1_1]), by rw [ht9]; exact hP.sub [] rfl, va_K.moved hW.alike (hK.sub [] rfl), hD.sub [] (by decide) rfl⟩, hS.F ht9⟩) hS.2.2 dX11_told_79
  by_cases b1_3 : p0 = 3
  · refine lv_tableIn (off := 69) (tgt := 80) hx hb dX11_told_11 (by rw [b1_3]; decide) (by rw [b1_3]; decide) (by rw [b1_3]; decide) (by decide) ?_
    refine lv_aload_n hx hb dX11_told_80 rfl (lv_at hl 0 rfl) ?_
    refine va_get (D := (dC, dI)) (ci := 11) (v := .ref q3) (C := RX11) (T := TX11) (N := 18) hx hb ht uX11 hown hK hP 0 rfl rfl 16 (by decide) (ht _ k_4_107) (fun _ h9 => h9) K16_fs dX11_told_81 ?_
    refine va_get (D := (dC, dI)) (ci := 5) (v := .int 0) (C := RX5) (T := TX5) (N := 15) hx hb ht uX5 hown hK hP 4 rfl rfl 0 (by decide) (ht _ k_4_8) (fun _ h9 => h9) K0_g3 dX11_told_84 ?_
    exact W.iret (v := 0) hx hb hr (fun t ht9 hW => ⟨⟨0, (), rfl, (by simp [sp_told, b1_3, b1_0, b1_1, b1_2]), by rw [ht9]; exact hP.sub [] rfl, va_K.moved hW.alike (hK.sub [] rfl), hD.sub [] (by decide) rfl⟩, hS.F ht9⟩) hS.2.2 dX11_told_87
  by_cases b1_4 : p0 = 4
  · refine lv_tableIn (off := 77) (tgt := 88) hx hb dX11_told_11 (by rw [b1_4]; decide) (by rw [b1_4]; decide) (by rw [b1_4]; decide) (by decide) ?_
    refine lv_aload_n hx hb dX11_told_88 rfl (lv_at hl 0 rfl) ?_
    refine va_get (D := (dC, dI)) (ci := 11) (v := .ref q4) (C := RX11) (T := TX11) (N := 18) hx hb ht uX11 hown hK hP 0 rfl rfl 17 (by decide) (ht _ k_4_108) (fun _ h9 => h9) K17_fs dX11_told_89 ?_
    refine va_get (D := (dC, dI)) (ci := 2) (v := .int 0) (C := RX2) (T := TX2) (N := 7) hx hb ht uX2 hown hK hP 5 rfl rfl 3 (by decide) (ht _ k_4_69) (fun _ h9 => h9) K3_g4 dX11_told_92 ?_
    exact W.iret (v := 0) hx hb hr (fun t ht9 hW => ⟨⟨0, (), rfl, (by simp [sp_told, b1_4, b1_0, b1_1, b1_2, b1_3]), by rw [ht9]; exact hP.sub [] rfl, va_K.moved hW.alike (hK.sub [] rfl), hD.sub [] (by decide) rfl⟩, hS.F ht9⟩) hS.2.2 dX11_told_95
  by_cases b1_5 : p0 = 5
  · refine lv_tableIn (off := 85) (tgt := 96) hx hb dX11_told_11 (by rw [b1_5]; decide) (by rw [b1_5]; decide) (by rw [b1_5]; decide) (by decide) ?_
    refine lv_aload_n hx hb dX11_told_96 rfl (lv_at hl 0 rfl) ?_
    refine va_get (D := (dC, dI)) (ci := 11) (v := .ref q4) (C := RX11) (T := TX11) (N := 18) hx hb ht uX11 hown hK hP 0 rfl rfl 17 (by decide) (ht _ k_4_108) (fun _ h9 => h9) K17_fs dX11_told_97 ?_
    refine va_get (D := (dC, dI)) (ci := 2) (v := .int 0) (C := RX2) (T := TX2) (N := 7) hx hb ht uX2 hown hK hP 5 rfl rfl 4 (by decide) (ht _ k_4_71) (fun _ h9 => h9) K4_g4 dX11_told_100 ?_
    exact W.iret (v := 0) hx hb hr (fun t ht9 hW => ⟨⟨0, (), rfl, (by simp [sp_told, b1_5, b1_0, b1_1, b1_2, b1_3, b1_4]), by rw [ht9]; exact hP.sub [] rfl, va_K.moved hW.alike (hK.sub [] rfl), hD.sub [] (by decide) rfl⟩, hS.F ht9⟩) hS.2.2 dX11_told_103
  by_cases b1_6 : p0 = 6
  · refine lv_tableIn (off := 93) (tgt := 104) hx hb dX11_told_11 (by rw [b1_6]; decide) (by rw [b1_6]; decide) (by rw [b1_6]; decide) (by decide) ?_
    refine lv_aload_n hx hb dX11_told_104 rfl (lv_at hl 0 rfl) ?_
    refine va_get (D := (dC, dI)) (ci := 11) (v := .ref q4) (C := RX11) (T := TX11) (N := 18) hx hb ht uX11 hown hK hP 0 rfl rfl 17 (by decide) (ht _ k_4_108) (fun _ h9 => h9) K17_fs dX11_told_105 ?_
    refine va_get (D := (dC, dI)) (ci := 2) (v := .int 0) (C := RX2) (T := TX2) (N := 7) hx hb ht uX2 hown hK hP 5 rfl rfl 1 (by decide) (ht _ k_4_65) (fun _ h9 => h9) K1_g4 dX11_told_108 ?_
    exact W.iret (v := 0) hx hb hr (fun t ht9 hW => ⟨⟨0, (), rfl, (by simp [sp_told, b1_6, b1_0, b1_1, b1_2, b1_3, b1_4, b1_5]), by rw [ht9]; exact hP.sub [] rfl, va_K.moved hW.alike (hK.sub [] rfl), hD.sub [] (by decide) rfl⟩, hS.F ht9⟩) hS.2.2 dX11_told_111
  by_cases b1_7 : p0 = 7
  · refine lv_tableIn (off := 101) (tgt := 112) hx hb dX11_told_11 (by rw [b1_7]; decide) (by rw [b1_7]; decide) (by rw [b1_7]; decide) (by decide) ?_
    refine lv_aload_n hx hb dX11_told_112 rfl (lv_at hl 0 rfl) ?_
    refine va_get (D := (dC, dI)) (ci := 11) (v := .int 0) (C := RX11) (T := TX11) (N := 18) hx hb ht uX11 hown hK hP 0 rfl rfl 1 (by decide) (ht _ k_4_92) (fun _ h9 => h9) K1_fs dX11_told_113 ?_
    exact W.iret (v := 0) hx hb hr (fun t ht9 hW => ⟨⟨0, (), rfl, (by simp [sp_told, b1_7, b1_0, b1_1, b1_2, b1_3, b1_4, b1_5, b1_6]), by rw [ht9]; exact hP.sub [] rfl, va_K.moved hW.alike (hK.sub [] rfl), hD.sub [] (by decide) rfl⟩, hS.F ht9⟩) hS.2.2 dX11_told_116
  refine lv_tableOut (tgt := 117) hx hb dX11_told_11 (by have z0 := lv_neT (a := 0) b1_0 (by decide); have z1 := lv_neT (a := 1) b1_1 (by decide); have z2 := lv_neT (a := 2) b1_2 (by decide); have z3 := lv_neT (a := 3) b1_3 (by decide); have z4 := lv_neT (a := 4) b1_4 (by decide); have z5 := lv_neT (a := 5) b1_5 (by decide); have z6 := lv_neT (a := 6) b1_6 (by decide); have z7 := lv_neT (a := 7) b1_7 (by decide); omega) (by decide) ?_
  refine lv_aload_n hx hb dX11_told_117 rfl (lv_at hl 0 rfl) ?_
  refine lv_iload_n hx hb dX11_told_118 rfl (lv_at hl 1 rfl) ?_
  refine ca_i (wr := [(q0, .inr (0, g0)), (q1, .inr (8, g1)), (q2, .inr (10, g2)), (q3, .inr (5, g3)), (q4, .inr (2, g4))]) (va_runV (As := [.int p0]) (rest := []) ⟨hx, hb, hml, hown, ht⟩ (x_toldOfAsk l dC dI s.heap.size q fs p0 L_fs K11_fs ) (cwV 1 ht (gdV k_4_153 k_4_150 k_4_152 ks_0 k_1_1) rfl rfl rfl (by decide +kernel) ⟨Nat.le_of_ble_eq_true rfl, Nat.le_of_ble_eq_true rfl⟩) ⟨pcw_blind, va_recv hK hP (ci := 11) (q0 := 0) rfl rfl, pcw_at hP hD hK [0] [] (by decide) rfl rfl rfl⟩ rfl rfl hl.1 rfl (lv_room (Nat.le_of_ble_eq_true rfl)) dX11_told_119 ⟨Nat.le_of_ble_eq_true rfl, Nat.le_of_ble_eq_true rfl⟩) hP hD hK hS hA [0] [1, 2, 3, 4, 5] rfl rfl (by decide) (by decide) (fun r2 u H locs w3 hK hP hD hS => ?_)
  have hK : va_K (dC, dI) cls [] s := hK
  have hP : va_P (dC, dI) cls [(q0, .inr (0, g0)), (q1, .inr (8, g1)), (q2, .inr (10, g2)), (q3, .inr (5, g3)), (q4, .inr (2, g4))] H := hP
  have hD : va_D A [(q0, .inr (0, g0)), (q1, .inr (8, g1)), (q2, .inr (10, g2)), (q3, .inr (5, g3)), (q4, .inr (2, g4))] := hD
  exact W.iret (v := r2) hx hb hr (fun t ht9 hW => ⟨⟨r2, (), rfl, (by rw [w3]; simp [sp_told, b1_0, b1_1, b1_2, b1_3, b1_4, b1_5, b1_6, b1_7]), by rw [ht9]; exact hP.sub [] rfl, va_K.moved hW.alike (hK.sub [] rfl), hD.sub [] (by decide) rfl⟩, hS.F ht9⟩) hS.2.2 dX11_told_122
