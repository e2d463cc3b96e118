theorem dX15_octet_0 : decode cX15_octet 0 = .ok (.aload_n 0, 1) := by decide +kernel
theorem dX15_octet_1 : decode cX15_octet 1 = .ok (.iload_n 1, 1) := by decide +kernel
theorem dX15_octet_2 : decode cX15_octet 2 = .ok (.i2l, 1) := by decide +kernel
theorem dX15_octet_3 : decode cX15_octet 3 = .ok (.lconst 1, 1) := by decide +kernel
theorem k_16_108 : Jvm.Cond.constantLong "FinderHouseModel" (1290 : Nat) (200 : Int64) ∈ tb := tb16 108 (by decide +kernel) (by decide +kernel)
theorem dX15_octet_4 : decode cX15_octet 4 = .ok (.ldc2_w 1290, 3) := by decide +kernel
theorem dX15_octet_7 : decode cX15_octet 7 = .ok (.invokestatic 623, 3) := by decide +kernel
theorem dX15_octet_10 : decode cX15_octet 10 = .ok (.ifCond .eq 19, 3) := by decide +kernel
theorem dX15_octet_13 : decode cX15_octet 13 = .ok (.iload_n 2, 1) := by decide +kernel
theorem dX15_octet_14 : decode cX15_octet 14 = .ok (.i2l, 1) := by decide +kernel
theorem dX15_octet_15 : decode cX15_octet 15 = .ok (.lconst 0, 1) := by decide +kernel
theorem dX15_octet_16 : decode cX15_octet 16 = .ok (.ldc2_w 1274, 3) := by decide +kernel
theorem dX15_octet_19 : decode cX15_octet 19 = .ok (.invokestatic 623, 3) := by decide +kernel
theorem dX15_octet_22 : decode cX15_octet 22 = .ok (.ifCond .eq 7, 3) := by decide +kernel
theorem dX15_octet_25 : decode cX15_octet 25 = .ok (.iconst 0, 1) := by decide +kernel
theorem dX15_octet_26 : decode cX15_octet 26 = .ok (.goto 4, 3) := by decide +kernel
theorem dX15_octet_30 : decode cX15_octet 30 = .ok (.putfield 773, 3) := by decide +kernel
theorem dX15_octet_33 : decode cX15_octet 33 = .ok (.aload_n 0, 1) := by decide +kernel
theorem dX15_octet_34 : decode cX15_octet 34 = .ok (.getfield 773, 3) := by decide +kernel
theorem dX15_octet_37 : decode cX15_octet 37 = .ok (.ifCond .le 7, 3) := by decide +kernel
theorem dX15_octet_44 : decode cX15_octet 44 = .ok (.aload_n 0, 1) := by decide +kernel
theorem k_11_105 : Jvm.Cond.fieldLink "FinderHouseModel" (301 : Nat) "FinderHouseModel" "disk" "[[I" ∈ tb := tb11 105 (by decide +kernel) (by decide +kernel)
theorem dX15_octet_45 : decode cX15_octet 45 = .ok (.getfield 301, 3) := by decide +kernel
theorem dX15_octet_48 : decode cX15_octet 48 = .ok (.iload_n 1, 1) := by decide +kernel
theorem dX15_octet_49 : decode cX15_octet 49 = .ok (.aaload, 1) := by decide +kernel
theorem dX15_octet_50 : decode cX15_octet 50 = .ok (.iload_n 2, 1) := by decide +kernel
theorem dX15_octet_51 : decode cX15_octet 51 = .ok (.iaload, 1) := by decide +kernel
theorem dX15_octet_52 : decode cX15_octet 52 = .ok (.ireturn, 1) := by decide +kernel
theorem dX15_poke_0 : decode cX15_poke 0 = .ok (.aload_n 0, 1) := by decide +kernel
theorem dX15_poke_1 : decode cX15_poke 1 = .ok (.iload_n 1, 1) := by decide +kernel
theorem dX15_poke_2 : decode cX15_poke 2 = .ok (.i2l, 1) := by decide +kernel
theorem dX15_poke_3 : decode cX15_poke 3 = .ok (.lconst 1, 1) := by decide +kernel
theorem dX15_poke_4 : decode cX15_poke 4 = .ok (.ldc2_w 1290, 3) := by decide +kernel
theorem dX15_poke_7 : decode cX15_poke 7 = .ok (.invokestatic 623, 3) := by decide +kernel
theorem dX15_poke_10 : decode cX15_poke 10 = .ok (.ifCond .eq 19, 3) := by decide +kernel
theorem dX15_poke_13 : decode cX15_poke 13 = .ok (.iload_n 2, 1) := by decide +kernel
theorem dX15_poke_14 : decode cX15_poke 14 = .ok (.i2l, 1) := by decide +kernel
theorem dX15_poke_15 : decode cX15_poke 15 = .ok (.lconst 0, 1) := by decide +kernel
theorem dX15_poke_16 : decode cX15_poke 16 = .ok (.ldc2_w 1274, 3) := by decide +kernel
theorem dX15_poke_19 : decode cX15_poke 19 = .ok (.invokestatic 623, 3) := by decide +kernel
theorem dX15_poke_22 : decode cX15_poke 22 = .ok (.ifCond .eq 7, 3) := by decide +kernel
theorem dX15_poke_25 : decode cX15_poke 25 = .ok (.iconst 0, 1) := by decide +kernel
theorem dX15_poke_26 : decode cX15_poke 26 = .ok (.goto 4, 3) := by decide +kernel
theorem dX15_poke_30 : decode cX15_poke 30 = .ok (.putfield 773, 3) := by decide +kernel
theorem dX15_poke_33 : decode cX15_poke 33 = .ok (.aload_n 0, 1) := by decide +kernel
theorem dX15_poke_34 : decode cX15_poke 34 = .ok (.getfield 773, 3) := by decide +kernel
theorem dX15_poke_37 : decode cX15_poke 37 = .ok (.ifCond .le 5, 3) := by decide +kernel
theorem dX15_poke_42 : decode cX15_poke 42 = .ok (.aload_n 0, 1) := by decide +kernel
theorem dX15_poke_43 : decode cX15_poke 43 = .ok (.getfield 301, 3) := by decide +kernel
theorem dX15_poke_46 : decode cX15_poke 46 = .ok (.iload_n 1, 1) := by decide +kernel
theorem dX15_poke_47 : decode cX15_poke 47 = .ok (.aaload, 1) := by decide +kernel
theorem dX15_poke_48 : decode cX15_poke 48 = .ok (.iload_n 2, 1) := by decide +kernel
theorem dX15_poke_49 : decode cX15_poke 49 = .ok (.dup2, 1) := by decide +kernel
theorem dX15_poke_50 : decode cX15_poke 50 = .ok (.iaload, 1) := by decide +kernel
theorem dX15_poke_51 : decode cX15_poke 51 = .ok (.iload_n 3, 1) := by decide +kernel
theorem dX15_poke_52 : decode cX15_poke 52 = .ok (.sipush 255, 3) := by decide +kernel
theorem dX15_poke_55 : decode cX15_poke 55 = .ok (.iand, 1) := by decide +kernel
theorem dX15_poke_56 : decode cX15_poke 56 = .ok (.ixor, 1) := by decide +kernel
theorem dX15_poke_57 : decode cX15_poke 57 = .ok (.iastore, 1) := by decide +kernel
theorem dX15_poke_58 : decode cX15_poke 58 = .ok (.aload_n 0, 1) := by decide +kernel
theorem dX15_poke_59 : decode cX15_poke 59 = .ok (.getfield 301, 3) := by decide +kernel
theorem dX15_poke_62 : decode cX15_poke 62 = .ok (.iload_n 1, 1) := by decide +kernel
theorem dX15_poke_63 : decode cX15_poke 63 = .ok (.aaload, 1) := by decide +kernel
theorem dX15_poke_64 : decode cX15_poke 64 = .ok (.iload_n 2, 1) := by decide +kernel
theorem dX15_poke_65 : decode cX15_poke 65 = .ok (.iaload, 1) := by decide +kernel
theorem dX15_poke_66 : decode cX15_poke 66 = .ok (.ireturn, 1) := by decide +kernel
theorem dX15_octet_29 : decode cX15_octet 29 = .ok (.iconst 1, 1) := by decide +kernel
theorem dX15_octet_40 : decode cX15_octet 40 = .ok (.iconst 0, 1) := by decide +kernel
theorem dX15_octet_41 : decode cX15_octet 41 = .ok (.goto 11, 3) := by decide +kernel
theorem dX15_poke_29 : decode cX15_poke 29 = .ok (.iconst 1, 1) := by decide +kernel
theorem dX15_poke_40 : decode cX15_poke 40 = .ok (.iconst 0, 1) := by decide +kernel
theorem dX15_poke_41 : decode cX15_poke 41 = .ok (.ireturn, 1) := by decide +kernel
set_option maxHeartbeats 4000000 in
set_option maxRecDepth 100000 in
theorem r_in_y (l : Launch) (dC : Nat → ClassId) (dI : Nat → Nat → Nat) (sz : Nat) (v : Int64) (lo : Int64) (hi : Int64) (h1 : lo ≤ v) (h2 : v ≤ hi) : Met l yX15_in (Cond.code yX15_in cX15_in 6 (some .boolean) :: tb) ({ frames := 0, cells := 0, slots := 0, locals := 0 }) (pcw [.long v, .long lo, .long hi] (dC, dI) [] [] sz) (va_Qi (fun (r : Int32) => (fun (_ : Unit) => r = 1)) (bw (dC, dI) (va_A [] sz) (fun (_ : Unit) => []) (fun (_ : Unit) => [])) (va_A [] sz)) 0 0 (va_A [] sz) := by
  refine Met.ofW (cc := cX15_in) (maxL := 6) (ret := (some .boolean)) (by decide) rfl ?_
  intro p e s m args below meth c s₁ B hml hv
  obtain ⟨rfl, hsz, hP, hK, hD0⟩ := hv
  have hx := B.exec
  have hb := B.bytes
  have hr := B.returns
  have hts := atoms_spec (ws := Cond.code yX15_in cX15_in 6 (some .boolean) :: tb) B.pre
  have ht : ∀ w ∈ tb, w.before _ s = true := fun w h => hts w (List.mem_cons_of_mem _ h)
  have hown : s.vm.findClass RX15 = some m.cls := findClass_of_methodNamed B.named
  have hlocks := B.notSynchronized
  subst hsz
  have hD := hD0.self (sz := s.heap.size)
  generalize hAe : va_A [] s.heap.size = A at hD ⊢
  have hA : ∀ q : Nat, s.heap.size ≤ q → A q := fun q h => by rw [← hAe]; exact Or.inr h
  have hS : va_S A s.heap s.heap [] := va_S.rf
  have hl := lv_entry ([.long v, .long lo, .long hi]) (n := 6) (Nat.le_of_ble_eq_true rfl)
  rw [lg_entry_eq]
  generalize (lg_sl ([.long v, .long lo, .long hi]) ++ List.replicate (6 - (lg_sl ([.long v, .long lo, .long hi])).length) Slot.unset).toArray = ls at hl ⊢
  have hl : lv_has ls 6 [(0, .long v), (2, .long lo), (4, .long hi)] := hl
  have hP : va_P (dC, dI) cls [] s.heap := hP
  refine lv_lload_n hx hb dX15_in_0 rfl (lv_at hl 0 rfl) ?_
  refine lv_lload_n hx hb dX15_in_1 rfl (lv_at hl 1 rfl) ?_
  refine W.lcmp hx hb dX15_in_2 ?_
  refine lv_if_lt (tgt := 17) hx hb dX15_in_3 (by decide) (fun c0 => absurd c0 ((fun h => absurd ((lg_cmp_lt _ _).mp h) (Int64.not_lt.mpr h1)))) (fun _ => ?_)
  refine lv_lload_n hx hb dX15_in_6 rfl (lv_at hl 0 rfl) ?_
  refine lv_lload hx hb dX15_in_7 (lv_at hl 2 rfl) ?_
  refine W.lcmp hx hb dX15_in_9 ?_
  refine lv_if_gt (tgt := 17) hx hb dX15_in_10 (by decide) (fun c0 => absurd c0 ((fun h => absurd ((lg_cmp_gt _ _).mp h) (Int64.not_lt.mpr h2)))) (fun _ => ?_)
  refine lv_iconst (v := 1) hx hb dX15_in_13 (by decide) ?_
  refine lv_goto (tgt := 18) hx hb dX15_in_14 (by decide) ?_
  exact W.zret (v := 1) hx hb hr rfl (fun t ht9 hW => ⟨⟨1, (), rfl, rfl, by rw [ht9]; exact hP.sub [] rfl, va_K.moved hW.alike (hK.sub [] rfl), hD.sub [] (by decide) rfl⟩, hS.F ht9⟩) hS.2.2 dX15_in_18
theorem in64 {m lo hi : Nat} {v a b : Int64} (hv : v = (nI m).toInt64) (ha : (nI lo).toInt64 = a) (hb : (nI hi).toInt64 = b) (h1 : lo ≤ m) (h2 : m ≤ hi) (h3 : hi < 2 ^ 31) : a ≤ v ∧ v ≤ b := by
  subst hv; subst ha; subst hb
  rw [Int64.le_iff_toInt_le, Int64.le_iff_toInt_le, Int32.toInt_toInt64, Int32.toInt_toInt64, Int32.toInt_toInt64]
  exact ⟨Int32.le_iff_toInt_le.mp (nI_le h1 (by omega)), Int32.le_iff_toInt_le.mp (nI_le h2 h3)⟩
theorem le127 {i : Int32} (h : i ≤ 127) : ¬ 128 ≤ i := by
  intro h1
  rw [Int32.le_iff_toInt_le] at h h1
  have y7 : (127 : Int32).toInt = 127 := by decide
  have y8 : (128 : Int32).toInt = 128 := by decide
  omega
theorem rows_at {X : va_W} {r : Nat → Nat} {cy : ClassId} {j : Nat} (hj : j < 201) : (X ++ rowsP r cy)[X.length + j]? = some (r j, .inl (cy, 128, .inl (fun _ => 0))) := by
  rw [List.getElem?_append_right (Nat.le_add_right _ _), Nat.add_sub_cancel_left]
  show (([] : va_W) ++ ((List.range 201).map r).map (fun a => (a, .inl (cy, 128, .inl (fun _ => 0)))))[j]? = _
  rw [List.nil_append, List.getElem?_map, List.getElem?_map, List.getElem?_range hj]
  rfl
theorem rows_get {X : va_W} {z : Nat × va_E} {k : Nat} {q : Nat × va_E} (hk : (X ++ [z])[k]? = some q) : (k < X.length ∧ X[k]? = some q) ∨ (k = X.length ∧ z = q) := by
  rcases Nat.lt_or_ge k X.length with h | h
  · rw [List.getElem?_append_left h] at hk
    exact Or.inl ⟨h, hk⟩
  · have h2 : k < (X ++ [z]).length := (List.getElem?_eq_some_iff.mp hk).1
    rw [List.length_append] at h2
    have h3 : k = X.length := by simp at h2; omega
    subst h3
    rw [List.getElem?_append_right (Nat.le_refl _), Nat.sub_self] at hk
    exact Or.inr ⟨rfl, Option.some.inj hk⟩
theorem rows_P {D : va_G} {cl : List vw_C} {X : va_W} {r : Nat → Nat} {cy : ClassId} {H : Heap} {j : Nat} (hj : j < 201) (hP : va_P D cl (X ++ rowsP r cy) H) : va_P D cl (X ++ [(r j, .inl (cy, 128, .inl (fun _ => 0)))]) H :=
  hP.by (fun k => if k < X.length then k else X.length + j) (fun k q hk => by
    rcases rows_get hk with ⟨h, h1⟩ | ⟨h, h1⟩
    · rw [if_pos h, List.getElem?_append_left h]; exact h1
    · rw [if_neg (by omega), ← h1]; exact rows_at hj)
theorem rows_D {A : Nat → Prop} {X : va_W} {r : Nat → Nat} {cy : ClassId} {j : Nat} (hj : j < 201) (hD : va_D A (X ++ rowsP r cy)) : va_D A (X ++ [(r j, .inl (cy, 128, .inl (fun _ => 0)))]) :=
  hD.by (fun k => if k < X.length then k else X.length + j) (fun k q hk => by
    rcases rows_get hk with ⟨h, h1⟩ | ⟨h, h1⟩
    · rw [if_pos h, List.getElem?_append_left h]; exact h1
    · rw [if_neg (by omega), ← h1]; exact rows_at hj) (fun i k hi hk h => by
    have h1 : i ≤ X.length := by rw [List.length_append] at hi; simp only [List.length_cons, List.length_nil] at hi; omega
    have h2 : k ≤ X.length := by rw [List.length_append] at hk; simp only [List.length_cons, List.length_nil] at hk; omega
    by_cases c1 : i < X.length
    · by_cases c2 : k < X.length
      · rw [if_pos c1, if_pos c2] at h; exact h
      · rw [if_pos c1, if_neg c2] at h; omega
    · by_cases c2 : k < X.length
      · rw [if_neg c1, if_pos c2] at h; omega
      · omega)
set_option maxHeartbeats 4000000 in
set_option maxRecDepth 100000 in
theorem r_octet_ok (l : Launch) (dC : Nat → ClassId) (dI : Nat → Nat → Nat) (sz : Nat) (q : Nat) (fs : List Value) (qk : Nat) (ck : ClassId) (rk : Nat → Nat) (cy : ClassId) (m9 : Nat) (n9 : Nat) (L_fs : fs.length = 163) (K157_fs : fs[157]? = some (.ref qk)) (hm9 : m9 < 200) (hn9 : n9 < 128) : Met l yX15_octet (Cond.code yX15_octet cX15_octet 3 (some .int) :: tb) ({ frames := 1, cells := 0, slots := 0, locals := 25 }) (pcw [.ref q, .int (nI (m9 + 1)), .int (nI n9)] (dC, dI) [(q, .inr (15, fs)), (qk, .inl (ck, 201, .inr (.inr (.inr (.inr (fun i => if i < 201 then some (rk i) else none)))))), ((rk (m9 + 1)), .inl (cy, 128, .inl (fun _ => 0)))] [(ck, .array .int), (cy, .int)] sz) (va_Qi (fun (r : Int32) => (fun (fs1 : List Value) => (r = 0) ∧ (fs1.length = 163) ∧ (fs1[51]? = some (.int 0)))) (bw (dC, dI) (va_A [(q, .inr (15, fs)), (qk, .inl (ck, 201, .inr (.inr (.inr (.inr (fun i => if i < 201 then some (rk i) else none)))))), ((rk (m9 + 1)), .inl (cy, 128, .inl (fun _ => 0)))] sz) (fun (fs1 : List Value) => [(q, .inr (15, fs1))]) (fun (fs1 : List Value) => [])) (va_A [(q, .inr (15, fs)), (qk, .inl (ck, 201, .inr (.inr (.inr (.inr (fun i => if i < 201 then some (rk i) else none)))))), ((rk (m9 + 1)), .inl (cy, 128, .inl (fun _ => 0)))] sz)) 0 0 (va_A [(q, .inr (15, fs)), (qk, .inl (ck, 201, .inr (.inr (.inr (.inr (fun i => if i < 201 then some (rk i) else none)))))), ((rk (m9 + 1)), .inl (cy, 128, .inl (fun _ => 0)))] sz) := by
  refine Met.ofW (cc := cX15_octet) (maxL := 3) (ret := (some .int)) (by decide) rfl ?_
  intro p e s m args below meth c s₁ B hml hv
  obtain ⟨rfl, hsz, hP, hK, hD0⟩ := hv
  have hx := B.exec
  have hb := B.bytes
  have hr := B.returns
  have hts := atoms_spec (ws := Cond.code yX15_octet cX15_octet 3 (some .int) :: tb) B.pre
  have ht : ∀ w ∈ tb, w.before _ s = true := fun w h => hts w (List.mem_cons_of_mem _ h)
  have hown : s.vm.findClass RX15 = some m.cls := findClass_of_methodNamed B.named
  have hlocks := B.notSynchronized
  subst hsz
  have hD := hD0.self (sz := s.heap.size)
  generalize hAe : va_A [(q, .inr (15, fs)), (qk, .inl (ck, 201, .inr (.inr (.inr (.inr (fun i => if i < 201 then some (rk i) else none)))))), ((rk (m9 + 1)), .inl (cy, 128, .inl (fun _ => 0)))] s.heap.size = A at hD ⊢
  have hA : ∀ q : Nat, s.heap.size ≤ q → A q := fun q h => by rw [← hAe]; exact Or.inr h
  have hS : va_S A s.heap s.heap [] := va_S.rf
  have hl := lv_entry ([.ref q, .int (nI (m9 + 1)), .int (nI n9)]) (n := 3) (Nat.le_of_ble_eq_true rfl)
  rw [lg_entry_eq]
  generalize (lg_sl ([.ref q, .int (nI (m9 + 1)), .int (nI n9)]) ++ List.replicate (3 - (lg_sl ([.ref q, .int (nI (m9 + 1)), .int (nI n9)])).length) Slot.unset).toArray = ls at hl ⊢
  have hl : lv_has ls 3 [(0, .ref q), (1, .int (nI (m9 + 1))), (2, .int (nI n9))] := hl
  have hP : va_P (dC, dI) cls [(q, .inr (15, fs)), (qk, .inl (ck, 201, .inr (.inr (.inr (.inr (fun i => if i < 201 then some (rk i) else none)))))), ((rk (m9 + 1)), .inl (cy, 128, .inl (fun _ => 0)))] s.heap := hP
  refine lv_aload_n hx hb dX15_octet_0 rfl (lv_at hl 0 rfl) ?_
  refine lv_iload_n hx hb dX15_octet_1 rfl (lv_at hl 1 rfl) ?_
  refine lv_i2l hx hb dX15_octet_2 rfl ?_
  refine lv_topl (fun x_1 ex_1 => ?_)
  refine lv_lconst (v := 1) hx hb dX15_octet_3 (by decide) ?_
  refine lv_ldc2 (v := 200) hx hb hown (ht _ k_16_108) dX15_octet_4 ?_
  refine ca_i (wr := [(q, .inr (15, fs)), (qk, .inl (ck, 201, .inr (.inr (.inr (.inr (fun i => if i < 201 then some (rk i) else none)))))), ((rk (m9 + 1)), .inl (cy, 128, .inl (fun _ => 0)))]) (va_runS (As := [.long x_1, .long 1, .long 200]) (rest := [.ref q]) ⟨hx, hb, hml, hown, ht⟩ (r_in_y l dC dI s.heap.size x_1 1 200  (in64 (m := (m9 + 1)) (lo := 1) (hi := 200) (a := 1) (b := 200) ex_1 (by decide) (by decide) (by omega) (by omega) (by decide)).1 (in64 (m := (m9 + 1)) (lo := 1) (hi := 200) (a := 1) (b := 200) ex_1 (by decide) (by decide) (by omega) (by omega) (by decide)).2) (cwS 3 ht (gdS k_12_216 k_12_214 k_12_215 k_1_17) rfl rfl rfl (by decide +kernel) ⟨Nat.le_of_ble_eq_true rfl, Nat.le_of_ble_eq_true rfl⟩) ⟨pcw_blind, pcw_at hP hD hK [] [] (by decide) rfl rfl rfl⟩ rfl rfl hl.1 rfl (lv_room (Nat.le_of_ble_eq_true rfl)) dX15_octet_7 ⟨Nat.le_of_ble_eq_true rfl, Nat.le_of_ble_eq_true rfl⟩) hP hD hK hS hA [] [0, 1, 2] rfl rfl (by decide) (by decide) (fun r_2 u H locs w_3 hK hP hD hS => ?_)
  have hK : va_K (dC, dI) cls [(ck, .array .int), (cy, .int)] s := hK
  have hP : va_P (dC, dI) cls [(q, .inr (15, fs)), (qk, .inl (ck, 201, .inr (.inr (.inr (.inr (fun i => if i < 201 then some (rk i) else none)))))), ((rk (m9 + 1)), .inl (cy, 128, .inl (fun _ => 0)))] H := hP
  have hD : va_D A [(q, .inr (15, fs)), (qk, .inl (ck, 201, .inr (.inr (.inr (.inr (fun i => if i < 201 then some (rk i) else none)))))), ((rk (m9 + 1)), .inl (cy, 128, .inl (fun _ => 0)))] := hD
  obtain rfl : r_2 = 1 := w_3
  refine lv_if_eq (tgt := 29) hx hb dX15_octet_10 (by decide) (fun c0 => absurd c0 (by decide)) (fun _ => ?_)
  refine lv_iload_n hx hb dX15_octet_13 rfl (lv_at hl 2 rfl) ?_
  refine lv_i2l hx hb dX15_octet_14 rfl ?_
  refine lv_topl (fun x_4 ex_4 => ?_)
  refine lv_lconst (v := 0) hx hb dX15_octet_15 (by decide) ?_
  refine lv_ldc2 (v := 127) hx hb hown (ht _ k_16_81) dX15_octet_16 ?_
  refine ca_i (wr := [(q, .inr (15, fs)), (qk, .inl (ck, 201, .inr (.inr (.inr (.inr (fun i => if i < 201 then some (rk i) else none)))))), ((rk (m9 + 1)), .inl (cy, 128, .inl (fun _ => 0)))]) (va_runS (As := [.long x_4, .long 0, .long 127]) (rest := [.ref q]) ⟨hx, hb, hml, hown, ht⟩ (r_in_y l dC dI H.size x_4 0 127  (in64 (m := n9) (lo := 0) (hi := 127) (a := 0) (b := 127) ex_4 (by decide) (by decide) (by omega) (by omega) (by decide)).1 (in64 (m := n9) (lo := 0) (hi := 127) (a := 0) (b := 127) ex_4 (by decide) (by decide) (by omega) (by omega) (by decide)).2) (cwS 3 ht (gdS k_12_216 k_12_214 k_12_215 k_1_17) rfl rfl rfl (by decide +kernel) ⟨Nat.le_of_ble_eq_true rfl, Nat.le_of_ble_eq_true rfl⟩) ⟨pcw_blind, pcw_at hP hD hK [] [] (by decide) rfl rfl rfl⟩ rfl rfl hl.1 rfl (lv_room (Nat.le_of_ble_eq_true rfl)) dX15_octet_19 ⟨Nat.le_of_ble_eq_true rfl, Nat.le_of_ble_eq_true rfl⟩) hP hD hK hS hA [] [0, 1, 2] rfl rfl (by decide) (by decide) (fun r_5 u H locs w_6 hK hP hD hS => ?_)
  have hK : va_K (dC, dI) cls [(ck, .array .int), (cy, .int)] s := hK
  have hP : va_P (dC, dI) cls [(q, .inr (15, fs)), (qk, .inl (ck, 201, .inr (.inr (.inr (.inr (fun i => if i < 201 then some (rk i) else none)))))), ((rk (m9 + 1)), .inl (cy, 128, .inl (fun _ => 0)))] H := hP
  have hD : va_D A [(q, .inr (15, fs)), (qk, .inl (ck, 201, .inr (.inr (.inr (.inr (fun i => if i < 201 then some (rk i) else none)))))), ((rk (m9 + 1)), .inl (cy, 128, .inl (fun _ => 0)))] := hD
  obtain rfl : r_5 = 1 := w_6
  refine lv_if_eq (tgt := 29) hx hb dX15_octet_22 (by decide) (fun c0 => absurd c0 (by decide)) (fun _ => ?_)
  refine lv_iconst (v := 0) hx hb dX15_octet_25 (by decide) ?_
  refine lv_goto (tgt := 30) hx hb dX15_octet_26 (by decide) ?_
  refine va_put (D := (dC, dI)) (ci := 15) (v := .int 0) (ty := .int) (C := RX15) (T := TX15) (N := 163) hx hb ht uX15 tyX15 tkX15 nmX15 hown hK hP hD hS 0 rfl rfl 51 (by decide) (ht _ k_10_239) (fun _ h9 => h9) rfl (by decide +kernel) rfl rfl (by rw [L_fs]; decide) dX15_octet_30 (fun H locs hP hD hS => ?_)
  obtain ⟨F_7, eF_7⟩ : ∃ g : List Value, g = fs.set 51 (.int 0) := ⟨_, rfl⟩
  rw [← eF_7] at hP hD
  have K157_F_7 : F_7[157]? = some (.ref qk) := by rw [eF_7, List.getElem?_set_ne (by decide)]; exact K157_fs
  have K51_F_7 : F_7[51]? = some (.int 0) := by rw [eF_7]; exact List.getElem?_set_self (by rw [L_fs]; decide)
  have L_F_7 : F_7.length = 163 := by rw [eF_7, List.length_set]; exact L_fs
  have hP : va_P (dC, dI) cls [(q, .inr (15, F_7)), (qk, .inl (ck, 201, .inr (.inr (.inr (.inr (fun i => if i < 201 then some (rk i) else none)))))), ((rk (m9 + 1)), .inl (cy, 128, .inl (fun _ => 0)))] H := hP
  have hD : va_D A [(q, .inr (15, F_7)), (qk, .inl (ck, 201, .inr (.inr (.inr (.inr (fun i => if i < 201 then some (rk i) else none)))))), ((rk (m9 + 1)), .inl (cy, 128, .inl (fun _ => 0)))] := hD
  refine lv_aload_n hx hb dX15_octet_33 rfl (lv_at hl 0 rfl) ?_
  refine va_get (D := (dC, dI)) (ci := 15) (v := .int 0) (C := RX15) (T := TX15) (N := 163) hx hb ht uX15 hown hK hP 0 rfl rfl 51 (by decide) (ht _ k_10_239) (fun _ h9 => h9) K51_F_7 dX15_octet_34 ?_
  refine lv_if_le (tgt := 44) hx hb dX15_octet_37 (by decide) (fun _ => ?_) (fun c0 => absurd c0 (by decide))
  refine lv_aload_n hx hb dX15_octet_44 rfl (lv_at hl 0 rfl) ?_
  refine va_get (D := (dC, dI)) (ci := 15) (v := .ref qk) (C := RX15) (T := TX15) (N := 163) hx hb ht uX15 hown hK hP 0 rfl rfl 157 (by decide) (ht _ k_11_105) (fun _ h9 => h9) K157_F_7 dX15_octet_45 ?_
  refine lv_iload_n hx hb dX15_octet_48 rfl (lv_at hl 1 rfl) ?_
  refine va_aldg (v := (rk (m9 + 1))) hx hb hK hP 1 0 rfl rfl (vp_in_nI (by omega) (by decide)) (by rw [nI_clamp (by omega)]; exact if_pos (by omega)) dX15_octet_49 ?_
  refine lv_iload_n hx hb dX15_octet_50 rfl (lv_at hl 2 rfl) ?_
  refine va_iald hx hb hK hP 2 1 rfl rfl (vp_in_nI (by omega) (by decide)) dX15_octet_51 ?_
  refine tk_i (y := 0) rfl ?_
  exact W.iret (v := 0) hx hb hr (fun t ht9 hW => ⟨⟨0, (F_7), rfl, ⟨rfl, L_F_7, K51_F_7⟩, by rw [ht9]; exact hP.sub [0] rfl, va_K.moved hW.alike (hK.sub [] rfl), hD.sub [0] (by decide) rfl⟩, hS.F ht9⟩) hS.2.2 dX15_octet_52
set_option maxHeartbeats 4000000 in
set_option maxRecDepth 100000 in
theorem r_poke_ok (l : Launch) (dC : Nat → ClassId) (dI : Nat → Nat → Nat) (sz : Nat) (q : Nat) (fs : List Value) (qk : Nat) (ck : ClassId) (rk : Nat → Nat) (cy : ClassId) (m9 : Nat) (n9 : Nat) (p2 : Int32) (L_fs : fs.length = 163) (K157_fs : fs[157]? = some (.ref qk)) (hm9 : m9 < 200) (hn9 : n9 < 128) : Met l yX15_poke (Cond.code yX15_poke cX15_poke 4 (some .int) :: tb) ({ frames := 1, cells := 0, slots := 0, locals := 25 }) (pcw [.ref q, .int (nI (m9 + 1)), .int (nI n9), .int p2] (dC, dI) [(q, .inr (15, fs)), (qk, .inl (ck, 201, .inr (.inr (.inr (.inr (fun i => if i < 201 then some (rk i) else none)))))), ((rk (m9 + 1)), .inl (cy, 128, .inl (fun _ => 0)))] [(ck, .array .int), (cy, .int)] sz) (va_Qi (fun (r : Int32) => (fun (fs1 : List Value) => (r = p2 &&& 255) ∧ (fs1.length = 163) ∧ (fs1[51]? = some (.int 0)))) (bw (dC, dI) (va_A [(q, .inr (15, fs)), (qk, .inl (ck, 201, .inr (.inr (.inr (.inr (fun i => if i < 201 then some (rk i) else none)))))), ((rk (m9 + 1)), .inl (cy, 128, .inl (fun _ => 0)))] sz) (fun (fs1 : List Value) => [(q, .inr (15, fs1))]) (fun (fs1 : List Value) => [])) (va_A [(q, .inr (15, fs)), (qk, .inl (ck, 201, .inr (.inr (.inr (.inr (fun i => if i < 201 then some (rk i) else none)))))), ((rk (m9 + 1)), .inl (cy, 128, .inl (fun _ => 0)))] sz)) 0 0 (va_A [(q, .inr (15, fs)), (qk, .inl (ck, 201, .inr (.inr (.inr (.inr (fun i => if i < 201 then some (rk i) else none)))))), ((rk (m9 + 1)), .inl (cy, 128, .inl (fun _ => 0)))] sz) := by
  refine Met.ofW (cc := cX15_poke) (maxL := 4) (ret := (some .int)) (by decide) rfl ?_
  intro p e s m args below meth c s₁ B hml hv
  obtain ⟨rfl, hsz, hP, hK, hD0⟩ := hv
  have hx := B.exec
  have hb := B.bytes
  have hr := B.returns
  have hts := atoms_spec (ws := Cond.code yX15_poke cX15_poke 4 (some .int) :: tb) B.pre
  have ht : ∀ w ∈ tb, w.before _ s = true := fun w h => hts w (List.mem_cons_of_mem _ h)
  have hown : s.vm.findClass RX15 = some m.cls := findClass_of_methodNamed B.named
  have hlocks := B.notSynchronized
  subst hsz
  have hD := hD0.self (sz := s.heap.size)
  generalize hAe : va_A [(q, .inr (15, fs)), (qk, .inl (ck, 201, .inr (.inr (.inr (.inr (fun i => if i < 201 then some (rk i) else none)))))), ((rk (m9 + 1)), .inl (cy, 128, .inl (fun _ => 0)))] s.heap.size = A at hD ⊢
  have hA : ∀ q : Nat, s.heap.size ≤ q → A q := fun q h => by rw [← hAe]; exact Or.inr h
  have hS : va_S A s.heap s.heap [] := va_S.rf
  have hl := lv_entry ([.ref q, .int (nI (m9 + 1)), .int (nI n9), .int p2]) (n := 4) (Nat.le_of_ble_eq_true rfl)
  rw [lg_entry_eq]
  generalize (lg_sl ([.ref q, .int (nI (m9 + 1)), .int (nI n9), .int p2]) ++ List.replicate (4 - (lg_sl ([.ref q, .int (nI (m9 + 1)), .int (nI n9), .int p2])).length) Slot.unset).toArray = ls at hl ⊢
  have hl : lv_has ls 4 [(0, .ref q), (1, .int (nI (m9 + 1))), (2, .int (nI n9)), (3, .int p2)] := hl
  have hP : va_P (dC, dI) cls [(q, .inr (15, fs)), (qk, .inl (ck, 201, .inr (.inr (.inr (.inr (fun i => if i < 201 then some (rk i) else none)))))), ((rk (m9 + 1)), .inl (cy, 128, .inl (fun _ => 0)))] s.heap := hP
  refine lv_aload_n hx hb dX15_poke_0 rfl (lv_at hl 0 rfl) ?_
  refine lv_iload_n hx hb dX15_poke_1 rfl (lv_at hl 1 rfl) ?_
  refine lv_i2l hx hb dX15_poke_2 rfl ?_
  refine lv_topl (fun x_1 ex_1 => ?_)
  refine lv_lconst (v := 1) hx hb dX15_poke_3 (by decide) ?_
  refine lv_ldc2 (v := 200) hx hb hown (ht _ k_16_108) dX15_poke_4 ?_
  refine ca_i (wr := [(q, .inr (15, fs)), (qk, .inl (ck, 201, .inr (.inr (.inr (.inr (fun i => if i < 201 then some (rk i) else none)))))), ((rk (m9 + 1)), .inl (cy, 128, .inl (fun _ => 0)))]) (va_runS (As := [.long x_1, .long 1, .long 200]) (rest := [.ref q]) ⟨hx, hb, hml, hown, ht⟩ (r_in_y l dC dI s.heap.size x_1 1 200  (in64 (m := (m9 + 1)) (lo := 1) (hi := 200) (a := 1) (b := 200) ex_1 (by decide) (by decide) (by omega) (by omega) (by decide)).1 (in64 (m := (m9 + 1)) (lo := 1) (hi := 200) (a := 1) (b := 200) ex_1 (by decide) (by decide) (by omega) (by omega) (by decide)).2) (cwS 3 ht (gdS k_12_216 k_12_214 k_12_215 k_1_17) rfl rfl rfl (by decide +kernel) ⟨Nat.le_of_ble_eq_true rfl, Nat.le_of_ble_eq_true rfl⟩) ⟨pcw_blind, pcw_at hP hD hK [] [] (by decide) rfl rfl rfl⟩ rfl rfl hl.1 rfl (lv_room (Nat.le_of_ble_eq_true rfl)) dX15_poke_7 ⟨Nat.le_of_ble_eq_true rfl, Nat.le_of_ble_eq_true rfl⟩) hP hD hK hS hA [] [0, 1, 2] rfl rfl (by decide) (by decide) (fun r_2 u H locs w_3 hK hP hD hS => ?_)
  have hK : va_K (dC, dI) cls [(ck, .array .int), (cy, .int)] s := hK
  have hP : va_P (dC, dI) cls [(q, .inr (15, fs)), (qk, .inl (ck, 201, .inr (.inr (.inr (.inr (fun i => if i < 201 then some (rk i) else none)))))), ((rk (m9 + 1)), .inl (cy, 128, .inl (fun _ => 0)))] H := hP
  have hD : va_D A [(q, .inr (15, fs)), (qk, .inl (ck, 201, .inr (.inr (.inr (.inr (fun i => if i < 201 then some (rk i) else none)))))), ((rk (m9 + 1)), .inl (cy, 128, .inl (fun _ => 0)))] := hD
  obtain rfl : r_2 = 1 := w_3
  refine lv_if_eq (tgt := 29) hx hb dX15_poke_10 (by decide) (fun c0 => absurd c0 (by decide)) (fun _ => ?_)
  refine lv_iload_n hx hb dX15_poke_13 rfl (lv_at hl 2 rfl) ?_
  refine lv_i2l hx hb dX15_poke_14 rfl ?_
  refine lv_topl (fun x_4 ex_4 => ?_)
  refine lv_lconst (v := 0) hx hb dX15_poke_15 (by decide) ?_
  refine lv_ldc2 (v := 127) hx hb hown (ht _ k_16_81) dX15_poke_16 ?_
  refine ca_i (wr := [(q, .inr (15, fs)), (qk, .inl (ck, 201, .inr (.inr (.inr (.inr (fun i => if i < 201 then some (rk i) else none)))))), ((rk (m9 + 1)), .inl (cy, 128, .inl (fun _ => 0)))]) (va_runS (As := [.long x_4, .long 0, .long 127]) (rest := [.ref q]) ⟨hx, hb, hml, hown, ht⟩ (r_in_y l dC dI H.size x_4 0 127  (in64 (m := n9) (lo := 0) (hi := 127) (a := 0) (b := 127) ex_4 (by decide) (by decide) (by omega) (by omega) (by decide)).1 (in64 (m := n9) (lo := 0) (hi := 127) (a := 0) (b := 127) ex_4 (by decide) (by decide) (by omega) (by omega) (by decide)).2) (cwS 3 ht (gdS k_12_216 k_12_214 k_12_215 k_1_17) rfl rfl rfl (by decide +kernel) ⟨Nat.le_of_ble_eq_true rfl, Nat.le_of_ble_eq_true rfl⟩) ⟨pcw_blind, pcw_at hP hD hK [] [] (by decide) rfl rfl rfl⟩ rfl rfl hl.1 rfl (lv_room (Nat.le_of_ble_eq_true rfl)) dX15_poke_19 ⟨Nat.le_of_ble_eq_true rfl, Nat.le_of_ble_eq_true rfl⟩) hP hD hK hS hA [] [0, 1, 2] rfl rfl (by decide) (by decide) (fun r_5 u H locs w_6 hK hP hD hS => ?_)
  have hK : va_K (dC, dI) cls [(ck, .array .int), (cy, .int)] s := hK
  have hP : va_P (dC, dI) cls [(q, .inr (15, fs)), (qk, .inl (ck, 201, .inr (.inr (.inr (.inr (fun i => if i < 201 then some (rk i) else none)))))), ((rk (m9 + 1)), .inl (cy, 128, .inl (fun _ => 0)))] H := hP
  have hD : va_D A [(q, .inr (15, fs)), (qk, .inl (ck, 201, .inr (.inr (.inr (.inr (fun i => if i < 201 then some (rk i) else none)))))), ((rk (m9 + 1)), .inl (cy, 128, .inl (fun _ => 0)))] := hD
  obtain rfl : r_5 = 1 := w_6
  refine lv_if_eq (tgt := 29) hx hb dX15_poke_22 (by decide) (fun c0 => absurd c0 (by decide)) (fun _ => ?_)
  refine lv_iconst (v := 0) hx hb dX15_poke_25 (by decide) ?_
  refine lv_goto (tgt := 30) hx hb dX15_poke_26 (by decide) ?_
  refine va_put (D := (dC, dI)) (ci := 15) (v := .int 0) (ty := .int) (C := RX15) (T := TX15) (N := 163) hx hb ht uX15 tyX15 tkX15 nmX15 hown hK hP hD hS 0 rfl rfl 51 (by decide) (ht _ k_10_239) (fun _ h9 => h9) rfl (by decide +kernel) rfl rfl (by rw [L_fs]; decide) dX15_poke_30 (fun H locs hP hD hS => ?_)
  obtain ⟨F_7, eF_7⟩ : ∃ g : List Value, g = fs.set 51 (.int 0) := ⟨_, rfl⟩
  rw [← eF_7] at hP hD
  have K157_F_7 : F_7[157]? = some (.ref qk) := by rw [eF_7, List.getElem?_set_ne (by decide)]; exact K157_fs
  have K51_F_7 : F_7[51]? = some (.int 0) := by rw [eF_7]; exact List.getElem?_set_self (by rw [L_fs]; decide)
  have L_F_7 : F_7.length = 163 := by rw [eF_7, List.length_set]; exact L_fs
  have hP : va_P (dC, dI) cls [(q, .inr (15, F_7)), (qk, .inl (ck, 201, .inr (.inr (.inr (.inr (fun i => if i < 201 then some (rk i) else none)))))), ((rk (m9 + 1)), .inl (cy, 128, .inl (fun _ => 0)))] H := hP
  have hD : va_D A [(q, .inr (15, F_7)), (qk, .inl (ck, 201, .inr (.inr (.inr (.inr (fun i => if i < 201 then some (rk i) else none)))))), ((rk (m9 + 1)), .inl (cy, 128, .inl (fun _ => 0)))] := hD
  refine lv_aload_n hx hb dX15_poke_33 rfl (lv_at hl 0 rfl) ?_
  refine va_get (D := (dC, dI)) (ci := 15) (v := .int 0) (C := RX15) (T := TX15) (N := 163) hx hb ht uX15 hown hK hP 0 rfl rfl 51 (by decide) (ht _ k_10_239) (fun _ h9 => h9) K51_F_7 dX15_poke_34 ?_
  refine lv_if_le (tgt := 42) hx hb dX15_poke_37 (by decide) (fun _ => ?_) (fun c0 => absurd c0 (by decide))
  refine lv_aload_n hx hb dX15_poke_42 rfl (lv_at hl 0 rfl) ?_
  refine va_get (D := (dC, dI)) (ci := 15) (v := .ref qk) (C := RX15) (T := TX15) (N := 163) hx hb ht uX15 hown hK hP 0 rfl rfl 157 (by decide) (ht _ k_11_105) (fun _ h9 => h9) K157_F_7 dX15_poke_43 ?_
  refine lv_iload_n hx hb dX15_poke_46 rfl (lv_at hl 1 rfl) ?_
  refine va_aldg (v := (rk (m9 + 1))) hx hb hK hP 1 0 rfl rfl (vp_in_nI (by omega) (by decide)) (by rw [nI_clamp (by omega)]; exact if_pos (by omega)) dX15_poke_47 ?_
  refine lv_iload_n hx hb dX15_poke_48 rfl (lv_at hl 2 rfl) ?_
  refine lv_dup2_11 hx hb dX15_poke_49 rfl rfl ?_
  refine va_iald hx hb hK hP 2 1 rfl rfl (vp_in_nI (by omega) (by decide)) dX15_poke_50 ?_
  refine tk_i (y := 0) rfl ?_
  refine lv_iload_n hx hb dX15_poke_51 rfl (lv_at hl 3 rfl) ?_
  refine lv_sipush (v := 255) hx hb dX15_poke_52 (by decide) ?_
  refine lv_iand hx hb dX15_poke_55 ?_
  refine lv_topi (fun x_8 ex_8 => ?_)
  refine lv_ixor hx hb dX15_poke_56 ?_
  refine tk_i (y := x_8) (Int32.zero_xor) ?_
  refine va_iast (i := (nI n9)) (x := x_8) hx hb hK hP hD hS 2 1 rfl rfl (vp_in_nI (by omega) (by decide)) dX15_poke_57 (fun H locs hP hD hS => ?_)
  obtain ⟨f_9, ef_9⟩ : ∃ g : Nat → Int32, g = upd (fun _ => 0) (nI n9).toNatClampNeg x_8 := ⟨_, rfl⟩
  rw [← ef_9] at hP hD
  have hP : va_P (dC, dI) cls [(q, .inr (15, F_7)), (qk, .inl (ck, 201, .inr (.inr (.inr (.inr (fun i => if i < 201 then some (rk i) else none)))))), ((rk (m9 + 1)), .inl (cy, 128, .inl f_9))] H := hP
  have hD : va_D A [(q, .inr (15, F_7)), (qk, .inl (ck, 201, .inr (.inr (.inr (.inr (fun i => if i < 201 then some (rk i) else none)))))), ((rk (m9 + 1)), .inl (cy, 128, .inl f_9))] := hD
  refine lv_aload_n hx hb dX15_poke_58 rfl (lv_at hl 0 rfl) ?_
  refine va_get (D := (dC, dI)) (ci := 15) (v := .ref qk) (C := RX15) (T := TX15) (N := 163) hx hb ht uX15 hown hK hP 0 rfl rfl 157 (by decide) (ht _ k_11_105) (fun _ h9 => h9) K157_F_7 dX15_poke_59 ?_
  refine lv_iload_n hx hb dX15_poke_62 rfl (lv_at hl 1 rfl) ?_
  refine va_aldg (v := (rk (m9 + 1))) hx hb hK hP 1 0 rfl rfl (vp_in_nI (by omega) (by decide)) (by rw [nI_clamp (by omega)]; exact if_pos (by omega)) dX15_poke_63 ?_
  refine lv_iload_n hx hb dX15_poke_64 rfl (lv_at hl 2 rfl) ?_
  refine va_iald hx hb hK hP 2 1 rfl rfl (vp_in_nI (by omega) (by decide)) dX15_poke_65 ?_
  refine tk_i (y := x_8) (by rw [ef_9]; exact pk_us) ?_
  exact W.iret (v := x_8) hx hb hr (fun t ht9 hW => ⟨⟨x_8, F_7, rfl, ⟨ex_8, L_F_7, K51_F_7⟩, by rw [ht9]; exact hP.sub [0] rfl, va_K.moved hW.alike (hK.sub [] rfl), hD.sub [0] (by decide) rfl⟩, hS.F ht9⟩) hS.2.2 dX15_poke_66
set_option maxHeartbeats 4000000 in
set_option maxRecDepth 100000 in
theorem r_octet_no (l : Launch) (dC : Nat → ClassId) (dI : Nat → Nat → Nat) (sz : Nat) (q : Nat) (fs : List Value) (p0 : Int32) (p1 : Int32) (L_fs : fs.length = 163) (hn : ¬ dkin p0 p1) : Met l yX15_octet (Cond.code yX15_octet cX15_octet 3 (some .int) :: tb) ({ frames := 1, cells := 0, slots := 0, locals := 25 }) (pcw [.ref q, .int p0, .int p1] (dC, dI) [(q, .inr (15, fs))] [] sz) (va_Qi (fun (r : Int32) => (fun (fs1 : List Value) => (r = 0) ∧ (fs1.length = 163) ∧ (fs1[51]? = some (.int 1)))) (bw (dC, dI) (va_A [(q, .inr (15, fs))] sz) (fun (fs1 : List Value) => [(q, .inr (15, fs1))]) (fun (fs1 : List Value) => [])) (va_A [(q, .inr (15, fs))] sz)) 0 0 (va_A [(q, .inr (15, fs))] sz) := by
  refine Met.ofW (cc := cX15_octet) (maxL := 3) (ret := (some .int)) (by decide) rfl ?_
  intro p e s m args below meth c s₁ B hml hv
  obtain ⟨rfl, hsz, hP, hK, hD0⟩ := hv
  have hx := B.exec
  have hb := B.bytes
  have hr := B.returns
  have hts := atoms_spec (ws := Cond.code yX15_octet cX15_octet 3 (some .int) :: tb) B.pre
  have ht : ∀ w ∈ tb, w.before _ s = true := fun w h => hts w (List.mem_cons_of_mem _ h)
  have hown : s.vm.findClass RX15 = some m.cls := findClass_of_methodNamed B.named
  have hlocks := B.notSynchronized
  subst hsz
  have hD := hD0.self (sz := s.heap.size)
  generalize hAe : va_A [(q, .inr (15, fs))] s.heap.size = A at hD ⊢
  have hA : ∀ q : Nat, s.heap.size ≤ q → A q := fun q h => by rw [← hAe]; exact Or.inr h
  have hS : va_S A s.heap s.heap [] := va_S.rf
  have hl := lv_entry ([.ref q, .int p0, .int p1]) (n := 3) (Nat.le_of_ble_eq_true rfl)
  rw [lg_entry_eq]
  generalize (lg_sl ([.ref q, .int p0, .int p1]) ++ List.replicate (3 - (lg_sl ([.ref q, .int p0, .int p1])).length) Slot.unset).toArray = ls at hl ⊢
  have hl : lv_has ls 3 [(0, .ref q), (1, .int p0), (2, .int p1)] := hl
  have hP : va_P (dC, dI) cls [(q, .inr (15, fs))] s.heap := hP
  refine lv_aload_n hx hb dX15_octet_0 rfl (lv_at hl 0 rfl) ?_
  refine lv_iload_n hx hb dX15_octet_1 rfl (lv_at hl 1 rfl) ?_
  refine lv_i2l hx hb dX15_octet_2 rfl ?_
  refine lv_topl (fun x_1 ex_1 => ?_)
  refine lv_lconst (v := 1) hx hb dX15_octet_3 (by decide) ?_
  refine lv_ldc2 (v := 200) hx hb hown (ht _ k_16_108) dX15_octet_4 ?_
  refine ca_i (wr := [(q, .inr (15, fs))]) (va_runS (As := [.long x_1, .long 1, .long 200]) (rest := [.ref q]) ⟨hx, hb, hml, hown, ht⟩ (r_in l dC dI s.heap.size x_1 1 200  ) (cwS 3 ht (gdS k_12_216 k_12_214 k_12_215 k_1_17) rfl rfl rfl (by decide +kernel) ⟨Nat.le_of_ble_eq_true rfl, Nat.le_of_ble_eq_true rfl⟩) ⟨pcw_blind, pcw_at hP hD hK [] [] (by decide) rfl rfl rfl⟩ rfl rfl hl.1 rfl (lv_room (Nat.le_of_ble_eq_true rfl)) dX15_octet_7 ⟨Nat.le_of_ble_eq_true rfl, Nat.le_of_ble_eq_true rfl⟩) hP hD hK hS hA [] [0] rfl rfl (by decide) (by decide) (fun r_2 u H locs w_3 hK hP hD hS => ?_)
  have hK : va_K (dC, dI) cls [] s := hK
  have hP : va_P (dC, dI) cls [(q, .inr (15, fs))] H := hP
  have hD : va_D A [(q, .inr (15, fs))] := hD
  rcases w_3 with ⟨rfl, n_4⟩ | ⟨rfl, n_4⟩
  · obtain ⟨n_4a, n_4b⟩ := in_yes (p := p0) (lo := 1) (hi := 200) ex_1 (by decide) (by decide) n_4
    refine lv_if_eq (tgt := 29) hx hb dX15_octet_10 (by decide) (fun c0 => absurd c0 (by decide)) (fun _ => ?_)
    refine lv_iload_n hx hb dX15_octet_13 rfl (lv_at hl 2 rfl) ?_
    refine lv_i2l hx hb dX15_octet_14 rfl ?_
    refine lv_topl (fun x_5 ex_5 => ?_)
    refine lv_lconst (v := 0) hx hb dX15_octet_15 (by decide) ?_
    refine lv_ldc2 (v := 127) hx hb hown (ht _ k_16_81) dX15_octet_16 ?_
    refine ca_i (wr := [(q, .inr (15, fs))]) (va_runS (As := [.long x_5, .long 0, .long 127]) (rest := [.ref q]) ⟨hx, hb, hml, hown, ht⟩ (r_in l dC dI H.size x_5 0 127  ) (cwS 3 ht (gdS k_12_216 k_12_214 k_12_215 k_1_17) rfl rfl rfl (by decide +kernel) ⟨Nat.le_of_ble_eq_true rfl, Nat.le_of_ble_eq_true rfl⟩) ⟨pcw_blind, pcw_at hP hD hK [] [] (by decide) rfl rfl rfl⟩ rfl rfl hl.1 rfl (lv_room (Nat.le_of_ble_eq_true rfl)) dX15_octet_19 ⟨Nat.le_of_ble_eq_true rfl, Nat.le_of_ble_eq_true rfl⟩) hP hD hK hS hA [] [0] rfl rfl (by decide) (by decide) (fun r_6 u H locs w_7 hK hP hD hS => ?_)
    have hK : va_K (dC, dI) cls [] s := hK
    have hP : va_P (dC, dI) cls [(q, .inr (15, fs))] H := hP
    have hD : va_D A [(q, .inr (15, fs))] := hD
    rcases w_7 with ⟨rfl, n_8⟩ | ⟨rfl, n_8⟩
    · obtain ⟨n_8a, n_8b⟩ := in_yes (p := p1) (lo := 0) (hi := 127) ex_5 (by decide) (by decide) n_8
      refine lv_if_eq (tgt := 29) hx hb dX15_octet_22 (by decide) (fun c0 => absurd c0 (by decide)) (fun _ => ?_)
      exact absurd ⟨n_4a, Int32.not_lt.mpr n_4b, n_8a, le127 n_8b⟩ hn
    · rcases in_no (p := p1) (lo := 0) (hi := 127) ex_5 (by decide) (by decide) n_8 with n_8c | n_8c
      · refine lv_if_eq (tgt := 29) hx hb dX15_octet_22 (by decide) (fun _ => ?_) (fun c0 => absurd c0 (by decide))
        refine lv_iconst (v := 1) hx hb dX15_octet_29 (by decide) ?_
        refine va_put (D := (dC, dI)) (ci := 15) (v := .int 1) (ty := .int) (C := RX15) (T := TX15) (N := 163) hx hb ht uX15 tyX15 tkX15 nmX15 hown hK hP hD hS 0 rfl rfl 51 (by decide) (ht _ k_10_239) (fun _ h9 => h9) rfl (by decide +kernel) rfl rfl (by rw [L_fs]; decide) dX15_octet_30 (fun H locs hP hD hS => ?_)
        obtain ⟨F_9, eF_9⟩ : ∃ g : List Value, g = fs.set 51 (.int 1) := ⟨_, rfl⟩
        rw [← eF_9] at hP hD
        have K51_F_9 : F_9[51]? = some (.int 1) := by rw [eF_9]; exact List.getElem?_set_self (by rw [L_fs]; decide)
        have L_F_9 : F_9.length = 163 := by rw [eF_9, List.length_set]; exact L_fs
        have hP : va_P (dC, dI) cls [(q, .inr (15, F_9))] H := hP
        have hD : va_D A [(q, .inr (15, F_9))] := hD
        refine lv_aload_n hx hb dX15_octet_33 rfl (lv_at hl 0 rfl) ?_
        refine va_get (D := (dC, dI)) (ci := 15) (v := .int 1) (C := RX15) (T := TX15) (N := 163) hx hb ht uX15 hown hK hP 0 rfl rfl 51 (by decide) (ht _ k_10_239) (fun _ h9 => h9) K51_F_9 dX15_octet_34 ?_
        refine lv_if_le (tgt := 44) hx hb dX15_octet_37 (by decide) (fun c0 => absurd c0 (by decide)) (fun _ => ?_)
        refine lv_iconst (v := 0) hx hb dX15_octet_40 (by decide) ?_
        refine lv_goto (tgt := 52) hx hb dX15_octet_41 (by decide) ?_
        exact W.iret (v := 0) hx hb hr (fun t ht9 hW => ⟨⟨0, (F_9), rfl, ⟨rfl, L_F_9, K51_F_9⟩, by rw [ht9]; exact hP.sub [0] rfl, va_K.moved hW.alike (hK.sub [] rfl), hD.sub [0] (by decide) rfl⟩, hS.F ht9⟩) hS.2.2 dX15_octet_52
      · refine lv_if_eq (tgt := 29) hx hb dX15_octet_22 (by decide) (fun _ => ?_) (fun c0 => absurd c0 (by decide))
        refine lv_iconst (v := 1) hx hb dX15_octet_29 (by decide) ?_
        refine va_put (D := (dC, dI)) (ci := 15) (v := .int 1) (ty := .int) (C := RX15) (T := TX15) (N := 163) hx hb ht uX15 tyX15 tkX15 nmX15 hown hK hP hD hS 0 rfl rfl 51 (by decide) (ht _ k_10_239) (fun _ h9 => h9) rfl (by decide +kernel) rfl rfl (by rw [L_fs]; decide) dX15_octet_30 (fun H locs hP hD hS => ?_)
        obtain ⟨F_10, eF_10⟩ : ∃ g : List Value, g = fs.set 51 (.int 1) := ⟨_, rfl⟩
        rw [← eF_10] at hP hD
        have K51_F_10 : F_10[51]? = some (.int 1) := by rw [eF_10]; exact List.getElem?_set_self (by rw [L_fs]; decide)
        have L_F_10 : F_10.length = 163 := by rw [eF_10, List.length_set]; exact L_fs
        have hP : va_P (dC, dI) cls [(q, .inr (15, F_10))] H := hP
        have hD : va_D A [(q, .inr (15, F_10))] := hD
        refine lv_aload_n hx hb dX15_octet_33 rfl (lv_at hl 0 rfl) ?_
        refine va_get (D := (dC, dI)) (ci := 15) (v := .int 1) (C := RX15) (T := TX15) (N := 163) hx hb ht uX15 hown hK hP 0 rfl rfl 51 (by decide) (ht _ k_10_239) (fun _ h9 => h9) K51_F_10 dX15_octet_34 ?_
        refine lv_if_le (tgt := 44) hx hb dX15_octet_37 (by decide) (fun c0 => absurd c0 (by decide)) (fun _ => ?_)
        refine lv_iconst (v := 0) hx hb dX15_octet_40 (by decide) ?_
        refine lv_goto (tgt := 52) hx hb dX15_octet_41 (by decide) ?_
        exact W.iret (v := 0) hx hb hr (fun t ht9 hW => ⟨⟨0, (F_10), rfl, ⟨rfl, L_F_10, K51_F_10⟩, by rw [ht9]; exact hP.sub [0] rfl, va_K.moved hW.alike (hK.sub [] rfl), hD.sub [0] (by decide) rfl⟩, hS.F ht9⟩) hS.2.2 dX15_octet_52
  · rcases in_no (p := p0) (lo := 1) (hi := 200) ex_1 (by decide) (by decide) n_4 with n_4c | n_4c
    · refine lv_if_eq (tgt := 29) hx hb dX15_octet_10 (by decide) (fun _ => ?_) (fun c0 => absurd c0 (by decide))
      refine lv_iconst (v := 1) hx hb dX15_octet_29 (by decide) ?_
      refine va_put (D := (dC, dI)) (ci := 15) (v := .int 1) (ty := .int) (C := RX15) (T := TX15) (N := 163) hx hb ht uX15 tyX15 tkX15 nmX15 hown hK hP hD hS 0 rfl rfl 51 (by decide) (ht _ k_10_239) (fun _ h9 => h9) rfl (by decide +kernel) rfl rfl (by rw [L_fs]; decide) dX15_octet_30 (fun H locs hP hD hS => ?_)
      obtain ⟨F_11, eF_11⟩ : ∃ g : List Value, g = fs.set 51 (.int 1) := ⟨_, rfl⟩
      rw [← eF_11] at hP hD
      have K51_F_11 : F_11[51]? = some (.int 1) := by rw [eF_11]; exact List.getElem?_set_self (by rw [L_fs]; decide)
      have L_F_11 : F_11.length = 163 := by rw [eF_11, List.length_set]; exact L_fs
      have hP : va_P (dC, dI) cls [(q, .inr (15, F_11))] H := hP
      have hD : va_D A [(q, .inr (15, F_11))] := hD
      refine lv_aload_n hx hb dX15_octet_33 rfl (lv_at hl 0 rfl) ?_
      refine va_get (D := (dC, dI)) (ci := 15) (v := .int 1) (C := RX15) (T := TX15) (N := 163) hx hb ht uX15 hown hK hP 0 rfl rfl 51 (by decide) (ht _ k_10_239) (fun _ h9 => h9) K51_F_11 dX15_octet_34 ?_
      refine lv_if_le (tgt := 44) hx hb dX15_octet_37 (by decide) (fun c0 => absurd c0 (by decide)) (fun _ => ?_)
      refine lv_iconst (v := 0) hx hb dX15_octet_40 (by decide) ?_
      refine lv_goto (tgt := 52) hx hb dX15_octet_41 (by decide) ?_
      exact W.iret (v := 0) hx hb hr (fun t ht9 hW => ⟨⟨0, (F_11), rfl, ⟨rfl, L_F_11, K51_F_11⟩, by rw [ht9]; exact hP.sub [0] rfl, va_K.moved hW.alike (hK.sub [] rfl), hD.sub [0] (by decide) rfl⟩, hS.F ht9⟩) hS.2.2 dX15_octet_52
    · refine lv_if_eq (tgt := 29) hx hb dX15_octet_10 (by decide) (fun _ => ?_) (fun c0 => absurd c0 (by decide))
      refine lv_iconst (v := 1) hx hb dX15_octet_29 (by decide) ?_
      refine va_put (D := (dC, dI)) (ci := 15) (v := .int 1) (ty := .int) (C := RX15) (T := TX15) (N := 163) hx hb ht uX15 tyX15 tkX15 nmX15 hown hK hP hD hS 0 rfl rfl 51 (by decide) (ht _ k_10_239) (fun _ h9 => h9) rfl (by decide +kernel) rfl rfl (by rw [L_fs]; decide) dX15_octet_30 (fun H locs hP hD hS => ?_)
      obtain ⟨F_12, eF_12⟩ : ∃ g : List Value, g = fs.set 51 (.int 1) := ⟨_, rfl⟩
      rw [← eF_12] at hP hD
      have K51_F_12 : F_12[51]? = some (.int 1) := by rw [eF_12]; exact List.getElem?_set_self (by rw [L_fs]; decide)
      have L_F_12 : F_12.length = 163 := by rw [eF_12, List.length_set]; exact L_fs
      have hP : va_P (dC, dI) cls [(q, .inr (15, F_12))] H := hP
      have hD : va_D A [(q, .inr (15, F_12))] := hD
      refine lv_aload_n hx hb dX15_octet_33 rfl (lv_at hl 0 rfl) ?_
      refine va_get (D := (dC, dI)) (ci := 15) (v := .int 1) (C := RX15) (T := TX15) (N := 163) hx hb ht uX15 hown hK hP 0 rfl rfl 51 (by decide) (ht _ k_10_239) (fun _ h9 => h9) K51_F_12 dX15_octet_34 ?_
      refine lv_if_le (tgt := 44) hx hb dX15_octet_37 (by decide) (fun c0 => absurd c0 (by decide)) (fun _ => ?_)
      refine lv_iconst (v := 0) hx hb dX15_octet_40 (by decide) ?_
      refine lv_goto (tgt := 52) hx hb dX15_octet_41 (by decide) ?_
      exact W.iret (v := 0) hx hb hr (fun t ht9 hW => ⟨⟨0, (F_12), rfl, ⟨rfl, L_F_12, K51_F_12⟩, by rw [ht9]; exact hP.sub [0] rfl, va_K.moved hW.alike (hK.sub [] rfl), hD.sub [0] (by decide) rfl⟩, hS.F ht9⟩) hS.2.2 dX15_octet_52
set_option maxHeartbeats 4000000 in
set_option maxRecDepth 100000 in
theorem r_poke_no (l : Launch) (dC : Nat → ClassId) (dI : Nat → Nat → Nat) (sz : Nat) (q : Nat) (fs : List Value) (p0 : Int32) (p1 : Int32) (p2 : Int32) (L_fs : fs.length = 163) (hn : ¬ dkin p0 p1) : Met l yX15_poke (Cond.code yX15_poke cX15_poke 4 (some .int) :: tb) ({ frames := 1, cells := 0, slots := 0, locals := 25 }) (pcw [.ref q, .int p0, .int p1, .int p2] (dC, dI) [(q, .inr (15, fs))] [] sz) (va_Qi (fun (r : Int32) => (fun (fs1 : List Value) => (r = 0) ∧ (fs1.length = 163) ∧ (fs1[51]? = some (.int 1)))) (bw (dC, dI) (va_A [(q, .inr (15, fs))] sz) (fun (fs1 : List Value) => [(q, .inr (15, fs1))]) (fun (fs1 : List Value) => [])) (va_A [(q, .inr (15, fs))] sz)) 0 0 (va_A [(q, .inr (15, fs))] sz) := by
  refine Met.ofW (cc := cX15_poke) (maxL := 4) (ret := (some .int)) (by decide) rfl ?_
  intro p e s m args below meth c s₁ B hml hv
  obtain ⟨rfl, hsz, hP, hK, hD0⟩ := hv
  have hx := B.exec
  have hb := B.bytes
  have hr := B.returns
  have hts := atoms_spec (ws := Cond.code yX15_poke cX15_poke 4 (some .int) :: tb) B.pre
  have ht : ∀ w ∈ tb, w.before _ s = true := fun w h => hts w (List.mem_cons_of_mem _ h)
  have hown : s.vm.findClass RX15 = some m.cls := findClass_of_methodNamed B.named
  have hlocks := B.notSynchronized
  subst hsz
  have hD := hD0.self (sz := s.heap.size)
  generalize hAe : va_A [(q, .inr (15, fs))] s.heap.size = A at hD ⊢
  have hA : ∀ q : Nat, s.heap.size ≤ q → A q := fun q h => by rw [← hAe]; exact Or.inr h
  have hS : va_S A s.heap s.heap [] := va_S.rf
  have hl := lv_entry ([.ref q, .int p0, .int p1, .int p2]) (n := 4) (Nat.le_of_ble_eq_true rfl)
  rw [lg_entry_eq]
  generalize (lg_sl ([.ref q, .int p0, .int p1, .int p2]) ++ List.replicate (4 - (lg_sl ([.ref q, .int p0, .int p1, .int p2])).length) Slot.unset).toArray = ls at hl ⊢
  have hl : lv_has ls 4 [(0, .ref q), (1, .int p0), (2, .int p1), (3, .int p2)] := hl
  have hP : va_P (dC, dI) cls [(q, .inr (15, fs))] s.heap := hP
  refine lv_aload_n hx hb dX15_poke_0 rfl (lv_at hl 0 rfl) ?_
  refine lv_iload_n hx hb dX15_poke_1 rfl (lv_at hl 1 rfl) ?_
  refine lv_i2l hx hb dX15_poke_2 rfl ?_
  refine lv_topl (fun x_1 ex_1 => ?_)
  refine lv_lconst (v := 1) hx hb dX15_poke_3 (by decide) ?_
  refine lv_ldc2 (v := 200) hx hb hown (ht _ k_16_108) dX15_poke_4 ?_
  refine ca_i (wr := [(q, .inr (15, fs))]) (va_runS (As := [.long x_1, .long 1, .long 200]) (rest := [.ref q]) ⟨hx, hb, hml, hown, ht⟩ (r_in l dC dI s.heap.size x_1 1 200  ) (cwS 3 ht (gdS k_12_216 k_12_214 k_12_215 k_1_17) rfl rfl rfl (by decide +kernel) ⟨Nat.le_of_ble_eq_true rfl, Nat.le_of_ble_eq_true rfl⟩) ⟨pcw_blind, pcw_at hP hD hK [] [] (by decide) rfl rfl rfl⟩ rfl rfl hl.1 rfl (lv_room (Nat.le_of_ble_eq_true rfl)) dX15_poke_7 ⟨Nat.le_of_ble_eq_true rfl, Nat.le_of_ble_eq_true rfl⟩) hP hD hK hS hA [] [0] rfl rfl (by decide) (by decide) (fun r_2 u H locs w_3 hK hP hD hS => ?_)
  have hK : va_K (dC, dI) cls [] s := hK
  have hP : va_P (dC, dI) cls [(q, .inr (15, fs))] H := hP
  have hD : va_D A [(q, .inr (15, fs))] := hD
  rcases w_3 with ⟨rfl, n_4⟩ | ⟨rfl, n_4⟩
  · obtain ⟨n_4a, n_4b⟩ := in_yes (p := p0) (lo := 1) (hi := 200) ex_1 (by decide) (by decide) n_4
    refine lv_if_eq (tgt := 29) hx hb dX15_poke_10 (by decide) (fun c0 => absurd c0 (by decide)) (fun _ => ?_)
    refine lv_iload_n hx hb dX15_poke_13 rfl (lv_at hl 2 rfl) ?_
    refine lv_i2l hx hb dX15_poke_14 rfl ?_
    refine lv_topl (fun x_5 ex_5 => ?_)
    refine lv_lconst (v := 0) hx hb dX15_poke_15 (by decide) ?_
    refine lv_ldc2 (v := 127) hx hb hown (ht _ k_16_81) dX15_poke_16 ?_
    refine ca_i (wr := [(q, .inr (15, fs))]) (va_runS (As := [.long x_5, .long 0, .long 127]) (rest := [.ref q]) ⟨hx, hb, hml, hown, ht⟩ (r_in l dC dI H.size x_5 0 127  ) (cwS 3 ht (gdS k_12_216 k_12_214 k_12_215 k_1_17) rfl rfl rfl (by decide +kernel) ⟨Nat.le_of_ble_eq_true rfl, Nat.le_of_ble_eq_true rfl⟩) ⟨pcw_blind, pcw_at hP hD hK [] [] (by decide) rfl rfl rfl⟩ rfl rfl hl.1 rfl (lv_room (Nat.le_of_ble_eq_true rfl)) dX15_poke_19 ⟨Nat.le_of_ble_eq_true rfl, Nat.le_of_ble_eq_true rfl⟩) hP hD hK hS hA [] [0] rfl rfl (by decide) (by decide) (fun r_6 u H locs w_7 hK hP hD hS => ?_)
    have hK : va_K (dC, dI) cls [] s := hK
    have hP : va_P (dC, dI) cls [(q, .inr (15, fs))] H := hP
    have hD : va_D A [(q, .inr (15, fs))] := hD
    rcases w_7 with ⟨rfl, n_8⟩ | ⟨rfl, n_8⟩
    · obtain ⟨n_8a, n_8b⟩ := in_yes (p := p1) (lo := 0) (hi := 127) ex_5 (by decide) (by decide) n_8
      refine lv_if_eq (tgt := 29) hx hb dX15_poke_22 (by decide) (fun c0 => absurd c0 (by decide)) (fun _ => ?_)
      exact absurd ⟨n_4a, Int32.not_lt.mpr n_4b, n_8a, le127 n_8b⟩ hn
    · rcases in_no (p := p1) (lo := 0) (hi := 127) ex_5 (by decide) (by decide) n_8 with n_8c | n_8c
      · refine lv_if_eq (tgt := 29) hx hb dX15_poke_22 (by decide) (fun _ => ?_) (fun c0 => absurd c0 (by decide))
        refine lv_iconst (v := 1) hx hb dX15_poke_29 (by decide) ?_
        refine va_put (D := (dC, dI)) (ci := 15) (v := .int 1) (ty := .int) (C := RX15) (T := TX15) (N := 163) hx hb ht uX15 tyX15 tkX15 nmX15 hown hK hP hD hS 0 rfl rfl 51 (by decide) (ht _ k_10_239) (fun _ h9 => h9) rfl (by decide +kernel) rfl rfl (by rw [L_fs]; decide) dX15_poke_30 (fun H locs hP hD hS => ?_)
        obtain ⟨F_9, eF_9⟩ : ∃ g : List Value, g = fs.set 51 (.int 1) := ⟨_, rfl⟩
        rw [← eF_9] at hP hD
        have K51_F_9 : F_9[51]? = some (.int 1) := by rw [eF_9]; exact List.getElem?_set_self (by rw [L_fs]; decide)
        have L_F_9 : F_9.length = 163 := by rw [eF_9, List.length_set]; exact L_fs
        have hP : va_P (dC, dI) cls [(q, .inr (15, F_9))] H := hP
        have hD : va_D A [(q, .inr (15, F_9))] := hD
        refine lv_aload_n hx hb dX15_poke_33 rfl (lv_at hl 0 rfl) ?_
        refine va_get (D := (dC, dI)) (ci := 15) (v := .int 1) (C := RX15) (T := TX15) (N := 163) hx hb ht uX15 hown hK hP 0 rfl rfl 51 (by decide) (ht _ k_10_239) (fun _ h9 => h9) K51_F_9 dX15_poke_34 ?_
        refine lv_if_le (tgt := 42) hx hb dX15_poke_37 (by decide) (fun c0 => absurd c0 (by decide)) (fun _ => ?_)
        refine lv_iconst (v := 0) hx hb dX15_poke_40 (by decide) ?_
        exact W.iret (v := 0) hx hb hr (fun t ht9 hW => ⟨⟨0, (F_9), rfl, ⟨rfl, L_F_9, K51_F_9⟩, by rw [ht9]; exact hP.sub [0] rfl, va_K.moved hW.alike (hK.sub [] rfl), hD.sub [0] (by decide) rfl⟩, hS.F ht9⟩) hS.2.2 dX15_poke_41
      · refine lv_if_eq (tgt := 29) hx hb dX15_poke_22 (by decide) (fun _ => ?_) (fun c0 => absurd c0 (by decide))
        refine lv_iconst (v := 1) hx hb dX15_poke_29 (by decide) ?_
        refine va_put (D := (dC, dI)) (ci := 15) (v := .int 1) (ty := .int) (C := RX15) (T := TX15) (N := 163) hx hb ht uX15 tyX15 tkX15 nmX15 hown hK hP hD hS 0 rfl rfl 51 (by decide) (ht _ k_10_239) (fun _ h9 => h9) rfl (by decide +kernel) rfl rfl (by rw [L_fs]; decide) dX15_poke_30 (fun H locs hP hD hS => ?_)
        obtain ⟨F_10, eF_10⟩ : ∃ g : List Value, g = fs.set 51 (.int 1) := ⟨_, rfl⟩
        rw [← eF_10] at hP hD
        have K51_F_10 : F_10[51]? = some (.int 1) := by rw [eF_10]; exact List.getElem?_set_self (by rw [L_fs]; decide)
        have L_F_10 : F_10.length = 163 := by rw [eF_10, List.length_set]; exact L_fs
        have hP : va_P (dC, dI) cls [(q, .inr (15, F_10))] H := hP
        have hD : va_D A [(q, .inr (15, F_10))] := hD
        refine lv_aload_n hx hb dX15_poke_33 rfl (lv_at hl 0 rfl) ?_
        refine va_get (D := (dC, dI)) (ci := 15) (v := .int 1) (C := RX15) (T := TX15) (N := 163) hx hb ht uX15 hown hK hP 0 rfl rfl 51 (by decide) (ht _ k_10_239) (fun _ h9 => h9) K51_F_10 dX15_poke_34 ?_
        refine lv_if_le (tgt := 42) hx hb dX15_poke_37 (by decide) (fun c0 => absurd c0 (by decide)) (fun _ => ?_)
        refine lv_iconst (v := 0) hx hb dX15_poke_40 (by decide) ?_
        exact W.iret (v := 0) hx hb hr (fun t ht9 hW => ⟨⟨0, (F_10), rfl, ⟨rfl, L_F_10, K51_F_10⟩, by rw [ht9]; exact hP.sub [0] rfl, va_K.moved hW.alike (hK.sub [] rfl), hD.sub [0] (by decide) rfl⟩, hS.F ht9⟩) hS.2.2 dX15_poke_41
  · rcases in_no (p := p0) (lo := 1) (hi := 200) ex_1 (by decide) (by decide) n_4 with n_4c | n_4c
    · refine lv_if_eq (tgt := 29) hx hb dX15_poke_10 (by decide) (fun _ => ?_) (fun c0 => absurd c0 (by decide))
      refine lv_iconst (v := 1) hx hb dX15_poke_29 (by decide) ?_
      refine va_put (D := (dC, dI)) (ci := 15) (v := .int 1) (ty := .int) (C := RX15) (T := TX15) (N := 163) hx hb ht uX15 tyX15 tkX15 nmX15 hown hK hP hD hS 0 rfl rfl 51 (by decide) (ht _ k_10_239) (fun _ h9 => h9) rfl (by decide +kernel) rfl rfl (by rw [L_fs]; decide) dX15_poke_30 (fun H locs hP hD hS => ?_)
      obtain ⟨F_11, eF_11⟩ : ∃ g : List Value, g = fs.set 51 (.int 1) := ⟨_, rfl⟩
      rw [← eF_11] at hP hD
      have K51_F_11 : F_11[51]? = some (.int 1) := by rw [eF_11]; exact List.getElem?_set_self (by rw [L_fs]; decide)
      have L_F_11 : F_11.length = 163 := by rw [eF_11, List.length_set]; exact L_fs
      have hP : va_P (dC, dI) cls [(q, .inr (15, F_11))] H := hP
      have hD : va_D A [(q, .inr (15, F_11))] := hD
      refine lv_aload_n hx hb dX15_poke_33 rfl (lv_at hl 0 rfl) ?_
      refine va_get (D := (dC, dI)) (ci := 15) (v := .int 1) (C := RX15) (T := TX15) (N := 163) hx hb ht uX15 hown hK hP 0 rfl rfl 51 (by decide) (ht _ k_10_239) (fun _ h9 => h9) K51_F_11 dX15_poke_34 ?_
      refine lv_if_le (tgt := 42) hx hb dX15_poke_37 (by decide) (fun c0 => absurd c0 (by decide)) (fun _ => ?_)
      refine lv_iconst (v := 0) hx hb dX15_poke_40 (by decide) ?_
      exact W.iret (v := 0) hx hb hr (fun t ht9 hW => ⟨⟨0, (F_11), rfl, ⟨rfl, L_F_11, K51_F_11⟩, by rw [ht9]; exact hP.sub [0] rfl, va_K.moved hW.alike (hK.sub [] rfl), hD.sub [0] (by decide) rfl⟩, hS.F ht9⟩) hS.2.2 dX15_poke_41
    · refine lv_if_eq (tgt := 29) hx hb dX15_poke_10 (by decide) (fun _ => ?_) (fun c0 => absurd c0 (by decide))
      refine lv_iconst (v := 1) hx hb dX15_poke_29 (by decide) ?_
      refine va_put (D := (dC, dI)) (ci := 15) (v := .int 1) (ty := .int) (C := RX15) (T := TX15) (N := 163) hx hb ht uX15 tyX15 tkX15 nmX15 hown hK hP hD hS 0 rfl rfl 51 (by decide) (ht _ k_10_239) (fun _ h9 => h9) rfl (by decide +kernel) rfl rfl (by rw [L_fs]; decide) dX15_poke_30 (fun H locs hP hD hS => ?_)
      obtain ⟨F_12, eF_12⟩ : ∃ g : List Value, g = fs.set 51 (.int 1) := ⟨_, rfl⟩
      rw [← eF_12] at hP hD
      have K51_F_12 : F_12[51]? = some (.int 1) := by rw [eF_12]; exact List.getElem?_set_self (by rw [L_fs]; decide)
      have L_F_12 : F_12.length = 163 := by rw [eF_12, List.length_set]; exact L_fs
      have hP : va_P (dC, dI) cls [(q, .inr (15, F_12))] H := hP
      have hD : va_D A [(q, .inr (15, F_12))] := hD
      refine lv_aload_n hx hb dX15_poke_33 rfl (lv_at hl 0 rfl) ?_
      refine va_get (D := (dC, dI)) (ci := 15) (v := .int 1) (C := RX15) (T := TX15) (N := 163) hx hb ht uX15 hown hK hP 0 rfl rfl 51 (by decide) (ht _ k_10_239) (fun _ h9 => h9) K51_F_12 dX15_poke_34 ?_
      refine lv_if_le (tgt := 42) hx hb dX15_poke_37 (by decide) (fun c0 => absurd c0 (by decide)) (fun _ => ?_)
      refine lv_iconst (v := 0) hx hb dX15_poke_40 (by decide) ?_
      exact W.iret (v := 0) hx hb hr (fun t ht9 hW => ⟨⟨0, (F_12), rfl, ⟨rfl, L_F_12, K51_F_12⟩, by rw [ht9]; exact hP.sub [0] rfl, va_K.moved hW.alike (hK.sub [] rfl), hD.sub [0] (by decide) rfl⟩, hS.F ht9⟩) hS.2.2 dX15_poke_41
