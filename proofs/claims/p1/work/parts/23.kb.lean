theorem dX15_basic_0 : decode cX15_basic 0 = .ok (.iconst 0, 1) := by decide +kernel
theorem dX15_basic_1 : decode cX15_basic 1 = .ok (.istore_n 2, 1) := by decide +kernel
theorem dX15_basic_2 : decode cX15_basic 2 = .ok (.iload_n 2, 1) := by decide +kernel
theorem dX15_basic_3 : decode cX15_basic 3 = .ok (.aload_n 1, 1) := by decide +kernel
theorem k_10_184 : Jvm.Cond.methodLink "FinderHouseModel" (10 : Nat) ({ cls := "java/lang/String", name := "length", desc := "()I" } : Jvm.MethodName) ∈ tb := tb10 184 (by decide +kernel) (by decide +kernel)
theorem dX15_basic_4 : decode cX15_basic 4 = .ok (.invokevirtual 10, 3) := by decide +kernel
theorem dX15_basic_7 : decode cX15_basic 7 = .ok (.if_icmp .ge 173, 3) := by decide +kernel
theorem dX15_basic_180 : decode cX15_basic 180 = .ok (.return_, 1) := by decide +kernel
theorem dX15_basic_10 : decode cX15_basic 10 = .ok (.lconst 0, 1) := by decide +kernel
theorem dX15_basic_11 : decode cX15_basic 11 = .ok (.lstore_n 3, 1) := by decide +kernel
theorem dX15_basic_12 : decode cX15_basic 12 = .ok (.aload_n 1, 1) := by decide +kernel
theorem dX15_basic_13 : decode cX15_basic 13 = .ok (.iload_n 2, 1) := by decide +kernel
theorem k_10_185 : Jvm.Cond.methodLink "FinderHouseModel" (15 : Nat) ({ cls := "java/lang/String", name := "charAt", desc := "(I)C" } : Jvm.MethodName) ∈ tb := tb10 185 (by decide +kernel) (by decide +kernel)
theorem dX15_basic_14 : decode cX15_basic 14 = .ok (.invokevirtual 15, 3) := by decide +kernel
theorem dX15_basic_17 : decode cX15_basic 17 = .ok (.bipush 32, 2) := by decide +kernel
theorem dX15_basic_19 : decode cX15_basic 19 = .ok (.if_icmp .eq 28, 3) := by decide +kernel
theorem dX15_basic_47 : decode cX15_basic 47 = .ok (.iinc 2 1, 3) := by decide +kernel
theorem dX15_basic_50 : decode cX15_basic 50 = .ok (.iconst 0, 1) := by decide +kernel
theorem dX15_basic_51 : decode cX15_basic 51 = .ok (.istore 5, 2) := by decide +kernel
theorem dX15_basic_53 : decode cX15_basic 53 = .ok (.aload_n 1, 1) := by decide +kernel
theorem dX15_basic_54 : decode cX15_basic 54 = .ok (.iload_n 2, 1) := by decide +kernel
theorem dX15_basic_55 : decode cX15_basic 55 = .ok (.iload 5, 2) := by decide +kernel
theorem dX15_basic_57 : decode cX15_basic 57 = .ok (.iadd, 1) := by decide +kernel
theorem dX15_basic_58 : decode cX15_basic 58 = .ok (.iconst 1, 1) := by decide +kernel
theorem dX15_basic_59 : decode cX15_basic 59 = .ok (.iadd, 1) := by decide +kernel
theorem dX15_basic_60 : decode cX15_basic 60 = .ok (.invokevirtual 15, 3) := by decide +kernel
theorem dX15_basic_63 : decode cX15_basic 63 = .ok (.bipush 32, 2) := by decide +kernel
theorem dX15_basic_65 : decode cX15_basic 65 = .ok (.if_icmp .eq 9, 3) := by decide +kernel
theorem dX15_basic_74 : decode cX15_basic 74 = .ok (.aload_n 0, 1) := by decide +kernel
theorem k_10_188 : Jvm.Cond.fieldLink "FinderHouseModel" (23 : Nat) "FinderHouseModel" "actName" "[J" ∈ tb := tb10 188 (by decide +kernel) (by decide +kernel)
theorem dX15_basic_75 : decode cX15_basic 75 = .ok (.getfield 23, 3) := by decide +kernel
theorem dX15_basic_78 : decode cX15_basic 78 = .ok (.aload_n 0, 1) := by decide +kernel
theorem dX15_basic_79 : decode cX15_basic 79 = .ok (.getfield 27, 3) := by decide +kernel
theorem dX15_basic_82 : decode cX15_basic 82 = .ok (.lload_n 3, 1) := by decide +kernel
theorem dX15_basic_83 : decode cX15_basic 83 = .ok (.lastore, 1) := by decide +kernel
theorem dX15_basic_84 : decode cX15_basic 84 = .ok (.aload_n 0, 1) := by decide +kernel
theorem k_10_189 : Jvm.Cond.fieldLink "FinderHouseModel" (31 : Nat) "FinderHouseModel" "actMany" "[I" ∈ tb := tb10 189 (by decide +kernel) (by decide +kernel)
theorem dX15_basic_85 : decode cX15_basic 85 = .ok (.getfield 31, 3) := by decide +kernel
theorem dX15_basic_88 : decode cX15_basic 88 = .ok (.aload_n 0, 1) := by decide +kernel
theorem dX15_basic_89 : decode cX15_basic 89 = .ok (.getfield 27, 3) := by decide +kernel
theorem dX15_basic_92 : decode cX15_basic 92 = .ok (.iload 5, 2) := by decide +kernel
theorem dX15_basic_94 : decode cX15_basic 94 = .ok (.iastore, 1) := by decide +kernel
theorem dX15_basic_95 : decode cX15_basic 95 = .ok (.iconst 0, 1) := by decide +kernel
theorem dX15_basic_96 : decode cX15_basic 96 = .ok (.istore 6, 2) := by decide +kernel
theorem dX15_basic_98 : decode cX15_basic 98 = .ok (.iload 6, 2) := by decide +kernel
theorem dX15_basic_100 : decode cX15_basic 100 = .ok (.iload 5, 2) := by decide +kernel
theorem dX15_basic_102 : decode cX15_basic 102 = .ok (.if_icmp .ge 31, 3) := by decide +kernel
theorem dX15_basic_133 : decode cX15_basic 133 = .ok (.aload_n 0, 1) := by decide +kernel
theorem k_10_191 : Jvm.Cond.fieldLink "FinderHouseModel" (38 : Nat) "FinderHouseModel" "actKind" "[I" ∈ tb := tb10 191 (by decide +kernel) (by decide +kernel)
theorem dX15_basic_134 : decode cX15_basic 134 = .ok (.getfield 38, 3) := by decide +kernel
theorem dX15_basic_137 : decode cX15_basic 137 = .ok (.aload_n 0, 1) := by decide +kernel
theorem dX15_basic_138 : decode cX15_basic 138 = .ok (.getfield 27, 3) := by decide +kernel
theorem dX15_basic_141 : decode cX15_basic 141 = .ok (.aload_n 1, 1) := by decide +kernel
theorem dX15_basic_142 : decode cX15_basic 142 = .ok (.iload_n 2, 1) := by decide +kernel
theorem dX15_basic_143 : decode cX15_basic 143 = .ok (.iload 5, 2) := by decide +kernel
theorem dX15_basic_145 : decode cX15_basic 145 = .ok (.iadd, 1) := by decide +kernel
theorem dX15_basic_146 : decode cX15_basic 146 = .ok (.invokevirtual 15, 3) := by decide +kernel
theorem dX15_basic_149 : decode cX15_basic 149 = .ok (.iastore, 1) := by decide +kernel
theorem dX15_basic_150 : decode cX15_basic 150 = .ok (.aload_n 0, 1) := by decide +kernel
theorem k_10_192 : Jvm.Cond.fieldLink "FinderHouseModel" (41 : Nat) "FinderHouseModel" "actTerm" "[I" ∈ tb := tb10 192 (by decide +kernel) (by decide +kernel)
theorem dX15_basic_151 : decode cX15_basic 151 = .ok (.getfield 41, 3) := by decide +kernel
theorem dX15_basic_154 : decode cX15_basic 154 = .ok (.aload_n 0, 1) := by decide +kernel
theorem dX15_basic_155 : decode cX15_basic 155 = .ok (.getfield 27, 3) := by decide +kernel
theorem dX15_basic_158 : decode cX15_basic 158 = .ok (.iconst (-1), 1) := by decide +kernel
theorem dX15_basic_159 : decode cX15_basic 159 = .ok (.iastore, 1) := by decide +kernel
theorem dX15_basic_160 : decode cX15_basic 160 = .ok (.aload_n 0, 1) := by decide +kernel
theorem dX15_basic_161 : decode cX15_basic 161 = .ok (.dup, 1) := by decide +kernel
theorem dX15_basic_162 : decode cX15_basic 162 = .ok (.getfield 27, 3) := by decide +kernel
theorem dX15_basic_165 : decode cX15_basic 165 = .ok (.iconst 1, 1) := by decide +kernel
theorem dX15_basic_166 : decode cX15_basic 166 = .ok (.iadd, 1) := by decide +kernel
theorem dX15_basic_167 : decode cX15_basic 167 = .ok (.putfield 27, 3) := by decide +kernel
theorem dX15_basic_170 : decode cX15_basic 170 = .ok (.iload_n 2, 1) := by decide +kernel
theorem dX15_basic_171 : decode cX15_basic 171 = .ok (.iload 5, 2) := by decide +kernel
theorem dX15_basic_173 : decode cX15_basic 173 = .ok (.iconst 2, 1) := by decide +kernel
theorem dX15_basic_174 : decode cX15_basic 174 = .ok (.iadd, 1) := by decide +kernel
theorem dX15_basic_175 : decode cX15_basic 175 = .ok (.iadd, 1) := by decide +kernel
theorem dX15_basic_176 : decode cX15_basic 176 = .ok (.istore_n 2, 1) := by decide +kernel
theorem dX15_basic_177 : decode cX15_basic 177 = .ok (.goto (-175), 3) := by decide +kernel
theorem dX15_basic_105 : decode cX15_basic 105 = .ok (.aload_n 0, 1) := by decide +kernel
theorem k_10_190 : Jvm.Cond.fieldLink "FinderHouseModel" (35 : Nat) "FinderHouseModel" "actWants" "[I" ∈ tb := tb10 190 (by decide +kernel) (by decide +kernel)
theorem dX15_basic_106 : decode cX15_basic 106 = .ok (.getfield 35, 3) := by decide +kernel
theorem dX15_basic_109 : decode cX15_basic 109 = .ok (.iconst 3, 1) := by decide +kernel
theorem dX15_basic_110 : decode cX15_basic 110 = .ok (.aload_n 0, 1) := by decide +kernel
theorem dX15_basic_111 : decode cX15_basic 111 = .ok (.getfield 27, 3) := by decide +kernel
theorem dX15_basic_114 : decode cX15_basic 114 = .ok (.imul, 1) := by decide +kernel
theorem dX15_basic_115 : decode cX15_basic 115 = .ok (.iload 6, 2) := by decide +kernel
theorem dX15_basic_117 : decode cX15_basic 117 = .ok (.iadd, 1) := by decide +kernel
theorem dX15_basic_118 : decode cX15_basic 118 = .ok (.aload_n 1, 1) := by decide +kernel
theorem dX15_basic_119 : decode cX15_basic 119 = .ok (.iload_n 2, 1) := by decide +kernel
theorem dX15_basic_120 : decode cX15_basic 120 = .ok (.iload 6, 2) := by decide +kernel
theorem dX15_basic_122 : decode cX15_basic 122 = .ok (.iadd, 1) := by decide +kernel
theorem dX15_basic_123 : decode cX15_basic 123 = .ok (.invokevirtual 15, 3) := by decide +kernel
theorem dX15_basic_126 : decode cX15_basic 126 = .ok (.iastore, 1) := by decide +kernel
theorem dX15_basic_127 : decode cX15_basic 127 = .ok (.iinc 6 1, 3) := by decide +kernel
theorem dX15_basic_130 : decode cX15_basic 130 = .ok (.goto (-32), 3) := by decide +kernel
theorem dX15_basic_68 : decode cX15_basic 68 = .ok (.iinc 5 1, 3) := by decide +kernel
theorem dX15_basic_71 : decode cX15_basic 71 = .ok (.goto (-18), 3) := by decide +kernel
theorem dX15_basic_22 : decode cX15_basic 22 = .ok (.lload_n 3, 1) := by decide +kernel
theorem k_10_186 : Jvm.Cond.constantLong "FinderHouseModel" (19 : Nat) (27 : Int64) ∈ tb := tb10 186 (by decide +kernel) (by decide +kernel)
theorem dX15_basic_23 : decode cX15_basic 23 = .ok (.ldc2_w 19, 3) := by decide +kernel
theorem dX15_basic_26 : decode cX15_basic 26 = .ok (.lmul, 1) := by decide +kernel
theorem dX15_basic_27 : decode cX15_basic 27 = .ok (.aload_n 1, 1) := by decide +kernel
theorem dX15_basic_28 : decode cX15_basic 28 = .ok (.iload_n 2, 1) := by decide +kernel
theorem dX15_basic_29 : decode cX15_basic 29 = .ok (.invokevirtual 15, 3) := by decide +kernel
theorem dX15_basic_32 : decode cX15_basic 32 = .ok (.i2l, 1) := by decide +kernel
theorem dX15_basic_33 : decode cX15_basic 33 = .ok (.ladd, 1) := by decide +kernel
theorem k_10_187 : Jvm.Cond.constantLong "FinderHouseModel" (21 : Nat) (97 : Int64) ∈ tb := tb10 187 (by decide +kernel) (by decide +kernel)
theorem dX15_basic_34 : decode cX15_basic 34 = .ok (.ldc2_w 21, 3) := by decide +kernel
theorem dX15_basic_37 : decode cX15_basic 37 = .ok (.lsub, 1) := by decide +kernel
theorem dX15_basic_38 : decode cX15_basic 38 = .ok (.lconst 1, 1) := by decide +kernel
theorem dX15_basic_39 : decode cX15_basic 39 = .ok (.ladd, 1) := by decide +kernel
theorem dX15_basic_40 : decode cX15_basic 40 = .ok (.lstore_n 3, 1) := by decide +kernel
theorem dX15_basic_41 : decode cX15_basic 41 = .ok (.iinc 2 1, 3) := by decide +kernel
theorem dX15_basic_44 : decode cX15_basic 44 = .ok (.goto (-32), 3) := by decide +kernel
def bsB : List Int32 := [97, 100, 100, 32, 110, 110, 110, 32, 115, 117, 98, 32, 110, 110, 110, 32, 109, 117, 108, 32, 110, 110, 110, 32, 100, 105, 118, 32, 110, 110, 110, 32, 114, 101, 109, 32, 110, 110, 110, 32, 109, 105, 110, 32, 110, 110, 110, 32, 109, 97, 120, 32, 110, 110, 110, 32, 97, 110, 100, 32, 110, 110, 110, 32, 111, 114, 32, 110, 110, 110, 32, 120, 111, 114, 32, 110, 110, 110, 32, 108, 101, 115, 115, 32, 110, 110, 116, 32, 115, 97, 109, 101, 32, 110, 110, 116, 32, 110, 111, 116, 32, 116, 116, 32, 98, 111, 116, 104, 32, 116, 116, 116, 32, 97, 110, 121, 32, 116, 116, 116, 32, 105, 102, 32, 116, 110, 110, 110, 32, 112, 105, 99, 107, 32, 116, 115, 115, 115, 32, 99, 97, 116, 32, 115, 115, 115, 32, 108, 101, 110, 32, 115, 110, 32, 116, 97, 107, 101, 32, 115, 110, 115, 32, 100, 114, 111, 112, 32, 115, 110, 115, 32, 114, 101, 118, 32, 115, 115, 32, 104, 101, 97, 100, 32, 115, 115, 32, 108, 105, 107, 101, 32, 115, 115, 116, 32, 99, 111, 100, 101, 32, 115, 110, 32, 115, 105, 103, 110, 32, 110, 115, 32]
def apT : List Nat := [0, 8, 16, 24, 32, 40, 48, 56, 64, 71, 79, 88, 97, 104, 113, 121, 129, 139, 147, 154, 163, 172, 179, 187, 196, 204, 212]
def wlT : List Nat := [3, 3, 3, 3, 3, 3, 3, 3, 2, 3, 4, 4, 3, 4, 3, 2, 4, 3, 3, 4, 4, 3, 4, 4, 4, 4]
def nkT : List Nat := [2, 2, 2, 2, 2, 2, 2, 2, 2, 2, 2, 2, 1, 2, 2, 3, 3, 2, 1, 2, 2, 1, 1, 2, 1, 1]
abbrev apk (k : Nat) : Nat := apT.getD k 0
abbrev wlk (k : Nat) : Nat := wlT.getD k 0
abbrev nkk (k : Nat) : Nat := nkT.getD k 0
abbrev bpk (k : Nat) : Nat := apk k + wlk k + 1
theorem tb_len : bsB.length = 212 := by decide +kernel
theorem tb_fit : ∀ k, k < 26 → 1 ≤ wlk k ∧ wlk k ≤ 4 ∧ nkk k ≤ 3 ∧ apk (k + 1) = bpk k + nkk k + 2 ∧ bpk k + nkk k + 1 < 212 := by decide
theorem tb_end : ∀ k, k < 27 → (212 ≤ apk k ↔ k = 26) := by decide
theorem tb_small : ∀ k, k < 27 → apk k ≤ 212 := by decide
theorem tb_chr : ∀ k, k < 26 → ∀ i, i < 5 → i ≤ wlk k → (chr bsB (nI (apk k + i)) = 32 ↔ i = wlk k) := by decide
theorem tb_chr2 : ∀ k, k < 26 → ∀ j, j < 4 → j ≤ nkk k → (chr bsB (nI (bpk k + j + 1)) = 32 ↔ j = nkk k) := by decide
theorem tb_exit {k : Nat} (hk : k < 27) (h : nI 212 ≤ nI (apk k)) : k = 26 := by
  rcases Nat.lt_or_ge (apk k) 212 with h1 | h1
  · exact absurd h (nI_ge h1 (by decide))
  · exact (tb_end k hk).mp h1
theorem set_same {α : Type} : ∀ {l : List α} {k : Nat} {v : α}, l[k]? = some v → l.set k v = l
  | [], _, _, h => by simp at h
  | a :: l, 0, v, h => by simp at h; simp [h]
  | a :: l, k + 1, v, h => by simp at h; simp [set_same h]
theorem nI_lej {a b : Nat} (ha : a < 2 ^ 31) (hb : b < 2 ^ 31) (h : ¬ nI b ≤ nI a) : a < b := by
  rcases Nat.lt_or_ge a b with h1 | h1
  · exact h1
  · exact absurd (nI_le h1 ha) h
set_option maxHeartbeats 4000000 in
set_option maxRecDepth 100000 in
theorem r_basic (l : Launch) (dC : Nat → ClassId) (dI : Nat → Nat → Nat) (sz : Nat) (q : Nat) (fs : List Value) (sq : Nat) (sv : Nat) (b0 : Nat) (d0 : ClassId) (e0 : Nat → Int64) (b1 : Nat) (d1 : ClassId) (e1 : Nat → Int32) (b2 : Nat) (d2 : ClassId) (e2 : Nat → Int32) (b3 : Nat) (d3 : ClassId) (e3 : Nat → Int32) (b4 : Nat) (d4 : ClassId) (e4 : Nat → Int32) (L_fs : fs.length = 163) (K0_fs : fs[0]? = some (.ref b0)) (K1_fs : fs[1]? = some (.ref b1)) (K2_fs : fs[2]? = some (.ref b2)) (K3_fs : fs[3]? = some (.ref b3)) (K4_fs : fs[4]? = some (.ref b4)) (K5_fs : fs[5]? = some (.int 0)) : Met l yX15_basic (Cond.code yX15_basic cX15_basic 7 none :: tb) ({ frames := 4, cells := 0, slots := 0, locals := 85 }) (pcx [.inr (.inr (.inl (sq, sv, bsB))), .inl ("java/lang/String", "COMPACT_STRINGS", "Z", .int 1), .inr (.inr (.inr (.inr (.inl ("jdk/internal/util/Preconditions", "SIOOBE_FORMATTER", "Ljava/util/function/BiFunction;")))))] [.ref q, .ref sq] (dC, dI) [(q, .inr (15, fs)), (b0, .inl (d0, 36, .inr (.inl e0))), (b1, .inl (d1, 36, .inl e1)), (b2, .inl (d2, 108, .inl e2)), (b3, .inl (d3, 36, .inl e3)), (b4, .inl (d4, 36, .inl e4))] [(d0, .long), (d1, .int), (d2, .int), (d3, .int), (d4, .int)] sz) (va_Qv (fun (_ : Unit) => True) (bw (dC, dI) (va_A [(q, .inr (15, fs)), (b0, .inl (d0, 36, .inr (.inl e0))), (b1, .inl (d1, 36, .inl e1)), (b2, .inl (d2, 108, .inl e2)), (b3, .inl (d3, 36, .inl e3)), (b4, .inl (d4, 36, .inl e4))] sz) (fun (_ : Unit) => [(q, .inr (15, fs.set 5 (.int 26)))]) (fun (_ : Unit) => [])) (va_A [(q, .inr (15, fs)), (b0, .inl (d0, 36, .inr (.inl e0))), (b1, .inl (d1, 36, .inl e1)), (b2, .inl (d2, 108, .inl e2)), (b3, .inl (d3, 36, .inl e3)), (b4, .inl (d4, 36, .inl e4))] sz)) 0 0 (va_A [(q, .inr (15, fs)), (b0, .inl (d0, 36, .inr (.inl e0))), (b1, .inl (d1, 36, .inl e1)), (b2, .inl (d2, 108, .inl e2)), (b3, .inl (d3, 36, .inl e3)), (b4, .inl (d4, 36, .inl e4))] sz) := by
  refine Met.ofW (cc := cX15_basic) (maxL := 7) (ret := none) (by decide) rfl ?_
  intro p e s m args below meth c s₁ B hml hv
  obtain ⟨rfl, hsz, hP, hK, hD0, hE⟩ := hv
  have hx := B.exec
  have hb := B.bytes
  have hr := B.returns
  have hts := atoms_spec (ws := Cond.code yX15_basic cX15_basic 7 none :: tb) B.pre
  have ht : ∀ w ∈ tb, w.before _ s = true := fun w h => hts w (List.mem_cons_of_mem _ h)
  have hown : s.vm.findClass RX15 = some m.cls := findClass_of_methodNamed B.named
  have hlocks := B.notSynchronized
  subst hsz
  have hD := hD0.self (sz := s.heap.size)
  generalize hAe : va_A [(q, .inr (15, fs)), (b0, .inl (d0, 36, .inr (.inl e0))), (b1, .inl (d1, 36, .inl e1)), (b2, .inl (d2, 108, .inl e2)), (b3, .inl (d3, 36, .inl e3)), (b4, .inl (d4, 36, .inl e4))] s.heap.size = A at hD hE ⊢
  have hA : ∀ q : Nat, s.heap.size ≤ q → A q := fun q h => by rw [← hAe]; exact Or.inr h
  have hS : va_S A s.heap s.heap [] := va_S.rf
  have hl := lv_entry ([.ref q, .ref sq]) (n := 7) (Nat.le_of_ble_eq_true rfl)
  rw [lg_entry_eq]
  generalize (lg_sl ([.ref q, .ref sq]) ++ List.replicate (7 - (lg_sl ([.ref q, .ref sq])).length) Slot.unset).toArray = ls at hl ⊢
  have hl : lv_has ls 7 [(0, .ref q), (1, .ref sq)] := hl
  have hP : va_P (dC, dI) cls [(q, .inr (15, fs)), (b0, .inl (d0, 36, .inr (.inl e0))), (b1, .inl (d1, 36, .inl e1)), (b2, .inl (d2, 108, .inl e2)), (b3, .inl (d3, 36, .inl e3)), (b4, .inl (d4, 36, .inl e4))] s.heap := hP
  refine lv_iconst (v := 0) hx hb dX15_basic_0 (by decide) ?_
  refine lv_istore_n (lv' := [(2, .int 0), (0, .ref q), (1, .ref sq)]) hx hb dX15_basic_1 rfl hl (by decide) rfl (fun ls hl => ?_)
  refine lp_rule (fun H locs ls => W p l e _ s m _ below meth c H locs _ _ _ (F0 m 2 ls [])) (fun (z : Nat × (List Value) × (Nat → Int64) × (Nat → Int32) × (Nat → Int32) × (Nat → Int32) × (Nat → Int32)) H locs ls => match z with | (k, G, h0, h1, h2, h3, h4) => va_P (dC, dI) cls [(q, .inr (15, G)), (b0, .inl (d0, 36, .inr (.inl h0))), (b1, .inl (d1, 36, .inl h1)), (b2, .inl (d2, 108, .inl h2)), (b3, .inl (d3, 36, .inl h3)), (b4, .inl (d4, 36, .inl h4))] H ∧ va_D A [(q, .inr (15, G)), (b0, .inl (d0, 36, .inr (.inl h0))), (b1, .inl (d1, 36, .inl h1)), (b2, .inl (d2, 108, .inl h2)), (b3, .inl (d3, 36, .inl h3)), (b4, .inl (d4, 36, .inl h4))] ∧ va_S A s.heap H locs ∧ lv_has ls 7 [(2, .int (nI (apk k))), (1, .ref sq), (0, .ref q)] ∧ True ∧ k ≤ 26 ∧ G = fs.set 5 (.int (nI k))) (fun (z : Nat × (List Value) × (Nat → Int64) × (Nat → Int32) × (Nat → Int32) × (Nat → Int32) × (Nat → Int32)) => match z with | (k, G, h0, h1, h2, h3, h4) => 26 - k) ?_ (0, fs, e0, e1, e2, e3, e4) s.heap [] ls ⟨hP, hD, hS, lv_sub hl [0, 2, 1] rfl, trivial, (by decide), (set_same K5_fs).symm⟩
  intro z H locs ls hI ih2
  obtain ⟨k, G, h0, h1, h2, h3, h4⟩ := z
  obtain ⟨hP, hD, hS, hl, -, hk, hG⟩ := hI
  have hP : va_P (dC, dI) cls [(q, .inr (15, G)), (b0, .inl (d0, 36, .inr (.inl h0))), (b1, .inl (d1, 36, .inl h1)), (b2, .inl (d2, 108, .inl h2)), (b3, .inl (d3, 36, .inl h3)), (b4, .inl (d4, 36, .inl h4))] H := hP
  have hD : va_D A [(q, .inr (15, G)), (b0, .inl (d0, 36, .inr (.inl h0))), (b1, .inl (d1, 36, .inl h1)), (b2, .inl (d2, 108, .inl h2)), (b3, .inl (d3, 36, .inl h3)), (b4, .inl (d4, 36, .inl h4))] := hD
  have hl : lv_has ls 7 [(2, .int (nI (apk k))), (1, .ref sq), (0, .ref q)] := hl
  have K0_G : G[0]? = some (.ref b0) := by rw [hG, List.getElem?_set_ne (by decide)]; exact K0_fs
  have K1_G : G[1]? = some (.ref b1) := by rw [hG, List.getElem?_set_ne (by decide)]; exact K1_fs
  have K2_G : G[2]? = some (.ref b2) := by rw [hG, List.getElem?_set_ne (by decide)]; exact K2_fs
  have K3_G : G[3]? = some (.ref b3) := by rw [hG, List.getElem?_set_ne (by decide)]; exact K3_fs
  have K4_G : G[4]? = some (.ref b4) := by rw [hG, List.getElem?_set_ne (by decide)]; exact K4_fs
  have K5_G : G[5]? = some (.int (nI k)) := by rw [hG]; exact List.getElem?_set_self (by rw [L_fs]; decide)
  have L_G : G.length = 163 := by rw [hG, List.length_set]; exact L_fs
  refine lv_iload_n hx hb dX15_basic_2 rfl (lv_at hl 0 rfl) ?_
  refine lv_aload_n hx hb dX15_basic_3 rfl (lv_at hl 1 rfl) ?_
  refine ca_i (wr := [(q, .inr (15, G)), (b0, .inl (d0, 36, .inr (.inl h0))), (b1, .inl (d1, 36, .inl h1)), (b2, .inl (d2, 108, .inl h2)), (b3, .inl (d3, 36, .inl h3)), (b4, .inl (d4, 36, .inl h4))]) (va_runV (As := []) (rest := [.int (nI (apk k))]) ⟨hx, hb, hml, hown, ht⟩ (j_length l dC dI H.size sq sv bsB  (by decide)) (cwV 0 ht (gdV k_1_50 k_10_184 k_1_48 k_1_49 k_1_3) rfl rfl rfl (by decide +kernel) ⟨Nat.le_of_ble_eq_true rfl, Nat.le_of_ble_eq_true rfl⟩) ⟨pcx_blind, st_recv (xf_s hE 0 rfl).1 hS, pcx_at hP hD hK hS hA hE [] [] [0, 1] (by decide) rfl rfl rfl rfl⟩ rfl rfl hl.1 rfl (lv_room (Nat.le_of_ble_eq_true rfl)) dX15_basic_4 ⟨Nat.le_of_ble_eq_true rfl, Nat.le_of_ble_eq_true rfl⟩) hP hD hK hS hA [] [0, 1, 2, 3, 4, 5] rfl rfl (by decide) (by decide) (fun r_1 u H locs w_2 hK hP hD hS => ?_)
  have hK : va_K (dC, dI) cls [(d0, .long), (d1, .int), (d2, .int), (d3, .int), (d4, .int)] s := hK
  have hP : va_P (dC, dI) cls [(q, .inr (15, G)), (b0, .inl (d0, 36, .inr (.inl h0))), (b1, .inl (d1, 36, .inl h1)), (b2, .inl (d2, 108, .inl h2)), (b3, .inl (d3, 36, .inl h3)), (b4, .inl (d4, 36, .inl h4))] H := hP
  have hD : va_D A [(q, .inr (15, G)), (b0, .inl (d0, 36, .inr (.inl h0))), (b1, .inl (d1, 36, .inl h1)), (b2, .inl (d2, 108, .inl h2)), (b3, .inl (d3, 36, .inl h3)), (b4, .inl (d4, 36, .inl h4))] := hD
  obtain rfl : r_1 = 212 := w_2.trans (by decide)
  refine lv_icmp_ge (tgt := 180) hx hb dX15_basic_7 (by decide) (fun b_3 => ?_) (fun b_3 => ?_)
  · have hke : k = 26 := tb_exit (by omega) b_3
    subst hke
    subst hG
    have hP : va_P (dC, dI) cls [(q, .inr (15, fs.set 5 (.int 26))), (b0, .inl (d0, 36, .inr (.inl h0))), (b1, .inl (d1, 36, .inl h1)), (b2, .inl (d2, 108, .inl h2)), (b3, .inl (d3, 36, .inl h3)), (b4, .inl (d4, 36, .inl h4))] H := hP
    have hD : va_D A [(q, .inr (15, fs.set 5 (.int 26))), (b0, .inl (d0, 36, .inr (.inl h0))), (b1, .inl (d1, 36, .inl h1)), (b2, .inl (d2, 108, .inl h2)), (b3, .inl (d3, 36, .inl h3)), (b4, .inl (d4, 36, .inl h4))] := hD
    exact W.vret hx hb hr (fun t ht9 hW => ⟨⟨(), rfl, trivial, by rw [ht9]; exact hP.sub [0] rfl, va_K.moved hW.alike (hK.sub [] rfl), hD.sub [0] (by decide) rfl⟩, hS.F ht9⟩) hS.2.2 dX15_basic_180
  · have hk26 : k < 26 := by
      rcases Nat.lt_or_ge k 26 with h | h
      · exact h
      · exact absurd (show nI 212 ≤ nI (apk k) from nI_le ((tb_end k (by omega)).mpr (by omega)) (by have := tb_small k (by omega); omega)) b_3
    obtain ⟨hw1, hw4, hn3, hap1, hbp⟩ := tb_fit k hk26
    have hbd : bpk k = apk k + wlk k + 1 := rfl
    refine lv_lconst (v := 0) hx hb dX15_basic_10 (by decide) ?_
    refine lv_lstore_n (lv' := [(3, .long 0), (2, .int (nI (apk k))), (1, .ref sq), (0, .ref q)]) hx hb dX15_basic_11 rfl hl (by decide) rfl (fun ls hl => ?_)
    refine lp_rule (fun H locs ls => W p l e _ s m _ below meth c H locs _ _ _ (F0 m 12 ls [])) (fun (z : Nat × Int64) H locs ls => match z with | (i, nm) => va_P (dC, dI) cls [(q, .inr (15, G)), (b0, .inl (d0, 36, .inr (.inl h0))), (b1, .inl (d1, 36, .inl h1)), (b2, .inl (d2, 108, .inl h2)), (b3, .inl (d3, 36, .inl h3)), (b4, .inl (d4, 36, .inl h4))] H ∧ va_D A [(q, .inr (15, G)), (b0, .inl (d0, 36, .inr (.inl h0))), (b1, .inl (d1, 36, .inl h1)), (b2, .inl (d2, 108, .inl h2)), (b3, .inl (d3, 36, .inl h3)), (b4, .inl (d4, 36, .inl h4))] ∧ va_S A s.heap H locs ∧ lv_has ls 7 [(3, .long nm), (2, .int (nI (apk k + i))), (1, .ref sq), (0, .ref q)] ∧ True ∧ i ≤ wlk k) (fun (z : Nat × Int64) => match z with | (i, nm) => wlk k - i) ?_ (0, 0) H locs ls ⟨hP, hD, hS, lv_sub hl [0, 1, 2, 3] rfl, trivial, (Nat.zero_le _)⟩
    intro z H locs ls hI ih12
    obtain ⟨i, nm⟩ := z
    obtain ⟨hP, hD, hS, hl, -, hi⟩ := hI
    have hP : va_P (dC, dI) cls [(q, .inr (15, G)), (b0, .inl (d0, 36, .inr (.inl h0))), (b1, .inl (d1, 36, .inl h1)), (b2, .inl (d2, 108, .inl h2)), (b3, .inl (d3, 36, .inl h3)), (b4, .inl (d4, 36, .inl h4))] H := hP
    have hD : va_D A [(q, .inr (15, G)), (b0, .inl (d0, 36, .inr (.inl h0))), (b1, .inl (d1, 36, .inl h1)), (b2, .inl (d2, 108, .inl h2)), (b3, .inl (d3, 36, .inl h3)), (b4, .inl (d4, 36, .inl h4))] := hD
    have hl : lv_has ls 7 [(3, .long nm), (2, .int (nI (apk k + i))), (1, .ref sq), (0, .ref q)] := hl
    refine lv_aload_n hx hb dX15_basic_12 rfl (lv_at hl 2 rfl) ?_
    refine lv_iload_n hx hb dX15_basic_13 rfl (lv_at hl 1 rfl) ?_
    refine ca_i (wr := [(q, .inr (15, G)), (b0, .inl (d0, 36, .inr (.inl h0))), (b1, .inl (d1, 36, .inl h1)), (b2, .inl (d2, 108, .inl h2)), (b3, .inl (d3, 36, .inl h3)), (b4, .inl (d4, 36, .inl h4))]) (va_runV (As := [.int (nI (apk k + i))]) (rest := []) ⟨hx, hb, hml, hown, ht⟩ (j_charAt l dC dI H.size sq sv bsB (nI (apk k + i))  (vp_in_nI (show apk k + i < bsB.length by rw [tb_len]; omega) (by decide)) (by decide)) (cwV 1 ht (gdV k_1_60 k_10_185 k_1_58 k_1_59 k_1_3) rfl rfl rfl (by decide +kernel) ⟨Nat.le_of_ble_eq_true rfl, Nat.le_of_ble_eq_true rfl⟩) ⟨pcx_blind, st_recv (xf_s hE 0 rfl).1 hS, pcx_at hP hD hK hS hA hE [] [] [0, 1, 2] (by decide) rfl rfl rfl rfl⟩ rfl rfl hl.1 rfl (lv_room (Nat.le_of_ble_eq_true rfl)) dX15_basic_14 ⟨Nat.le_of_ble_eq_true rfl, Nat.le_of_ble_eq_true rfl⟩) hP hD hK hS hA [] [0, 1, 2, 3, 4, 5] rfl rfl (by decide) (by decide) (fun r_4 u H locs w_5 hK hP hD hS => ?_)
    have hK : va_K (dC, dI) cls [(d0, .long), (d1, .int), (d2, .int), (d3, .int), (d4, .int)] s := hK
    have hP : va_P (dC, dI) cls [(q, .inr (15, G)), (b0, .inl (d0, 36, .inr (.inl h0))), (b1, .inl (d1, 36, .inl h1)), (b2, .inl (d2, 108, .inl h2)), (b3, .inl (d3, 36, .inl h3)), (b4, .inl (d4, 36, .inl h4))] H := hP
    have hD : va_D A [(q, .inr (15, G)), (b0, .inl (d0, 36, .inr (.inl h0))), (b1, .inl (d1, 36, .inl h1)), (b2, .inl (d2, 108, .inl h2)), (b3, .inl (d3, 36, .inl h3)), (b4, .inl (d4, 36, .inl h4))] := hD
    refine lv_bipush (v := 32) hx hb dX15_basic_17 (by decide) ?_
    refine lv_icmp_eq (tgt := 47) hx hb dX15_basic_19 (by decide) (fun b_6 => ?_) (fun b_6 => ?_)
    · have hie : i = wlk k := (tb_chr k hk26 i (by omega) hi).mp (w_5.symm.trans b_6)
      refine lv_iinc (v := (nI (bpk k))) (lv' := [(2, .int (nI (bpk k))), (3, .long nm), (1, .ref sq), (0, .ref q)]) hx hb dX15_basic_47 hl (k := 1) rfl (by rw [hie]; exact nI_1 _) (by decide) rfl (fun ls hl => ?_)
      refine lv_iconst (v := 0) hx hb dX15_basic_50 (by decide) ?_
      refine lv_istore (lv' := [(5, .int 0), (2, .int (nI (bpk k))), (3, .long nm), (1, .ref sq), (0, .ref q)]) hx hb dX15_basic_51 hl (by decide) rfl (fun ls hl => ?_)
      refine lp_rule (fun H locs ls => W p l e _ s m _ below meth c H locs _ _ _ (F0 m 53 ls [])) (fun (z : Nat) H locs ls => match z with | j => va_P (dC, dI) cls [(q, .inr (15, G)), (b0, .inl (d0, 36, .inr (.inl h0))), (b1, .inl (d1, 36, .inl h1)), (b2, .inl (d2, 108, .inl h2)), (b3, .inl (d3, 36, .inl h3)), (b4, .inl (d4, 36, .inl h4))] H ∧ va_D A [(q, .inr (15, G)), (b0, .inl (d0, 36, .inr (.inl h0))), (b1, .inl (d1, 36, .inl h1)), (b2, .inl (d2, 108, .inl h2)), (b3, .inl (d3, 36, .inl h3)), (b4, .inl (d4, 36, .inl h4))] ∧ va_S A s.heap H locs ∧ lv_has ls 7 [(5, .int (nI j)), (3, .long nm), (2, .int (nI (bpk k))), (1, .ref sq), (0, .ref q)] ∧ True ∧ j ≤ nkk k) (fun (z : Nat) => match z with | j => nkk k - j) ?_ (0) H locs ls ⟨hP, hD, hS, lv_sub hl [0, 2, 1, 3, 4] rfl, trivial, (Nat.zero_le _)⟩
      intro z H locs ls hI ih53
      obtain ⟨j, rfl⟩ : ∃ y, y = z := ⟨_, rfl⟩
      obtain ⟨hP, hD, hS, hl, -, hj⟩ := hI
      have hP : va_P (dC, dI) cls [(q, .inr (15, G)), (b0, .inl (d0, 36, .inr (.inl h0))), (b1, .inl (d1, 36, .inl h1)), (b2, .inl (d2, 108, .inl h2)), (b3, .inl (d3, 36, .inl h3)), (b4, .inl (d4, 36, .inl h4))] H := hP
      have hD : va_D A [(q, .inr (15, G)), (b0, .inl (d0, 36, .inr (.inl h0))), (b1, .inl (d1, 36, .inl h1)), (b2, .inl (d2, 108, .inl h2)), (b3, .inl (d3, 36, .inl h3)), (b4, .inl (d4, 36, .inl h4))] := hD
      have hl : lv_has ls 7 [(5, .int (nI j)), (3, .long nm), (2, .int (nI (bpk k))), (1, .ref sq), (0, .ref q)] := hl
      refine lv_aload_n hx hb dX15_basic_53 rfl (lv_at hl 3 rfl) ?_
      refine lv_iload_n hx hb dX15_basic_54 rfl (lv_at hl 2 rfl) ?_
      refine lv_iload hx hb dX15_basic_55 (lv_at hl 0 rfl) ?_
      refine lv_iadd hx hb dX15_basic_57 ?_
      refine tk_i (y := (nI (bpk k + j))) (nI_add _ _) ?_
      refine lv_iconst (v := 1) hx hb dX15_basic_58 (by decide) ?_
      refine lv_iadd hx hb dX15_basic_59 ?_
      refine tk_i (y := (nI (bpk k + j + 1))) (nI_1 _) ?_
      refine ca_i (wr := [(q, .inr (15, G)), (b0, .inl (d0, 36, .inr (.inl h0))), (b1, .inl (d1, 36, .inl h1)), (b2, .inl (d2, 108, .inl h2)), (b3, .inl (d3, 36, .inl h3)), (b4, .inl (d4, 36, .inl h4))]) (va_runV (As := [.int (nI (bpk k + j + 1))]) (rest := []) ⟨hx, hb, hml, hown, ht⟩ (j_charAt l dC dI H.size sq sv bsB (nI (bpk k + j + 1))  (vp_in_nI (show bpk k + j + 1 < bsB.length by rw [tb_len]; omega) (by decide)) (by decide)) (cwV 1 ht (gdV k_1_60 k_10_185 k_1_58 k_1_59 k_1_3) rfl rfl rfl (by decide +kernel) ⟨Nat.le_of_ble_eq_true rfl, Nat.le_of_ble_eq_true rfl⟩) ⟨pcx_blind, st_recv (xf_s hE 0 rfl).1 hS, pcx_at hP hD hK hS hA hE [] [] [0, 1, 2] (by decide) rfl rfl rfl rfl⟩ rfl rfl hl.1 rfl (lv_room (Nat.le_of_ble_eq_true rfl)) dX15_basic_60 ⟨Nat.le_of_ble_eq_true rfl, Nat.le_of_ble_eq_true rfl⟩) hP hD hK hS hA [] [0, 1, 2, 3, 4, 5] rfl rfl (by decide) (by decide) (fun r_7 u H locs w_8 hK hP hD hS => ?_)
      have hK : va_K (dC, dI) cls [(d0, .long), (d1, .int), (d2, .int), (d3, .int), (d4, .int)] s := hK
      have hP : va_P (dC, dI) cls [(q, .inr (15, G)), (b0, .inl (d0, 36, .inr (.inl h0))), (b1, .inl (d1, 36, .inl h1)), (b2, .inl (d2, 108, .inl h2)), (b3, .inl (d3, 36, .inl h3)), (b4, .inl (d4, 36, .inl h4))] H := hP
      have hD : va_D A [(q, .inr (15, G)), (b0, .inl (d0, 36, .inr (.inl h0))), (b1, .inl (d1, 36, .inl h1)), (b2, .inl (d2, 108, .inl h2)), (b3, .inl (d3, 36, .inl h3)), (b4, .inl (d4, 36, .inl h4))] := hD
      refine lv_bipush (v := 32) hx hb dX15_basic_63 (by decide) ?_
      refine lv_icmp_eq (tgt := 74) hx hb dX15_basic_65 (by decide) (fun b_9 => ?_) (fun b_9 => ?_)
      · have hje : j = nkk k := (tb_chr2 k hk26 j (by omega) hj).mp (w_8.symm.trans b_9)
        refine lv_aload_n hx hb dX15_basic_74 rfl (lv_at hl 4 rfl) ?_
        refine va_get (D := (dC, dI)) (ci := 15) (v := .ref b0) (C := RX15) (T := TX15) (N := 163) hx hb ht uX15 hown hK hP 0 rfl rfl 0 (by decide) (ht _ k_10_188) (fun _ h9 => h9) K0_G dX15_basic_75 ?_
        refine lv_aload_n hx hb dX15_basic_78 rfl (lv_at hl 4 rfl) ?_
        refine va_get (D := (dC, dI)) (ci := 15) (v := .int (nI k)) (C := RX15) (T := TX15) (N := 163) hx hb ht uX15 hown hK hP 0 rfl rfl 5 (by decide) (ht _ k_10_193) (fun _ h9 => h9) K5_G dX15_basic_79 ?_
        refine lv_lload_n hx hb dX15_basic_82 rfl (lv_at hl 1 rfl) ?_
        refine va_last (i := (nI k)) (x := nm) hx hb hK hP hD hS 1 0 rfl rfl (vp_in_nI (by omega) (by decide)) dX15_basic_83 (fun H locs hP hD hS => ?_)
        obtain ⟨f_10, ef_10⟩ : ∃ g : Nat → Int64, g = vp_updL h0 (nI k).toNatClampNeg nm := ⟨_, rfl⟩
        rw [← ef_10] at hP hD
        have hP : va_P (dC, dI) cls [(q, .inr (15, G)), (b0, .inl (d0, 36, .inr (.inl f_10))), (b1, .inl (d1, 36, .inl h1)), (b2, .inl (d2, 108, .inl h2)), (b3, .inl (d3, 36, .inl h3)), (b4, .inl (d4, 36, .inl h4))] H := hP
        have hD : va_D A [(q, .inr (15, G)), (b0, .inl (d0, 36, .inr (.inl f_10))), (b1, .inl (d1, 36, .inl h1)), (b2, .inl (d2, 108, .inl h2)), (b3, .inl (d3, 36, .inl h3)), (b4, .inl (d4, 36, .inl h4))] := hD
        refine lv_aload_n hx hb dX15_basic_84 rfl (lv_at hl 4 rfl) ?_
        refine va_get (D := (dC, dI)) (ci := 15) (v := .ref b1) (C := RX15) (T := TX15) (N := 163) hx hb ht uX15 hown hK hP 0 rfl rfl 1 (by decide) (ht _ k_10_189) (fun _ h9 => h9) K1_G dX15_basic_85 ?_
        refine lv_aload_n hx hb dX15_basic_88 rfl (lv_at hl 4 rfl) ?_
        refine va_get (D := (dC, dI)) (ci := 15) (v := .int (nI k)) (C := RX15) (T := TX15) (N := 163) hx hb ht uX15 hown hK hP 0 rfl rfl 5 (by decide) (ht _ k_10_193) (fun _ h9 => h9) K5_G dX15_basic_89 ?_
        refine lv_iload hx hb dX15_basic_92 (lv_at hl 0 rfl) ?_
        refine va_iast (i := (nI k)) (x := (nI j)) hx hb hK hP hD hS 2 1 rfl rfl (vp_in_nI (by omega) (by decide)) dX15_basic_94 (fun H locs hP hD hS => ?_)
        obtain ⟨f_11, ef_11⟩ : ∃ g : Nat → Int32, g = upd h1 (nI k).toNatClampNeg (nI j) := ⟨_, rfl⟩
        rw [← ef_11] at hP hD
        have hP : va_P (dC, dI) cls [(q, .inr (15, G)), (b0, .inl (d0, 36, .inr (.inl f_10))), (b1, .inl (d1, 36, .inl f_11)), (b2, .inl (d2, 108, .inl h2)), (b3, .inl (d3, 36, .inl h3)), (b4, .inl (d4, 36, .inl h4))] H := hP
        have hD : va_D A [(q, .inr (15, G)), (b0, .inl (d0, 36, .inr (.inl f_10))), (b1, .inl (d1, 36, .inl f_11)), (b2, .inl (d2, 108, .inl h2)), (b3, .inl (d3, 36, .inl h3)), (b4, .inl (d4, 36, .inl h4))] := hD
        refine lv_iconst (v := 0) hx hb dX15_basic_95 (by decide) ?_
        refine lv_istore (lv' := [(6, .int 0), (5, .int (nI j)), (3, .long nm), (2, .int (nI (bpk k))), (1, .ref sq), (0, .ref q)]) hx hb dX15_basic_96 hl (by decide) rfl (fun ls hl => ?_)
        refine lp_rule (fun H locs ls => W p l e _ s m _ below meth c H locs _ _ _ (F0 m 98 ls [])) (fun (z : Nat × (Nat → Int32)) H locs ls => match z with | (t, hw) => va_P (dC, dI) cls [(q, .inr (15, G)), (b0, .inl (d0, 36, .inr (.inl f_10))), (b1, .inl (d1, 36, .inl f_11)), (b2, .inl (d2, 108, .inl hw)), (b3, .inl (d3, 36, .inl h3)), (b4, .inl (d4, 36, .inl h4))] H ∧ va_D A [(q, .inr (15, G)), (b0, .inl (d0, 36, .inr (.inl f_10))), (b1, .inl (d1, 36, .inl f_11)), (b2, .inl (d2, 108, .inl hw)), (b3, .inl (d3, 36, .inl h3)), (b4, .inl (d4, 36, .inl h4))] ∧ va_S A s.heap H locs ∧ lv_has ls 7 [(6, .int (nI t)), (5, .int (nI j)), (3, .long nm), (2, .int (nI (bpk k))), (1, .ref sq), (0, .ref q)] ∧ True ∧ t ≤ j) (fun (z : Nat × (Nat → Int32)) => match z with | (t, hw) => j - t) ?_ (0, h2) H locs ls ⟨hP, hD, hS, lv_sub hl [0, 1, 2, 3, 4, 5] rfl, trivial, (Nat.zero_le _)⟩
        intro z H locs ls hI ih98
        obtain ⟨t, hw⟩ := z
        obtain ⟨hP, hD, hS, hl, -, ht9⟩ := hI
        have hP : va_P (dC, dI) cls [(q, .inr (15, G)), (b0, .inl (d0, 36, .inr (.inl f_10))), (b1, .inl (d1, 36, .inl f_11)), (b2, .inl (d2, 108, .inl hw)), (b3, .inl (d3, 36, .inl h3)), (b4, .inl (d4, 36, .inl h4))] H := hP
        have hD : va_D A [(q, .inr (15, G)), (b0, .inl (d0, 36, .inr (.inl f_10))), (b1, .inl (d1, 36, .inl f_11)), (b2, .inl (d2, 108, .inl hw)), (b3, .inl (d3, 36, .inl h3)), (b4, .inl (d4, 36, .inl h4))] := hD
        have hl : lv_has ls 7 [(6, .int (nI t)), (5, .int (nI j)), (3, .long nm), (2, .int (nI (bpk k))), (1, .ref sq), (0, .ref q)] := hl
        refine lv_iload hx hb dX15_basic_98 (lv_at hl 0 rfl) ?_
        refine lv_iload hx hb dX15_basic_100 (lv_at hl 1 rfl) ?_
        refine lv_icmp_ge (tgt := 133) hx hb dX15_basic_102 (by decide) (fun b_12 => ?_) (fun b_12 => ?_)
        · refine lv_aload_n hx hb dX15_basic_133 rfl (lv_at hl 5 rfl) ?_
          refine va_get (D := (dC, dI)) (ci := 15) (v := .ref b3) (C := RX15) (T := TX15) (N := 163) hx hb ht uX15 hown hK hP 0 rfl rfl 3 (by decide) (ht _ k_10_191) (fun _ h9 => h9) K3_G dX15_basic_134 ?_
          refine lv_aload_n hx hb dX15_basic_137 rfl (lv_at hl 5 rfl) ?_
          refine va_get (D := (dC, dI)) (ci := 15) (v := .int (nI k)) (C := RX15) (T := TX15) (N := 163) hx hb ht uX15 hown hK hP 0 rfl rfl 5 (by decide) (ht _ k_10_193) (fun _ h9 => h9) K5_G dX15_basic_138 ?_
          refine lv_aload_n hx hb dX15_basic_141 rfl (lv_at hl 4 rfl) ?_
          refine lv_iload_n hx hb dX15_basic_142 rfl (lv_at hl 3 rfl) ?_
          refine lv_iload hx hb dX15_basic_143 (lv_at hl 1 rfl) ?_
          refine lv_iadd hx hb dX15_basic_145 ?_
          refine tk_i (y := (nI (bpk k + j))) (nI_add _ _) ?_
          refine ca_i (wr := [(q, .inr (15, G)), (b0, .inl (d0, 36, .inr (.inl f_10))), (b1, .inl (d1, 36, .inl f_11)), (b2, .inl (d2, 108, .inl hw)), (b3, .inl (d3, 36, .inl h3)), (b4, .inl (d4, 36, .inl h4))]) (va_runV (As := [.int (nI (bpk k + j))]) (rest := [.int (nI k), .ref b3]) ⟨hx, hb, hml, hown, ht⟩ (j_charAt l dC dI H.size sq sv bsB (nI (bpk k + j))  (vp_in_nI (show bpk k + j < bsB.length by rw [tb_len]; omega) (by decide)) (by decide)) (cwV 1 ht (gdV k_1_60 k_10_185 k_1_58 k_1_59 k_1_3) rfl rfl rfl (by decide +kernel) ⟨Nat.le_of_ble_eq_true rfl, Nat.le_of_ble_eq_true rfl⟩) ⟨pcx_blind, st_recv (xf_s hE 0 rfl).1 hS, pcx_at hP hD hK hS hA hE [] [] [0, 1, 2] (by decide) rfl rfl rfl rfl⟩ rfl rfl hl.1 rfl (lv_room (Nat.le_of_ble_eq_true rfl)) dX15_basic_146 ⟨Nat.le_of_ble_eq_true rfl, Nat.le_of_ble_eq_true rfl⟩) hP hD hK hS hA [] [0, 1, 2, 3, 4, 5] rfl rfl (by decide) (by decide) (fun r_13 u H locs w_14 hK hP hD hS => ?_)
          have hK : va_K (dC, dI) cls [(d0, .long), (d1, .int), (d2, .int), (d3, .int), (d4, .int)] s := hK
          have hP : va_P (dC, dI) cls [(q, .inr (15, G)), (b0, .inl (d0, 36, .inr (.inl f_10))), (b1, .inl (d1, 36, .inl f_11)), (b2, .inl (d2, 108, .inl hw)), (b3, .inl (d3, 36, .inl h3)), (b4, .inl (d4, 36, .inl h4))] H := hP
          have hD : va_D A [(q, .inr (15, G)), (b0, .inl (d0, 36, .inr (.inl f_10))), (b1, .inl (d1, 36, .inl f_11)), (b2, .inl (d2, 108, .inl hw)), (b3, .inl (d3, 36, .inl h3)), (b4, .inl (d4, 36, .inl h4))] := hD
          refine va_iast (i := (nI k)) (x := r_13) hx hb hK hP hD hS 4 3 rfl rfl (vp_in_nI (by omega) (by decide)) dX15_basic_149 (fun H locs hP hD hS => ?_)
          obtain ⟨f_15, ef_15⟩ : ∃ g : Nat → Int32, g = upd h3 (nI k).toNatClampNeg r_13 := ⟨_, rfl⟩
          rw [← ef_15] at hP hD
          have hP : va_P (dC, dI) cls [(q, .inr (15, G)), (b0, .inl (d0, 36, .inr (.inl f_10))), (b1, .inl (d1, 36, .inl f_11)), (b2, .inl (d2, 108, .inl hw)), (b3, .inl (d3, 36, .inl f_15)), (b4, .inl (d4, 36, .inl h4))] H := hP
          have hD : va_D A [(q, .inr (15, G)), (b0, .inl (d0, 36, .inr (.inl f_10))), (b1, .inl (d1, 36, .inl f_11)), (b2, .inl (d2, 108, .inl hw)), (b3, .inl (d3, 36, .inl f_15)), (b4, .inl (d4, 36, .inl h4))] := hD
          refine lv_aload_n hx hb dX15_basic_150 rfl (lv_at hl 5 rfl) ?_
          refine va_get (D := (dC, dI)) (ci := 15) (v := .ref b4) (C := RX15) (T := TX15) (N := 163) hx hb ht uX15 hown hK hP 0 rfl rfl 4 (by decide) (ht _ k_10_192) (fun _ h9 => h9) K4_G dX15_basic_151 ?_
          refine lv_aload_n hx hb dX15_basic_154 rfl (lv_at hl 5 rfl) ?_
          refine va_get (D := (dC, dI)) (ci := 15) (v := .int (nI k)) (C := RX15) (T := TX15) (N := 163) hx hb ht uX15 hown hK hP 0 rfl rfl 5 (by decide) (ht _ k_10_193) (fun _ h9 => h9) K5_G dX15_basic_155 ?_
          refine lv_iconst (v := (-1)) hx hb dX15_basic_158 (by decide) ?_
          refine va_iast (i := (nI k)) (x := (-1)) hx hb hK hP hD hS 5 4 rfl rfl (vp_in_nI (by omega) (by decide)) dX15_basic_159 (fun H locs hP hD hS => ?_)
          obtain ⟨f_16, ef_16⟩ : ∃ g : Nat → Int32, g = upd h4 (nI k).toNatClampNeg (-1) := ⟨_, rfl⟩
          rw [← ef_16] at hP hD
          have hP : va_P (dC, dI) cls [(q, .inr (15, G)), (b0, .inl (d0, 36, .inr (.inl f_10))), (b1, .inl (d1, 36, .inl f_11)), (b2, .inl (d2, 108, .inl hw)), (b3, .inl (d3, 36, .inl f_15)), (b4, .inl (d4, 36, .inl f_16))] H := hP
          have hD : va_D A [(q, .inr (15, G)), (b0, .inl (d0, 36, .inr (.inl f_10))), (b1, .inl (d1, 36, .inl f_11)), (b2, .inl (d2, 108, .inl hw)), (b3, .inl (d3, 36, .inl f_15)), (b4, .inl (d4, 36, .inl f_16))] := hD
          refine lv_aload_n hx hb dX15_basic_160 rfl (lv_at hl 5 rfl) ?_
          refine lv_dup hx hb dX15_basic_161 rfl ?_
          refine va_get (D := (dC, dI)) (ci := 15) (v := .int (nI k)) (C := RX15) (T := TX15) (N := 163) hx hb ht uX15 hown hK hP 0 rfl rfl 5 (by decide) (ht _ k_10_193) (fun _ h9 => h9) K5_G dX15_basic_162 ?_
          refine lv_iconst (v := 1) hx hb dX15_basic_165 (by decide) ?_
          refine lv_iadd hx hb dX15_basic_166 ?_
          refine tk_i (y := (nI (k + 1))) (nI_1 _) ?_
          refine va_put (D := (dC, dI)) (ci := 15) (v := .int (nI (k + 1))) (ty := .int) (C := RX15) (T := TX15) (N := 163) hx hb ht uX15 tyX15 tkX15 nmX15 hown hK hP hD hS 0 rfl rfl 5 (by decide) (ht _ k_10_193) (fun _ h9 => h9) rfl (by decide +kernel) rfl rfl (by rw [L_G]; decide) dX15_basic_167 (fun H locs hP hD hS => ?_)
          obtain ⟨F_17, eF_17⟩ : ∃ g : List Value, g = G.set 5 (.int (nI (k + 1))) := ⟨_, rfl⟩
          rw [← eF_17] at hP hD
          have K0_F_17 : F_17[0]? = some (.ref b0) := by rw [eF_17, List.getElem?_set_ne (by decide)]; exact K0_G
          have K1_F_17 : F_17[1]? = some (.ref b1) := by rw [eF_17, List.getElem?_set_ne (by decide)]; exact K1_G
          have K2_F_17 : F_17[2]? = some (.ref b2) := by rw [eF_17, List.getElem?_set_ne (by decide)]; exact K2_G
          have K3_F_17 : F_17[3]? = some (.ref b3) := by rw [eF_17, List.getElem?_set_ne (by decide)]; exact K3_G
          have K4_F_17 : F_17[4]? = some (.ref b4) := by rw [eF_17, List.getElem?_set_ne (by decide)]; exact K4_G
          have K5_F_17 : F_17[5]? = some (.int (nI (k + 1))) := by rw [eF_17]; exact List.getElem?_set_self (by rw [L_G]; decide)
          have L_F_17 : F_17.length = 163 := by rw [eF_17, List.length_set]; exact L_G
          have hP : va_P (dC, dI) cls [(q, .inr (15, F_17)), (b0, .inl (d0, 36, .inr (.inl f_10))), (b1, .inl (d1, 36, .inl f_11)), (b2, .inl (d2, 108, .inl hw)), (b3, .inl (d3, 36, .inl f_15)), (b4, .inl (d4, 36, .inl f_16))] H := hP
          have hD : va_D A [(q, .inr (15, F_17)), (b0, .inl (d0, 36, .inr (.inl f_10))), (b1, .inl (d1, 36, .inl f_11)), (b2, .inl (d2, 108, .inl hw)), (b3, .inl (d3, 36, .inl f_15)), (b4, .inl (d4, 36, .inl f_16))] := hD
          refine lv_iload_n hx hb dX15_basic_170 rfl (lv_at hl 3 rfl) ?_
          refine lv_iload hx hb dX15_basic_171 (lv_at hl 1 rfl) ?_
          refine lv_iconst (v := 2) hx hb dX15_basic_173 (by decide) ?_
          refine lv_iadd hx hb dX15_basic_174 ?_
          refine tk_i (y := (nI (j + 2))) (nI_add j 2) ?_
          refine lv_iadd hx hb dX15_basic_175 ?_
          refine tk_i (y := (nI (apk (k + 1)))) (by rw [nI_add, hap1, hje]; rfl) ?_
          refine lv_istore_n (lv' := [(2, .int (nI (apk (k + 1)))), (6, .int (nI t)), (5, .int (nI j)), (3, .long nm), (1, .ref sq), (0, .ref q)]) hx hb dX15_basic_176 rfl hl (by decide) rfl (fun ls hl => ?_)
          refine lv_goto (tgt := 2) hx hb dX15_basic_177 (by decide) ?_
          exact ih2 (k + 1, F_17, f_10, f_11, hw, f_15, f_16) H locs ls (show 26 - (k + 1) < 26 - k by omega) ⟨hP.sub [0, 1, 2, 3, 4, 5] rfl, hD.sub [0, 1, 2, 3, 4, 5] (by decide) rfl, hS, lv_sub hl [0, 4, 5] rfl, trivial, (by omega), (by rw [eF_17, hG, List.set_set])⟩
        · have htj : t < j := nI_lej (by omega) (by omega) b_12
          refine lv_aload_n hx hb dX15_basic_105 rfl (lv_at hl 5 rfl) ?_
          refine va_get (D := (dC, dI)) (ci := 15) (v := .ref b2) (C := RX15) (T := TX15) (N := 163) hx hb ht uX15 hown hK hP 0 rfl rfl 2 (by decide) (ht _ k_10_190) (fun _ h9 => h9) K2_G dX15_basic_106 ?_
          refine lv_iconst (v := 3) hx hb dX15_basic_109 (by decide) ?_
          refine lv_aload_n hx hb dX15_basic_110 rfl (lv_at hl 5 rfl) ?_
          refine va_get (D := (dC, dI)) (ci := 15) (v := .int (nI k)) (C := RX15) (T := TX15) (N := 163) hx hb ht uX15 hown hK hP 0 rfl rfl 5 (by decide) (ht _ k_10_193) (fun _ h9 => h9) K5_G dX15_basic_111 ?_
          refine lv_imul hx hb dX15_basic_114 ?_
          refine tk_i (y := (nI (3 * k))) (pk_mul 3 k) ?_
          refine lv_iload hx hb dX15_basic_115 (lv_at hl 0 rfl) ?_
          refine lv_iadd hx hb dX15_basic_117 ?_
          refine tk_i (y := (nI (3 * k + t))) (nI_add _ _) ?_
          refine lv_aload_n hx hb dX15_basic_118 rfl (lv_at hl 4 rfl) ?_
          refine lv_iload_n hx hb dX15_basic_119 rfl (lv_at hl 3 rfl) ?_
          refine lv_iload hx hb dX15_basic_120 (lv_at hl 0 rfl) ?_
          refine lv_iadd hx hb dX15_basic_122 ?_
          refine tk_i (y := (nI (bpk k + t))) (nI_add _ _) ?_
          refine ca_i (wr := [(q, .inr (15, G)), (b0, .inl (d0, 36, .inr (.inl f_10))), (b1, .inl (d1, 36, .inl f_11)), (b2, .inl (d2, 108, .inl hw)), (b3, .inl (d3, 36, .inl h3)), (b4, .inl (d4, 36, .inl h4))]) (va_runV (As := [.int (nI (bpk k + t))]) (rest := [.int (nI (3 * k + t)), .ref b2]) ⟨hx, hb, hml, hown, ht⟩ (j_charAt l dC dI H.size sq sv bsB (nI (bpk k + t))  (vp_in_nI (show bpk k + t < bsB.length by rw [tb_len]; omega) (by decide)) (by decide)) (cwV 1 ht (gdV k_1_60 k_10_185 k_1_58 k_1_59 k_1_3) rfl rfl rfl (by decide +kernel) ⟨Nat.le_of_ble_eq_true rfl, Nat.le_of_ble_eq_true rfl⟩) ⟨pcx_blind, st_recv (xf_s hE 0 rfl).1 hS, pcx_at hP hD hK hS hA hE [] [] [0, 1, 2] (by decide) rfl rfl rfl rfl⟩ rfl rfl hl.1 rfl (lv_room (Nat.le_of_ble_eq_true rfl)) dX15_basic_123 ⟨Nat.le_of_ble_eq_true rfl, Nat.le_of_ble_eq_true rfl⟩) hP hD hK hS hA [] [0, 1, 2, 3, 4, 5] rfl rfl (by decide) (by decide) (fun r_18 u H locs w_19 hK hP hD hS => ?_)
          have hK : va_K (dC, dI) cls [(d0, .long), (d1, .int), (d2, .int), (d3, .int), (d4, .int)] s := hK
          have hP : va_P (dC, dI) cls [(q, .inr (15, G)), (b0, .inl (d0, 36, .inr (.inl f_10))), (b1, .inl (d1, 36, .inl f_11)), (b2, .inl (d2, 108, .inl hw)), (b3, .inl (d3, 36, .inl h3)), (b4, .inl (d4, 36, .inl h4))] H := hP
          have hD : va_D A [(q, .inr (15, G)), (b0, .inl (d0, 36, .inr (.inl f_10))), (b1, .inl (d1, 36, .inl f_11)), (b2, .inl (d2, 108, .inl hw)), (b3, .inl (d3, 36, .inl h3)), (b4, .inl (d4, 36, .inl h4))] := hD
          refine va_iast (i := (nI (3 * k + t))) (x := r_18) hx hb hK hP hD hS 3 2 rfl rfl (vp_in_nI (by omega) (by decide)) dX15_basic_126 (fun H locs hP hD hS => ?_)
          obtain ⟨f_20, ef_20⟩ : ∃ g : Nat → Int32, g = upd hw (nI (3 * k + t)).toNatClampNeg r_18 := ⟨_, rfl⟩
          rw [← ef_20] at hP hD
          have hP : va_P (dC, dI) cls [(q, .inr (15, G)), (b0, .inl (d0, 36, .inr (.inl f_10))), (b1, .inl (d1, 36, .inl f_11)), (b2, .inl (d2, 108, .inl f_20)), (b3, .inl (d3, 36, .inl h3)), (b4, .inl (d4, 36, .inl h4))] H := hP
          have hD : va_D A [(q, .inr (15, G)), (b0, .inl (d0, 36, .inr (.inl f_10))), (b1, .inl (d1, 36, .inl f_11)), (b2, .inl (d2, 108, .inl f_20)), (b3, .inl (d3, 36, .inl h3)), (b4, .inl (d4, 36, .inl h4))] := hD
          refine lv_iinc (v := (nI (t + 1))) (lv' := [(6, .int (nI (t + 1))), (5, .int (nI j)), (3, .long nm), (2, .int (nI (bpk k))), (1, .ref sq), (0, .ref q)]) hx hb dX15_basic_127 hl (k := 0) rfl (nI_1 _) (by decide) rfl (fun ls hl => ?_)
          refine lv_goto (tgt := 98) hx hb dX15_basic_130 (by decide) ?_
          exact ih98 (t + 1, f_20) H locs ls (show j - (t + 1) < j - t by omega) ⟨hP.sub [0, 1, 2, 3, 4, 5] rfl, hD.sub [0, 1, 2, 3, 4, 5] (by decide) rfl, hS, lv_sub hl [0, 1, 2, 3, 4, 5] rfl, trivial, (by omega)⟩
      · have hjl : j < nkk k := by
          have h : ¬ j = nkk k := fun h => b_9 (w_8.trans ((tb_chr2 k hk26 j (by omega) hj).mpr h))
          omega
        refine lv_iinc (v := (nI (j + 1))) (lv' := [(5, .int (nI (j + 1))), (3, .long nm), (2, .int (nI (bpk k))), (1, .ref sq), (0, .ref q)]) hx hb dX15_basic_68 hl (k := 0) rfl (nI_1 _) (by decide) rfl (fun ls hl => ?_)
        refine lv_goto (tgt := 53) hx hb dX15_basic_71 (by decide) ?_
        exact ih53 (j + 1) H locs ls (show nkk k - (j + 1) < nkk k - j by omega) ⟨hP.sub [0, 1, 2, 3, 4, 5] rfl, hD.sub [0, 1, 2, 3, 4, 5] (by decide) rfl, hS, lv_sub hl [0, 1, 2, 3, 4] rfl, trivial, (by omega)⟩
    · have hil : i < wlk k := by
        have h : ¬ i = wlk k := fun h => b_6 (w_5.trans ((tb_chr k hk26 i (by omega) hi).mpr h))
        omega
      refine lv_lload_n hx hb dX15_basic_22 rfl (lv_at hl 0 rfl) ?_
      refine lv_ldc2 (v := 27) hx hb hown (ht _ k_10_186) dX15_basic_23 ?_
      refine lv_lmul hx hb dX15_basic_26 ?_
      refine lv_topl (fun x_21 ex_21 => ?_)
      refine lv_aload_n hx hb dX15_basic_27 rfl (lv_at hl 2 rfl) ?_
      refine lv_iload_n hx hb dX15_basic_28 rfl (lv_at hl 1 rfl) ?_
      refine ca_i (wr := [(q, .inr (15, G)), (b0, .inl (d0, 36, .inr (.inl h0))), (b1, .inl (d1, 36, .inl h1)), (b2, .inl (d2, 108, .inl h2)), (b3, .inl (d3, 36, .inl h3)), (b4, .inl (d4, 36, .inl h4))]) (va_runV (As := [.int (nI (apk k + i))]) (rest := [.long x_21]) ⟨hx, hb, hml, hown, ht⟩ (j_charAt l dC dI H.size sq sv bsB (nI (apk k + i))  (vp_in_nI (show apk k + i < bsB.length by rw [tb_len]; omega) (by decide)) (by decide)) (cwV 1 ht (gdV k_1_60 k_10_185 k_1_58 k_1_59 k_1_3) rfl rfl rfl (by decide +kernel) ⟨Nat.le_of_ble_eq_true rfl, Nat.le_of_ble_eq_true rfl⟩) ⟨pcx_blind, st_recv (xf_s hE 0 rfl).1 hS, pcx_at hP hD hK hS hA hE [] [] [0, 1, 2] (by decide) rfl rfl rfl rfl⟩ rfl rfl hl.1 rfl (lv_room (Nat.le_of_ble_eq_true rfl)) dX15_basic_29 ⟨Nat.le_of_ble_eq_true rfl, Nat.le_of_ble_eq_true rfl⟩) hP hD hK hS hA [] [0, 1, 2, 3, 4, 5] rfl rfl (by decide) (by decide) (fun r_22 u H locs w_23 hK hP hD hS => ?_)
      have hK : va_K (dC, dI) cls [(d0, .long), (d1, .int), (d2, .int), (d3, .int), (d4, .int)] s := hK
      have hP : va_P (dC, dI) cls [(q, .inr (15, G)), (b0, .inl (d0, 36, .inr (.inl h0))), (b1, .inl (d1, 36, .inl h1)), (b2, .inl (d2, 108, .inl h2)), (b3, .inl (d3, 36, .inl h3)), (b4, .inl (d4, 36, .inl h4))] H := hP
      have hD : va_D A [(q, .inr (15, G)), (b0, .inl (d0, 36, .inr (.inl h0))), (b1, .inl (d1, 36, .inl h1)), (b2, .inl (d2, 108, .inl h2)), (b3, .inl (d3, 36, .inl h3)), (b4, .inl (d4, 36, .inl h4))] := hD
      refine lv_i2l hx hb dX15_basic_32 rfl ?_
      refine lv_topl (fun x_24 ex_24 => ?_)
      refine lv_ladd hx hb dX15_basic_33 ?_
      refine lv_topl (fun x_25 ex_25 => ?_)
      refine lv_ldc2 (v := 97) hx hb hown (ht _ k_10_187) dX15_basic_34 ?_
      refine lv_lsub hx hb dX15_basic_37 ?_
      refine lv_topl (fun x_26 ex_26 => ?_)
      refine lv_lconst (v := 1) hx hb dX15_basic_38 (by decide) ?_
      refine lv_ladd hx hb dX15_basic_39 ?_
      refine lv_topl (fun x_27 ex_27 => ?_)
      refine lv_lstore_n (lv' := [(3, .long x_27), (2, .int (nI (apk k + i))), (1, .ref sq), (0, .ref q)]) hx hb dX15_basic_40 rfl hl (by decide) rfl (fun ls hl => ?_)
      refine lv_iinc (v := (nI (apk k + (i + 1)))) (lv' := [(2, .int (nI (apk k + (i + 1)))), (3, .long x_27), (1, .ref sq), (0, .ref q)]) hx hb dX15_basic_41 hl (k := 1) rfl (nI_1 _) (by decide) rfl (fun ls hl => ?_)
      refine lv_goto (tgt := 12) hx hb dX15_basic_44 (by decide) ?_
      exact ih12 (i + 1, x_27) H locs ls (show wlk k - (i + 1) < wlk k - i by omega) ⟨hP.sub [0, 1, 2, 3, 4, 5] rfl, hD.sub [0, 1, 2, 3, 4, 5] (by decide) rfl, hS, lv_sub hl [1, 0, 2, 3] rfl, trivial, (by omega)⟩
