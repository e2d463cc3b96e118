theorem dX15_findLevel_0 : decode cX15_findLevel 0 = .ok (.aload_n 0, 1) := by decide +kernel
theorem k_11_94 : Jvm.Cond.fieldLink "FinderHouseModel" (1195 : Nat) "FinderHouseModel" "levels" "I" ∈ tb := tb11 94 (by decide +kernel) (by decide +kernel)
theorem dX15_findLevel_1 : decode cX15_findLevel 1 = .ok (.getfield 1195, 3) := by decide +kernel
theorem dX15_findLevel_4 : decode cX15_findLevel 4 = .ok (.ifCond .ne 58, 3) := by decide +kernel
theorem dX15_findLevel_7 : decode cX15_findLevel 7 = .ok (.aload_n 0, 1) := by decide +kernel
theorem k_16_2 : Jvm.Cond.constant "FinderHouseModel" (1198 : Nat) (111152 : Int32) ∈ tb := tb16 2 (by decide +kernel) (by decide +kernel)
theorem dX15_findLevel_8 : decode cX15_findLevel 8 = .ok (.ldc_w 1198, 3) := by decide +kernel
theorem dX15_findLevel_11 : decode cX15_findLevel 11 = .ok (.newarray .long, 2) := by decide +kernel
theorem dX15_findLevel_13 : decode cX15_findLevel 13 = .ok (.putfield 1178, 3) := by decide +kernel
theorem dX15_findLevel_16 : decode cX15_findLevel 16 = .ok (.aload_n 0, 1) := by decide +kernel
theorem dX15_findLevel_17 : decode cX15_findLevel 17 = .ok (.ldc_w 1198, 3) := by decide +kernel
theorem dX15_findLevel_20 : decode cX15_findLevel 20 = .ok (.newarray .long, 2) := by decide +kernel
theorem dX15_findLevel_22 : decode cX15_findLevel 22 = .ok (.putfield 1181, 3) := by decide +kernel
theorem dX15_findLevel_25 : decode cX15_findLevel 25 = .ok (.aload_n 0, 1) := by decide +kernel
theorem dX15_findLevel_26 : decode cX15_findLevel 26 = .ok (.ldc_w 1198, 3) := by decide +kernel
theorem dX15_findLevel_29 : decode cX15_findLevel 29 = .ok (.newarray .int, 2) := by decide +kernel
theorem dX15_findLevel_31 : decode cX15_findLevel 31 = .ok (.putfield 1188, 3) := by decide +kernel
theorem dX15_findLevel_34 : decode cX15_findLevel 34 = .ok (.aload_n 0, 1) := by decide +kernel
theorem dX15_findLevel_35 : decode cX15_findLevel 35 = .ok (.ldc_w 1198, 3) := by decide +kernel
theorem dX15_findLevel_38 : decode cX15_findLevel 38 = .ok (.newarray .byte, 2) := by decide +kernel
theorem dX15_findLevel_40 : decode cX15_findLevel 40 = .ok (.putfield 1191, 3) := by decide +kernel
theorem dX15_findLevel_43 : decode cX15_findLevel 43 = .ok (.aload_n 0, 1) := by decide +kernel
theorem k_16_3 : Jvm.Cond.constant "FinderHouseModel" (1199 : Nat) (262144 : Int32) ∈ tb := tb16 3 (by decide +kernel) (by decide +kernel)
theorem dX15_findLevel_44 : decode cX15_findLevel 44 = .ok (.ldc_w 1199, 3) := by decide +kernel
theorem dX15_findLevel_47 : decode cX15_findLevel 47 = .ok (.newarray .int, 2) := by decide +kernel
theorem dX15_findLevel_49 : decode cX15_findLevel 49 = .ok (.putfield 1175, 3) := by decide +kernel
theorem dX15_findLevel_52 : decode cX15_findLevel 52 = .ok (.aload_n 0, 1) := by decide +kernel
theorem k_16_4 : Jvm.Cond.constantLong "FinderHouseModel" (1200 : Nat) (-81985529216486896 : Int64) ∈ tb := tb16 4 (by decide +kernel) (by decide +kernel)
theorem dX15_findLevel_53 : decode cX15_findLevel 53 = .ok (.ldc2_w 1200, 3) := by decide +kernel
theorem dX15_findLevel_56 : decode cX15_findLevel 56 = .ok (.lconst 0, 1) := by decide +kernel
theorem dX15_findLevel_57 : decode cX15_findLevel 57 = .ok (.iconst (-1), 1) := by decide +kernel
theorem dX15_findLevel_58 : decode cX15_findLevel 58 = .ok (.iconst 0, 1) := by decide +kernel
theorem k_16_8 : Jvm.Cond.code ({ cls := "FinderHouseModel", name := "addState", desc := "(JJII)V" } : Jvm.MethodName) prog_14_method_188_code (9 : Nat) (Option.none : Option Jvm.ClassFile.FieldType) ∈ tb := tb16 8 (by decide +kernel) (by decide +kernel)
theorem k_16_5 : Jvm.Cond.methodLink "FinderHouseModel" (1202 : Nat) ({ cls := "FinderHouseModel", name := "addState", desc := "(JJII)V" } : Jvm.MethodName) ∈ tb := tb16 5 (by decide +kernel) (by decide +kernel)
theorem k_16_7 : Jvm.Cond.instanceMethod ({ cls := "FinderHouseModel", name := "addState", desc := "(JJII)V" } : Jvm.MethodName) ∈ tb := tb16 7 (by decide +kernel) (by decide +kernel)
theorem ks_235 : Jvm.Cond.selects "FinderHouseModel" ({ cls := "FinderHouseModel", name := "addState", desc := "(JJII)V" } : Jvm.MethodName) ({ cls := "FinderHouseModel", name := "addState", desc := "(JJII)V" } : Jvm.MethodName) ∈ tb := tbp 235 (by decide +kernel) (by decide +kernel)
theorem dX15_findLevel_59 : decode cX15_findLevel 59 = .ok (.invokevirtual 1202, 3) := by decide +kernel
theorem dX15_findLevel_62 : decode cX15_findLevel 62 = .ok (.aload_n 0, 1) := by decide +kernel
theorem dX15_findLevel_63 : decode cX15_findLevel 63 = .ok (.getfield 1195, 3) := by decide +kernel
theorem dX15_findLevel_66 : decode cX15_findLevel 66 = .ok (.ifCond .ne 7, 3) := by decide +kernel
theorem dX15_findLevel_69 : decode cX15_findLevel 69 = .ok (.iconst 0, 1) := by decide +kernel
theorem dX15_findLevel_70 : decode cX15_findLevel 70 = .ok (.goto 14, 3) := by decide +kernel
theorem dX15_findLevel_84 : decode cX15_findLevel 84 = .ok (.istore_n 1, 1) := by decide +kernel
theorem dX15_findLevel_85 : decode cX15_findLevel 85 = .ok (.aload_n 0, 1) := by decide +kernel
theorem dX15_findLevel_86 : decode cX15_findLevel 86 = .ok (.getfield 1195, 3) := by decide +kernel
theorem dX15_findLevel_89 : decode cX15_findLevel 89 = .ok (.ifCond .le 128, 3) := by decide +kernel
theorem dX15_findLevel_217 : decode cX15_findLevel 217 = .ok (.aload_n 0, 1) := by decide +kernel
theorem dX15_findLevel_218 : decode cX15_findLevel 218 = .ok (.dup, 1) := by decide +kernel
theorem dX15_findLevel_219 : decode cX15_findLevel 219 = .ok (.getfield 1195, 3) := by decide +kernel
theorem dX15_findLevel_222 : decode cX15_findLevel 222 = .ok (.iconst 1, 1) := by decide +kernel
theorem dX15_findLevel_223 : decode cX15_findLevel 223 = .ok (.iadd, 1) := by decide +kernel
theorem dX15_findLevel_224 : decode cX15_findLevel 224 = .ok (.putfield 1195, 3) := by decide +kernel
theorem dX15_findLevel_227 : decode cX15_findLevel 227 = .ok (.aload_n 0, 1) := by decide +kernel
theorem k_11_95 : Jvm.Cond.fieldLink "FinderHouseModel" (295 : Nat) "FinderHouseModel" "level" "[I" ∈ tb := tb11 95 (by decide +kernel) (by decide +kernel)
theorem dX15_findLevel_228 : decode cX15_findLevel 228 = .ok (.getfield 295, 3) := by decide +kernel
theorem dX15_findLevel_231 : decode cX15_findLevel 231 = .ok (.aload_n 0, 1) := by decide +kernel
theorem dX15_findLevel_232 : decode cX15_findLevel 232 = .ok (.getfield 1195, 3) := by decide +kernel
theorem dX15_findLevel_235 : decode cX15_findLevel 235 = .ok (.aload_n 0, 1) := by decide +kernel
theorem dX15_findLevel_236 : decode cX15_findLevel 236 = .ok (.getfield 1185, 3) := by decide +kernel
theorem dX15_findLevel_239 : decode cX15_findLevel 239 = .ok (.iastore, 1) := by decide +kernel
theorem dX15_findLevel_240 : decode cX15_findLevel 240 = .ok (.return_, 1) := by decide +kernel
theorem dX15_findLevel_73 : decode cX15_findLevel 73 = .ok (.aload_n 0, 1) := by decide +kernel
theorem dX15_findLevel_74 : decode cX15_findLevel 74 = .ok (.getfield 295, 3) := by decide +kernel
theorem dX15_findLevel_77 : decode cX15_findLevel 77 = .ok (.aload_n 0, 1) := by decide +kernel
theorem dX15_findLevel_78 : decode cX15_findLevel 78 = .ok (.getfield 1195, 3) := by decide +kernel
theorem dX15_findLevel_81 : decode cX15_findLevel 81 = .ok (.iconst 1, 1) := by decide +kernel
theorem dX15_findLevel_82 : decode cX15_findLevel 82 = .ok (.isub, 1) := by decide +kernel
theorem dX15_findLevel_83 : decode cX15_findLevel 83 = .ok (.iaload, 1) := by decide +kernel
theorem dX15_findLevel_92 : decode cX15_findLevel 92 = .ok (.iload_n 1, 1) := by decide +kernel
theorem dX15_findLevel_93 : decode cX15_findLevel 93 = .ok (.aload_n 0, 1) := by decide +kernel
theorem dX15_findLevel_94 : decode cX15_findLevel 94 = .ok (.getfield 295, 3) := by decide +kernel
theorem dX15_findLevel_97 : decode cX15_findLevel 97 = .ok (.aload_n 0, 1) := by decide +kernel
theorem dX15_findLevel_98 : decode cX15_findLevel 98 = .ok (.getfield 1195, 3) := by decide +kernel
theorem dX15_findLevel_101 : decode cX15_findLevel 101 = .ok (.iaload, 1) := by decide +kernel
theorem dX15_findLevel_102 : decode cX15_findLevel 102 = .ok (.if_icmp .ge 115, 3) := by decide +kernel
theorem dX15_findLevel_105 : decode cX15_findLevel 105 = .ok (.iconst 0, 1) := by decide +kernel
theorem dX15_findLevel_106 : decode cX15_findLevel 106 = .ok (.istore_n 2, 1) := by decide +kernel
theorem dX15_findLevel_107 : decode cX15_findLevel 107 = .ok (.iload_n 2, 1) := by decide +kernel
theorem dX15_findLevel_108 : decode cX15_findLevel 108 = .ok (.bipush 18, 2) := by decide +kernel
theorem dX15_findLevel_110 : decode cX15_findLevel 110 = .ok (.if_icmp .ge 101, 3) := by decide +kernel
theorem dX15_findLevel_211 : decode cX15_findLevel 211 = .ok (.iinc 1 1, 3) := by decide +kernel
theorem dX15_findLevel_214 : decode cX15_findLevel 214 = .ok (.goto (-129), 3) := by decide +kernel
theorem dX15_findLevel_113 : decode cX15_findLevel 113 = .ok (.lconst 0, 1) := by decide +kernel
theorem dX15_findLevel_114 : decode cX15_findLevel 114 = .ok (.lstore_n 3, 1) := by decide +kernel
theorem dX15_findLevel_115 : decode cX15_findLevel 115 = .ok (.lconst 0, 1) := by decide +kernel
theorem dX15_findLevel_116 : decode cX15_findLevel 116 = .ok (.lstore 5, 2) := by decide +kernel
theorem dX15_findLevel_118 : decode cX15_findLevel 118 = .ok (.iconst 0, 1) := by decide +kernel
theorem dX15_findLevel_119 : decode cX15_findLevel 119 = .ok (.istore 7, 2) := by decide +kernel
theorem dX15_findLevel_121 : decode cX15_findLevel 121 = .ok (.iload 7, 2) := by decide +kernel
theorem dX15_findLevel_123 : decode cX15_findLevel 123 = .ok (.bipush 16, 2) := by decide +kernel
theorem dX15_findLevel_125 : decode cX15_findLevel 125 = .ok (.if_icmp .ge 71, 3) := by decide +kernel
theorem dX15_findLevel_196 : decode cX15_findLevel 196 = .ok (.aload_n 0, 1) := by decide +kernel
theorem dX15_findLevel_197 : decode cX15_findLevel 197 = .ok (.lload_n 3, 1) := by decide +kernel
theorem dX15_findLevel_198 : decode cX15_findLevel 198 = .ok (.lload 5, 2) := by decide +kernel
theorem dX15_findLevel_200 : decode cX15_findLevel 200 = .ok (.iload_n 1, 1) := by decide +kernel
theorem dX15_findLevel_201 : decode cX15_findLevel 201 = .ok (.iload_n 2, 1) := by decide +kernel
theorem dX15_findLevel_202 : decode cX15_findLevel 202 = .ok (.invokevirtual 1202, 3) := by decide +kernel
theorem dX15_findLevel_205 : decode cX15_findLevel 205 = .ok (.iinc 2 1, 3) := by decide +kernel
theorem dX15_findLevel_208 : decode cX15_findLevel 208 = .ok (.goto (-101), 3) := by decide +kernel
theorem dX15_findLevel_128 : decode cX15_findLevel 128 = .ok (.aload_n 0, 1) := by decide +kernel
theorem dX15_findLevel_129 : decode cX15_findLevel 129 = .ok (.getfield 1178, 3) := by decide +kernel
theorem dX15_findLevel_132 : decode cX15_findLevel 132 = .ok (.iload_n 1, 1) := by decide +kernel
theorem dX15_findLevel_133 : decode cX15_findLevel 133 = .ok (.laload, 1) := by decide +kernel
theorem dX15_findLevel_134 : decode cX15_findLevel 134 = .ok (.iload 7, 2) := by decide +kernel
theorem k_16_18 : Jvm.Cond.code ({ cls := "FinderHouseModel", name := "nibble", desc := "(JI)I" } : Jvm.MethodName) prog_14_method_186_code (3 : Nat) (Option.some Jvm.ClassFile.FieldType.int) ∈ tb := tb16 18 (by decide +kernel) (by decide +kernel)
theorem k_16_16 : Jvm.Cond.methodLink "FinderHouseModel" (1206 : Nat) ({ cls := "FinderHouseModel", name := "nibble", desc := "(JI)I" } : Jvm.MethodName) ∈ tb := tb16 16 (by decide +kernel) (by decide +kernel)
theorem k_16_17 : Jvm.Cond.static ({ cls := "FinderHouseModel", name := "nibble", desc := "(JI)I" } : Jvm.MethodName) ∈ tb := tb16 17 (by decide +kernel) (by decide +kernel)
theorem dX15_findLevel_136 : decode cX15_findLevel 136 = .ok (.invokestatic 1206, 3) := by decide +kernel
theorem dX15_findLevel_139 : decode cX15_findLevel 139 = .ok (.istore 8, 2) := by decide +kernel
theorem dX15_findLevel_141 : decode cX15_findLevel 141 = .ok (.aload_n 0, 1) := by decide +kernel
theorem dX15_findLevel_142 : decode cX15_findLevel 142 = .ok (.getfield 1181, 3) := by decide +kernel
theorem dX15_findLevel_145 : decode cX15_findLevel 145 = .ok (.iload_n 1, 1) := by decide +kernel
theorem dX15_findLevel_146 : decode cX15_findLevel 146 = .ok (.laload, 1) := by decide +kernel
theorem dX15_findLevel_147 : decode cX15_findLevel 147 = .ok (.iload 7, 2) := by decide +kernel
theorem dX15_findLevel_149 : decode cX15_findLevel 149 = .ok (.invokestatic 1206, 3) := by decide +kernel
theorem dX15_findLevel_152 : decode cX15_findLevel 152 = .ok (.istore 9, 2) := by decide +kernel
theorem dX15_findLevel_154 : decode cX15_findLevel 154 = .ok (.lload_n 3, 1) := by decide +kernel
theorem dX15_findLevel_155 : decode cX15_findLevel 155 = .ok (.iload_n 2, 1) := by decide +kernel
theorem dX15_findLevel_156 : decode cX15_findLevel 156 = .ok (.iload 8, 2) := by decide +kernel
theorem dX15_findLevel_158 : decode cX15_findLevel 158 = .ok (.iload 9, 2) := by decide +kernel
theorem dX15_findLevel_160 : decode cX15_findLevel 160 = .ok (.invokestatic 1159, 3) := by decide +kernel
theorem dX15_findLevel_163 : decode cX15_findLevel 163 = .ok (.i2l, 1) := by decide +kernel
theorem dX15_findLevel_164 : decode cX15_findLevel 164 = .ok (.iconst 4, 1) := by decide +kernel
theorem dX15_findLevel_165 : decode cX15_findLevel 165 = .ok (.iload 7, 2) := by decide +kernel
theorem dX15_findLevel_167 : decode cX15_findLevel 167 = .ok (.imul, 1) := by decide +kernel
theorem dX15_findLevel_168 : decode cX15_findLevel 168 = .ok (.lshl, 1) := by decide +kernel
theorem dX15_findLevel_169 : decode cX15_findLevel 169 = .ok (.lor, 1) := by decide +kernel
theorem dX15_findLevel_170 : decode cX15_findLevel 170 = .ok (.lstore_n 3, 1) := by decide +kernel
theorem dX15_findLevel_171 : decode cX15_findLevel 171 = .ok (.lload 5, 2) := by decide +kernel
theorem dX15_findLevel_173 : decode cX15_findLevel 173 = .ok (.iload_n 2, 1) := by decide +kernel
theorem dX15_findLevel_174 : decode cX15_findLevel 174 = .ok (.iload 8, 2) := by decide +kernel
theorem dX15_findLevel_176 : decode cX15_findLevel 176 = .ok (.iload 9, 2) := by decide +kernel
theorem dX15_findLevel_178 : decode cX15_findLevel 178 = .ok (.invokestatic 1162, 3) := by decide +kernel
theorem dX15_findLevel_181 : decode cX15_findLevel 181 = .ok (.i2l, 1) := by decide +kernel
theorem dX15_findLevel_182 : decode cX15_findLevel 182 = .ok (.iconst 4, 1) := by decide +kernel
theorem dX15_findLevel_183 : decode cX15_findLevel 183 = .ok (.iload 7, 2) := by decide +kernel
theorem dX15_findLevel_185 : decode cX15_findLevel 185 = .ok (.imul, 1) := by decide +kernel
theorem dX15_findLevel_186 : decode cX15_findLevel 186 = .ok (.lshl, 1) := by decide +kernel
theorem dX15_findLevel_187 : decode cX15_findLevel 187 = .ok (.lor, 1) := by decide +kernel
theorem dX15_findLevel_188 : decode cX15_findLevel 188 = .ok (.lstore 5, 2) := by decide +kernel
theorem dX15_findLevel_190 : decode cX15_findLevel 190 = .ok (.iinc 7 1, 3) := by decide +kernel
theorem dX15_findLevel_193 : decode cX15_findLevel 193 = .ok (.goto (-72), 3) := by decide +kernel
theorem Add_first {m1 : Nat} {gA gB : Nat → Int64} {bg : Nat → Int32} {a b : Int64} {fr : Int32} (h : Add 0 (fun _ => 0) (fun _ => 0) (fun _ => 0) m1 gA gB bg a b fr) : m1 = 1 ∧ (gA 0, gB 0) = (a, b) := by
  obtain ⟨⟨-, h1⟩, -, ⟨j, hj, e⟩, -⟩ := h
  have h2 : m1 = 1 := by omega
  have h3 : j = 0 := by omega
  subst h3
  exact ⟨h2, e⟩
theorem LX_big {i : Nat} {L : Nat → Nat} {fA fB gA gB : Nat → Int64} {bf bg : Nat → Int32} {m k x : Nat} (hV : LV (i + 1) L fA fB bf) (hi : i ≤ 3) (h : LX i L fA fB bf m gA gB bg k x) (hk : k < L (i + 1)) (hx : x < 18) : m < 111152 := by
  have h1 := (LV_big hV (by omega) (i + 1) (Nat.le_refl _)).2 (by omega)
  have h2 := h.1.2
  omega
theorem LX_k {i : Nat} {L : Nat → Nat} {fA fB gA gB : Nat → Int64} {bf bg : Nat → Int32} {m k x : Nat} (h : LX i L fA fB bf m gA gB bg k x) {j : Nat} (hj : j < L (i + 1)) : gA j = fA j ∧ gB j = fB j := ⟨(h.2.1 j hj).1, (h.2.1 j hj).2.1⟩
set_option maxHeartbeats 4000000 in
set_option maxRecDepth 100000 in
theorem r_findLevel_0 (l : Launch) (dC : Nat → ClassId) (dI : Nat → Nat → Nat) (sz : Nat) (q : Nat) (fs : List Value) (lv : Nat) (se : Nat) (cl : ClassId) (L_fs : fs.length = 163) (K138_fs : fs[138]? = some (.ref se)) (K141_fs : fs[141]? = some (.null)) (K142_fs : fs[142]? = some (.null)) (K143_fs : fs[143]? = some (.null)) (K144_fs : fs[144]? = some (.null)) (K145_fs : fs[145]? = some (.int 0)) (K146_fs : fs[146]? = some (.int 0)) (K147_fs : fs[147]? = some (.ref lv)) (K148_fs : fs[148]? = some (.null)) (K151_fs : fs[151]? = some (.null)) (K152_fs : fs[152]? = some (.int 0)) : Met l yX15_findLevel (Cond.code yX15_findLevel cX15_findLevel 10 none :: tb) ({ frames := 2, cells := 5, slots := 706752, locals := 52 }) (pcw [.ref q] (dC, dI) [(q, .inr (15, fs)), (lv, .inl (cl, 6, .inl (fun _ => 0)))] [(cl, .int)] sz) (va_Qv (fun (u : (List Value) × Nat × Nat × Nat × Nat × Nat × ClassId × ClassId × ClassId × ClassId × ClassId × Nat × (Nat → Int64) × (Nat → Int64) × (Nat → Int32) × (Nat → Int32) × (Nat → Int32) × (Nat → Int32) × (Nat → Nat)) => match u with | (fs1, sa, sb, sf, sy, sm, ka, kb, kf, ky, km, m1, gA, gB, bg, gy, gm, gl, L1) => (LV 1 L1 gA gB bg ∧ m1 = L1 1 ∧ tab 262144 gm m1 ∧ (∀ j, j ≤ 1 → gl j = nI (L1 j))) ∧ (fs1.length = 163) ∧ (fs1[138]? = some (.ref se)) ∧ (fs1[141]? = some (.ref sa)) ∧ (fs1[142]? = some (.ref sb)) ∧ (fs1[143]? = some (.ref sf)) ∧ (fs1[144]? = some (.ref sy)) ∧ (fs1[145]? = some (.int (nI m1))) ∧ (fs1[146]? = some (.int 1)) ∧ (fs1[147]? = some (.ref lv)) ∧ (fs1[148]? = some (.ref sm)) ∧ (fs1[151]? = some (.null)) ∧ (fs1[152]? = some (.int 0))) (bw (dC, dI) (va_A [(q, .inr (15, fs)), (lv, .inl (cl, 6, .inl (fun _ => 0)))] sz) (fun (u : (List Value) × Nat × Nat × Nat × Nat × Nat × ClassId × ClassId × ClassId × ClassId × ClassId × Nat × (Nat → Int64) × (Nat → Int64) × (Nat → Int32) × (Nat → Int32) × (Nat → Int32) × (Nat → Int32) × (Nat → Nat)) => match u with | (fs1, sa, sb, sf, sy, sm, ka, kb, kf, ky, km, m1, gA, gB, bg, gy, gm, gl, L1) => [(q, .inr (15, fs1)), (sa, .inl (ka, 111152, .inr (.inl gA))), (sb, .inl (kb, 111152, .inr (.inl gB))), (sf, .inl (kf, 111152, .inl bg)), (sy, .inl (ky, 111152, .inl gy)), (sm, .inl (km, 262144, .inl gm)), (lv, .inl (cl, 6, .inl gl))]) (fun (u : (List Value) × Nat × Nat × Nat × Nat × Nat × ClassId × ClassId × ClassId × ClassId × ClassId × Nat × (Nat → Int64) × (Nat → Int64) × (Nat → Int32) × (Nat → Int32) × (Nat → Int32) × (Nat → Int32) × (Nat → Nat)) => match u with | (fs1, sa, sb, sf, sy, sm, ka, kb, kf, ky, km, m1, gA, gB, bg, gy, gm, gl, L1) => [(ka, .long), (kb, .long), (kf, .int), (ky, .byte), (km, .int)])) (va_A [(q, .inr (15, fs)), (lv, .inl (cl, 6, .inl (fun _ => 0)))] sz)) 5 706752 (va_A [(q, .inr (15, fs)), (lv, .inl (cl, 6, .inl (fun _ => 0)))] sz) := by
  refine Met.ofW (cc := cX15_findLevel) (maxL := 10) (ret := none) (by decide) rfl ?_
  intro p e s m args below meth c s₁ B hml hv
  obtain ⟨rfl, hsz, hP, hK, hD0⟩ := hv
  have hx := B.exec
  have hb := B.bytes
  have hr := B.returns
  have hts := atoms_spec (ws := Cond.code yX15_findLevel cX15_findLevel 10 none :: tb) B.pre
  have ht : ∀ w ∈ tb, w.before _ s = true := fun w h => hts w (List.mem_cons_of_mem _ h)
  have hown : s.vm.findClass RX15 = some m.cls := findClass_of_methodNamed B.named
  have hlocks := B.notSynchronized
  subst hsz
  have hD := hD0.self (sz := s.heap.size)
  generalize hAe : va_A [(q, .inr (15, fs)), (lv, .inl (cl, 6, .inl (fun _ => 0)))] s.heap.size = A at hD ⊢
  have hA : ∀ q : Nat, s.heap.size ≤ q → A q := fun q h => by rw [← hAe]; exact Or.inr h
  have hS : va_S A s.heap s.heap [] := va_S.rf
  have hl := lv_entry ([.ref q]) (n := 10) (Nat.le_of_ble_eq_true rfl)
  rw [lg_entry_eq]
  generalize (lg_sl ([.ref q]) ++ List.replicate (10 - (lg_sl ([.ref q])).length) Slot.unset).toArray = ls at hl ⊢
  have hl : lv_has ls 10 [(0, .ref q)] := hl
  have hP : va_P (dC, dI) cls [(q, .inr (15, fs)), (lv, .inl (cl, 6, .inl (fun _ => 0)))] s.heap := hP
  refine lv_aload_n hx hb dX15_findLevel_0 rfl (lv_at hl 0 rfl) ?_
  refine va_get (D := (dC, dI)) (ci := 15) (v := .int 0) (C := RX15) (T := TX15) (N := 163) hx hb ht uX15 hown hK hP 0 rfl rfl 146 (by decide) (ht _ k_11_94) (fun _ h9 => h9) K146_fs dX15_findLevel_1 ?_
  refine lv_if_ne (tgt := 62) hx hb dX15_findLevel_4 (by decide) (fun c0 => absurd c0 (by decide)) (fun _ => ?_)
  refine lv_aload_n hx hb dX15_findLevel_7 rfl (lv_at hl 0 rfl) ?_
  refine lv_ldcw (v := 111152) hx hb hown (ht _ k_16_2) dX15_findLevel_8 ?_
  refine va_newa (atype := .long) (ty := .long) (N' := 111152) (a0 := (111152, .inr (.inl (fun _ => 0)))) hx hb (ht _ k_1_138) rfl hK hP hD hS hA (fun _ => rfl) (by decide) (by decide) (Nat.le_of_ble_eq_true rfl) (Nat.le_of_ble_eq_true rfl) (Nat.le_of_ble_eq_true rfl) dX15_findLevel_11 (fun q_1 c_2 H hK hP hD hS => ?_)
  have hK : va_K (dC, dI) cls [(cl, .int), (c_2, .long)] s := hK
  have hP : va_P (dC, dI) cls [(q, .inr (15, fs)), (lv, .inl (cl, 6, .inl (fun _ => 0))), (q_1, .inl (c_2, 111152, .inr (.inl (fun _ => 0))))] H := hP
  have hD : va_D A [(q, .inr (15, fs)), (lv, .inl (cl, 6, .inl (fun _ => 0))), (q_1, .inl (c_2, 111152, .inr (.inl (fun _ => 0))))] := hD
  refine W.widen (k := 1) (n := 111152) (by omega) (by omega) ?_
  refine va_put (D := (dC, dI)) (ci := 15) (v := .ref q_1) (ty := .array .long) (C := RX15) (T := TX15) (N := 163) hx hb ht uX15 tyX15 tkX15 nmX15 hown hK hP hD hS 0 rfl rfl 141 (by decide) (ht _ k_11_89) (fun _ h9 => h9) rfl (by decide +kernel) rfl rfl (by rw [L_fs]; decide) dX15_findLevel_13 (fun H locs hP hD hS => ?_)
  obtain ⟨F_3, eF_3⟩ : ∃ g : List Value, g = fs.set 141 (.ref q_1) := ⟨_, rfl⟩
  rw [← eF_3] at hP hD
  have K138_F_3 : F_3[138]? = some (.ref se) := by rw [eF_3, List.getElem?_set_ne (by decide)]; exact K138_fs
  have K142_F_3 : F_3[142]? = some (.null) := by rw [eF_3, List.getElem?_set_ne (by decide)]; exact K142_fs
  have K143_F_3 : F_3[143]? = some (.null) := by rw [eF_3, List.getElem?_set_ne (by decide)]; exact K143_fs
  have K144_F_3 : F_3[144]? = some (.null) := by rw [eF_3, List.getElem?_set_ne (by decide)]; exact K144_fs
  have K145_F_3 : F_3[145]? = some (.int 0) := by rw [eF_3, List.getElem?_set_ne (by decide)]; exact K145_fs
  have K146_F_3 : F_3[146]? = some (.int 0) := by rw [eF_3, List.getElem?_set_ne (by decide)]; exact K146_fs
  have K147_F_3 : F_3[147]? = some (.ref lv) := by rw [eF_3, List.getElem?_set_ne (by decide)]; exact K147_fs
  have K148_F_3 : F_3[148]? = some (.null) := by rw [eF_3, List.getElem?_set_ne (by decide)]; exact K148_fs
  have K151_F_3 : F_3[151]? = some (.null) := by rw [eF_3, List.getElem?_set_ne (by decide)]; exact K151_fs
  have K152_F_3 : F_3[152]? = some (.int 0) := by rw [eF_3, List.getElem?_set_ne (by decide)]; exact K152_fs
  have K141_F_3 : F_3[141]? = some (.ref q_1) := by rw [eF_3]; exact List.getElem?_set_self (by rw [L_fs]; decide)
  have L_F_3 : F_3.length = 163 := by rw [eF_3, List.length_set]; exact L_fs
  have hP : va_P (dC, dI) cls [(q, .inr (15, F_3)), (lv, .inl (cl, 6, .inl (fun _ => 0))), (q_1, .inl (c_2, 111152, .inr (.inl (fun _ => 0))))] H := hP
  have hD : va_D A [(q, .inr (15, F_3)), (lv, .inl (cl, 6, .inl (fun _ => 0))), (q_1, .inl (c_2, 111152, .inr (.inl (fun _ => 0))))] := hD
  refine lv_aload_n hx hb dX15_findLevel_16 rfl (lv_at hl 0 rfl) ?_
  refine lv_ldcw (v := 111152) hx hb hown (ht _ k_16_2) dX15_findLevel_17 ?_
  refine va_newa (atype := .long) (ty := .long) (N' := 111152) (a0 := (111152, .inr (.inl (fun _ => 0)))) hx hb (ht _ k_1_138) rfl hK hP hD hS hA (fun _ => rfl) (by decide) (by decide) (Nat.le_of_ble_eq_true rfl) (Nat.le_of_ble_eq_true rfl) (Nat.le_of_ble_eq_true rfl) dX15_findLevel_20 (fun q_4 c_5 H hK hP hD hS => ?_)
  have hK : va_K (dC, dI) cls [(cl, .int), (c_2, .long), (c_5, .long)] s := hK
  have hP : va_P (dC, dI) cls [(q, .inr (15, F_3)), (lv, .inl (cl, 6, .inl (fun _ => 0))), (q_1, .inl (c_2, 111152, .inr (.inl (fun _ => 0)))), (q_4, .inl (c_5, 111152, .inr (.inl (fun _ => 0))))] H := hP
  have hD : va_D A [(q, .inr (15, F_3)), (lv, .inl (cl, 6, .inl (fun _ => 0))), (q_1, .inl (c_2, 111152, .inr (.inl (fun _ => 0)))), (q_4, .inl (c_5, 111152, .inr (.inl (fun _ => 0))))] := hD
  refine W.widen (k := 2) (n := 222304) (by omega) (by omega) ?_
  refine va_put (D := (dC, dI)) (ci := 15) (v := .ref q_4) (ty := .array .long) (C := RX15) (T := TX15) (N := 163) hx hb ht uX15 tyX15 tkX15 nmX15 hown hK hP hD hS 0 rfl rfl 142 (by decide) (ht _ k_11_90) (fun _ h9 => h9) rfl (by decide +kernel) rfl rfl (by rw [L_F_3]; decide) dX15_findLevel_22 (fun H locs hP hD hS => ?_)
  obtain ⟨F_6, eF_6⟩ : ∃ g : List Value, g = F_3.set 142 (.ref q_4) := ⟨_, rfl⟩
  rw [← eF_6] at hP hD
  have K138_F_6 : F_6[138]? = some (.ref se) := by rw [eF_6, List.getElem?_set_ne (by decide)]; exact K138_F_3
  have K141_F_6 : F_6[141]? = some (.ref q_1) := by rw [eF_6, List.getElem?_set_ne (by decide)]; exact K141_F_3
  have K143_F_6 : F_6[143]? = some (.null) := by rw [eF_6, List.getElem?_set_ne (by decide)]; exact K143_F_3
  have K144_F_6 : F_6[144]? = some (.null) := by rw [eF_6, List.getElem?_set_ne (by decide)]; exact K144_F_3
  have K145_F_6 : F_6[145]? = some (.int 0) := by rw [eF_6, List.getElem?_set_ne (by decide)]; exact K145_F_3
  have K146_F_6 : F_6[146]? = some (.int 0) := by rw [eF_6, List.getElem?_set_ne (by decide)]; exact K146_F_3
  have K147_F_6 : F_6[147]? = some (.ref lv) := by rw [eF_6, List.getElem?_set_ne (by decide)]; exact K147_F_3
  have K148_F_6 : F_6[148]? = some (.null) := by rw [eF_6, List.getElem?_set_ne (by decide)]; exact K148_F_3
  have K151_F_6 : F_6[151]? = some (.null) := by rw [eF_6, List.getElem?_set_ne (by decide)]; exact K151_F_3
  have K152_F_6 : F_6[152]? = some (.int 0) := by rw [eF_6, List.getElem?_set_ne (by decide)]; exact K152_F_3
  have K142_F_6 : F_6[142]? = some (.ref q_4) := by rw [eF_6]; exact List.getElem?_set_self (by rw [L_F_3]; decide)
  have L_F_6 : F_6.length = 163 := by rw [eF_6, List.length_set]; exact L_F_3
  have hP : va_P (dC, dI) cls [(q, .inr (15, F_6)), (lv, .inl (cl, 6, .inl (fun _ => 0))), (q_1, .inl (c_2, 111152, .inr (.inl (fun _ => 0)))), (q_4, .inl (c_5, 111152, .inr (.inl (fun _ => 0))))] H := hP
  have hD : va_D A [(q, .inr (15, F_6)), (lv, .inl (cl, 6, .inl (fun _ => 0))), (q_1, .inl (c_2, 111152, .inr (.inl (fun _ => 0)))), (q_4, .inl (c_5, 111152, .inr (.inl (fun _ => 0))))] := hD
  refine lv_aload_n hx hb dX15_findLevel_25 rfl (lv_at hl 0 rfl) ?_
  refine lv_ldcw (v := 111152) hx hb hown (ht _ k_16_2) dX15_findLevel_26 ?_
  refine va_newa (atype := .int) (ty := .int) (N' := 111152) (a0 := (111152, .inl (fun _ => 0))) hx hb (ht _ k_1_139) rfl hK hP hD hS hA (fun _ => rfl) (by decide) (by decide) (Nat.le_of_ble_eq_true rfl) (Nat.le_of_ble_eq_true rfl) (Nat.le_of_ble_eq_true rfl) dX15_findLevel_29 (fun q_7 c_8 H hK hP hD hS => ?_)
  have hK : va_K (dC, dI) cls [(cl, .int), (c_2, .long), (c_5, .long), (c_8, .int)] s := hK
  have hP : va_P (dC, dI) cls [(q, .inr (15, F_6)), (lv, .inl (cl, 6, .inl (fun _ => 0))), (q_1, .inl (c_2, 111152, .inr (.inl (fun _ => 0)))), (q_4, .inl (c_5, 111152, .inr (.inl (fun _ => 0)))), (q_7, .inl (c_8, 111152, .inl (fun _ => 0)))] H := hP
  have hD : va_D A [(q, .inr (15, F_6)), (lv, .inl (cl, 6, .inl (fun _ => 0))), (q_1, .inl (c_2, 111152, .inr (.inl (fun _ => 0)))), (q_4, .inl (c_5, 111152, .inr (.inl (fun _ => 0)))), (q_7, .inl (c_8, 111152, .inl (fun _ => 0)))] := hD
  refine W.widen (k := 3) (n := 333456) (by omega) (by omega) ?_
  refine va_put (D := (dC, dI)) (ci := 15) (v := .ref q_7) (ty := .array .int) (C := RX15) (T := TX15) (N := 163) hx hb ht uX15 tyX15 tkX15 nmX15 hown hK hP hD hS 0 rfl rfl 143 (by decide) (ht _ k_11_91) (fun _ h9 => h9) rfl (by decide +kernel) rfl rfl (by rw [L_F_6]; decide) dX15_findLevel_31 (fun H locs hP hD hS => ?_)
  obtain ⟨F_9, eF_9⟩ : ∃ g : List Value, g = F_6.set 143 (.ref q_7) := ⟨_, rfl⟩
  rw [← eF_9] at hP hD
  have K138_F_9 : F_9[138]? = some (.ref se) := by rw [eF_9, List.getElem?_set_ne (by decide)]; exact K138_F_6
  have K141_F_9 : F_9[141]? = some (.ref q_1) := by rw [eF_9, List.getElem?_set_ne (by decide)]; exact K141_F_6
  have K142_F_9 : F_9[142]? = some (.ref q_4) := by rw [eF_9, List.getElem?_set_ne (by decide)]; exact K142_F_6
  have K144_F_9 : F_9[144]? = some (.null) := by rw [eF_9, List.getElem?_set_ne (by decide)]; exact K144_F_6
  have K145_F_9 : F_9[145]? = some (.int 0) := by rw [eF_9, List.getElem?_set_ne (by decide)]; exact K145_F_6
  have K146_F_9 : F_9[146]? = some (.int 0) := by rw [eF_9, List.getElem?_set_ne (by decide)]; exact K146_F_6
  have K147_F_9 : F_9[147]? = some (.ref lv) := by rw [eF_9, List.getElem?_set_ne (by decide)]; exact K147_F_6
  have K148_F_9 : F_9[148]? = some (.null) := by rw [eF_9, List.getElem?_set_ne (by decide)]; exact K148_F_6
  have K151_F_9 : F_9[151]? = some (.null) := by rw [eF_9, List.getElem?_set_ne (by decide)]; exact K151_F_6
  have K152_F_9 : F_9[152]? = some (.int 0) := by rw [eF_9, List.getElem?_set_ne (by decide)]; exact K152_F_6
  have K143_F_9 : F_9[143]? = some (.ref q_7) := by rw [eF_9]; exact List.getElem?_set_self (by rw [L_F_6]; decide)
  have L_F_9 : F_9.length = 163 := by rw [eF_9, List.length_set]; exact L_F_6
  have hP : va_P (dC, dI) cls [(q, .inr (15, F_9)), (lv, .inl (cl, 6, .inl (fun _ => 0))), (q_1, .inl (c_2, 111152, .inr (.inl (fun _ => 0)))), (q_4, .inl (c_5, 111152, .inr (.inl (fun _ => 0)))), (q_7, .inl (c_8, 111152, .inl (fun _ => 0)))] H := hP
  have hD : va_D A [(q, .inr (15, F_9)), (lv, .inl (cl, 6, .inl (fun _ => 0))), (q_1, .inl (c_2, 111152, .inr (.inl (fun _ => 0)))), (q_4, .inl (c_5, 111152, .inr (.inl (fun _ => 0)))), (q_7, .inl (c_8, 111152, .inl (fun _ => 0)))] := hD
  refine lv_aload_n hx hb dX15_findLevel_34 rfl (lv_at hl 0 rfl) ?_
  refine lv_ldcw (v := 111152) hx hb hown (ht _ k_16_2) dX15_findLevel_35 ?_
  refine va_newa (atype := .byte) (ty := .byte) (N' := 111152) (a0 := (111152, .inl (fun _ => 0))) hx hb (ht _ k_1_137) rfl hK hP hD hS hA (fun _ => rfl) (by decide) (by decide) (Nat.le_of_ble_eq_true rfl) (Nat.le_of_ble_eq_true rfl) (Nat.le_of_ble_eq_true rfl) dX15_findLevel_38 (fun q_10 c_11 H hK hP hD hS => ?_)
  have hK : va_K (dC, dI) cls [(cl, .int), (c_2, .long), (c_5, .long), (c_8, .int), (c_11, .byte)] s := hK
  have hP : va_P (dC, dI) cls [(q, .inr (15, F_9)), (lv, .inl (cl, 6, .inl (fun _ => 0))), (q_1, .inl (c_2, 111152, .inr (.inl (fun _ => 0)))), (q_4, .inl (c_5, 111152, .inr (.inl (fun _ => 0)))), (q_7, .inl (c_8, 111152, .inl (fun _ => 0))), (q_10, .inl (c_11, 111152, .inl (fun _ => 0)))] H := hP
  have hD : va_D A [(q, .inr (15, F_9)), (lv, .inl (cl, 6, .inl (fun _ => 0))), (q_1, .inl (c_2, 111152, .inr (.inl (fun _ => 0)))), (q_4, .inl (c_5, 111152, .inr (.inl (fun _ => 0)))), (q_7, .inl (c_8, 111152, .inl (fun _ => 0))), (q_10, .inl (c_11, 111152, .inl (fun _ => 0)))] := hD
  refine W.widen (k := 4) (n := 444608) (by omega) (by omega) ?_
  refine va_put (D := (dC, dI)) (ci := 15) (v := .ref q_10) (ty := .array .byte) (C := RX15) (T := TX15) (N := 163) hx hb ht uX15 tyX15 tkX15 nmX15 hown hK hP hD hS 0 rfl rfl 144 (by decide) (ht _ k_11_92) (fun _ h9 => h9) rfl (by decide +kernel) rfl rfl (by rw [L_F_9]; decide) dX15_findLevel_40 (fun H locs hP hD hS => ?_)
  obtain ⟨F_12, eF_12⟩ : ∃ g : List Value, g = F_9.set 144 (.ref q_10) := ⟨_, rfl⟩
  rw [← eF_12] at hP hD
  have K138_F_12 : F_12[138]? = some (.ref se) := by rw [eF_12, List.getElem?_set_ne (by decide)]; exact K138_F_9
  have K141_F_12 : F_12[141]? = some (.ref q_1) := by rw [eF_12, List.getElem?_set_ne (by decide)]; exact K141_F_9
  have K142_F_12 : F_12[142]? = some (.ref q_4) := by rw [eF_12, List.getElem?_set_ne (by decide)]; exact K142_F_9
  have K143_F_12 : F_12[143]? = some (.ref q_7) := by rw [eF_12, List.getElem?_set_ne (by decide)]; exact K143_F_9
  have K145_F_12 : F_12[145]? = some (.int 0) := by rw [eF_12, List.getElem?_set_ne (by decide)]; exact K145_F_9
  have K146_F_12 : F_12[146]? = some (.int 0) := by rw [eF_12, List.getElem?_set_ne (by decide)]; exact K146_F_9
  have K147_F_12 : F_12[147]? = some (.ref lv) := by rw [eF_12, List.getElem?_set_ne (by decide)]; exact K147_F_9
  have K148_F_12 : F_12[148]? = some (.null) := by rw [eF_12, List.getElem?_set_ne (by decide)]; exact K148_F_9
  have K151_F_12 : F_12[151]? = some (.null) := by rw [eF_12, List.getElem?_set_ne (by decide)]; exact K151_F_9
  have K152_F_12 : F_12[152]? = some (.int 0) := by rw [eF_12, List.getElem?_set_ne (by decide)]; exact K152_F_9
  have K144_F_12 : F_12[144]? = some (.ref q_10) := by rw [eF_12]; exact List.getElem?_set_self (by rw [L_F_9]; decide)
  have L_F_12 : F_12.length = 163 := by rw [eF_12, List.length_set]; exact L_F_9
  have hP : va_P (dC, dI) cls [(q, .inr (15, F_12)), (lv, .inl (cl, 6, .inl (fun _ => 0))), (q_1, .inl (c_2, 111152, .inr (.inl (fun _ => 0)))), (q_4, .inl (c_5, 111152, .inr (.inl (fun _ => 0)))), (q_7, .inl (c_8, 111152, .inl (fun _ => 0))), (q_10, .inl (c_11, 111152, .inl (fun _ => 0)))] H := hP
  have hD : va_D A [(q, .inr (15, F_12)), (lv, .inl (cl, 6, .inl (fun _ => 0))), (q_1, .inl (c_2, 111152, .inr (.inl (fun _ => 0)))), (q_4, .inl (c_5, 111152, .inr (.inl (fun _ => 0)))), (q_7, .inl (c_8, 111152, .inl (fun _ => 0))), (q_10, .inl (c_11, 111152, .inl (fun _ => 0)))] := hD
  refine lv_aload_n hx hb dX15_findLevel_43 rfl (lv_at hl 0 rfl) ?_
  refine lv_ldcw (v := 262144) hx hb hown (ht _ k_16_3) dX15_findLevel_44 ?_
  refine va_newa (atype := .int) (ty := .int) (N' := 262144) (a0 := (262144, .inl (fun _ => 0))) hx hb (ht _ k_1_139) rfl hK hP hD hS hA (fun _ => rfl) (by decide) (by decide) (Nat.le_of_ble_eq_true rfl) (Nat.le_of_ble_eq_true rfl) (Nat.le_of_ble_eq_true rfl) dX15_findLevel_47 (fun q_13 c_14 H hK hP hD hS => ?_)
  have hK : va_K (dC, dI) cls [(cl, .int), (c_2, .long), (c_5, .long), (c_8, .int), (c_11, .byte), (c_14, .int)] s := hK
  have hP : va_P (dC, dI) cls [(q, .inr (15, F_12)), (lv, .inl (cl, 6, .inl (fun _ => 0))), (q_1, .inl (c_2, 111152, .inr (.inl (fun _ => 0)))), (q_4, .inl (c_5, 111152, .inr (.inl (fun _ => 0)))), (q_7, .inl (c_8, 111152, .inl (fun _ => 0))), (q_10, .inl (c_11, 111152, .inl (fun _ => 0))), (q_13, .inl (c_14, 262144, .inl (fun _ => 0)))] H := hP
  have hD : va_D A [(q, .inr (15, F_12)), (lv, .inl (cl, 6, .inl (fun _ => 0))), (q_1, .inl (c_2, 111152, .inr (.inl (fun _ => 0)))), (q_4, .inl (c_5, 111152, .inr (.inl (fun _ => 0)))), (q_7, .inl (c_8, 111152, .inl (fun _ => 0))), (q_10, .inl (c_11, 111152, .inl (fun _ => 0))), (q_13, .inl (c_14, 262144, .inl (fun _ => 0)))] := hD
  refine W.widen (k := 5) (n := 706752) (by omega) (by omega) ?_
  refine va_put (D := (dC, dI)) (ci := 15) (v := .ref q_13) (ty := .array .int) (C := RX15) (T := TX15) (N := 163) hx hb ht uX15 tyX15 tkX15 nmX15 hown hK hP hD hS 0 rfl rfl 148 (by decide) (ht _ k_11_96) (fun _ h9 => h9) rfl (by decide +kernel) rfl rfl (by rw [L_F_12]; decide) dX15_findLevel_49 (fun H locs hP hD hS => ?_)
  obtain ⟨F_15, eF_15⟩ : ∃ g : List Value, g = F_12.set 148 (.ref q_13) := ⟨_, rfl⟩
  rw [← eF_15] at hP hD
  have K138_F_15 : F_15[138]? = some (.ref se) := by rw [eF_15, List.getElem?_set_ne (by decide)]; exact K138_F_12
  have K141_F_15 : F_15[141]? = some (.ref q_1) := by rw [eF_15, List.getElem?_set_ne (by decide)]; exact K141_F_12
  have K142_F_15 : F_15[142]? = some (.ref q_4) := by rw [eF_15, List.getElem?_set_ne (by decide)]; exact K142_F_12
  have K143_F_15 : F_15[143]? = some (.ref q_7) := by rw [eF_15, List.getElem?_set_ne (by decide)]; exact K143_F_12
  have K144_F_15 : F_15[144]? = some (.ref q_10) := by rw [eF_15, List.getElem?_set_ne (by decide)]; exact K144_F_12
  have K145_F_15 : F_15[145]? = some (.int 0) := by rw [eF_15, List.getElem?_set_ne (by decide)]; exact K145_F_12
  have K146_F_15 : F_15[146]? = some (.int 0) := by rw [eF_15, List.getElem?_set_ne (by decide)]; exact K146_F_12
  have K147_F_15 : F_15[147]? = some (.ref lv) := by rw [eF_15, List.getElem?_set_ne (by decide)]; exact K147_F_12
  have K151_F_15 : F_15[151]? = some (.null) := by rw [eF_15, List.getElem?_set_ne (by decide)]; exact K151_F_12
  have K152_F_15 : F_15[152]? = some (.int 0) := by rw [eF_15, List.getElem?_set_ne (by decide)]; exact K152_F_12
  have K148_F_15 : F_15[148]? = some (.ref q_13) := by rw [eF_15]; exact List.getElem?_set_self (by rw [L_F_12]; decide)
  have L_F_15 : F_15.length = 163 := by rw [eF_15, List.length_set]; exact L_F_12
  have hP : va_P (dC, dI) cls [(q, .inr (15, F_15)), (lv, .inl (cl, 6, .inl (fun _ => 0))), (q_1, .inl (c_2, 111152, .inr (.inl (fun _ => 0)))), (q_4, .inl (c_5, 111152, .inr (.inl (fun _ => 0)))), (q_7, .inl (c_8, 111152, .inl (fun _ => 0))), (q_10, .inl (c_11, 111152, .inl (fun _ => 0))), (q_13, .inl (c_14, 262144, .inl (fun _ => 0)))] H := hP
  have hD : va_D A [(q, .inr (15, F_15)), (lv, .inl (cl, 6, .inl (fun _ => 0))), (q_1, .inl (c_2, 111152, .inr (.inl (fun _ => 0)))), (q_4, .inl (c_5, 111152, .inr (.inl (fun _ => 0)))), (q_7, .inl (c_8, 111152, .inl (fun _ => 0))), (q_10, .inl (c_11, 111152, .inl (fun _ => 0))), (q_13, .inl (c_14, 262144, .inl (fun _ => 0)))] := hD
  refine lv_aload_n hx hb dX15_findLevel_52 rfl (lv_at hl 0 rfl) ?_
  refine lv_ldc2 (v := (-81985529216486896)) hx hb hown (ht _ k_16_4) dX15_findLevel_53 ?_
  refine lv_lconst (v := 0) hx hb dX15_findLevel_56 (by decide) ?_
  refine lv_iconst (v := (-1)) hx hb dX15_findLevel_57 (by decide) ?_
  refine lv_iconst (v := 0) hx hb dX15_findLevel_58 (by decide) ?_
  refine ca_v (wr := [(lv, .inl (cl, 6, .inl (fun _ => 0)))]) (va_runV (As := [.long (-81985529216486896), .long 0, .int (-1), .int 0]) (rest := []) ⟨hx, hb, hml, hown, ht⟩ (r_addState l dC dI H.size q F_15 q_1 q_4 q_7 q_10 q_13 lv se c_2 c_5 c_8 c_11 c_14 (fun _ => 0) (fun _ => 0) (fun _ => 0) (fun _ => 0) (fun _ => 0) 0 0 (-81985529216486896) 0 (-1) 0 L_F_15 K138_F_15 K141_F_15 K142_F_15 K143_F_15 K144_F_15 K145_F_15 K146_F_15 K147_F_15 K148_F_15 K151_F_15 K152_F_15 (by decide) (tab_0 _)) (cwV 4 ht (gdV k_16_8 k_16_5 k_16_7 ks_235 k_1_17) rfl rfl rfl (by decide +kernel) ⟨Nat.le_of_ble_eq_true rfl, Nat.le_of_ble_eq_true rfl⟩) ⟨pcw_blind, va_recv hK hP (ci := 15) (q0 := 0) rfl rfl, pcw_at hP hD hK [0, 2, 3, 4, 5, 6] [1, 2, 3, 4, 5] (by decide) rfl rfl rfl⟩ rfl rfl hl.1 rfl (lv_room (Nat.le_of_ble_eq_true rfl)) dX15_findLevel_59 ⟨Nat.le_of_ble_eq_true rfl, Nat.le_of_ble_eq_true rfl⟩) hP hD hK hS hA [0, 2, 3, 4, 5, 6] [1] rfl rfl (by decide) (by decide) (fun u H locs w_17 hK hP hD hS => ?_)
  obtain ⟨F_18, q_19, y_20, y_21, y_22, y_23, y_24⟩ := u
  have hK : va_K (dC, dI) cls [(cl, .int), (c_2, .long), (c_5, .long), (c_8, .int), (c_11, .byte), (c_14, .int)] s := hK
  have hP : va_P (dC, dI) cls [(lv, .inl (cl, 6, .inl (fun _ => 0))), (q, .inr (15, F_18)), (q_1, .inl (c_2, 111152, .inr (.inl y_20))), (q_4, .inl (c_5, 111152, .inr (.inl y_21))), (q_7, .inl (c_8, 111152, .inl y_22)), (q_10, .inl (c_11, 111152, .inl y_23)), (q_13, .inl (c_14, 262144, .inl y_24))] H := hP
  have hD : va_D A [(lv, .inl (cl, 6, .inl (fun _ => 0))), (q, .inr (15, F_18)), (q_1, .inl (c_2, 111152, .inr (.inl y_20))), (q_4, .inl (c_5, 111152, .inr (.inl y_21))), (q_7, .inl (c_8, 111152, .inl y_22)), (q_10, .inl (c_11, 111152, .inl y_23)), (q_13, .inl (c_14, 262144, .inl y_24))] := hD
  obtain ⟨w_17, K_25, K_26, K_27, K_28, K_29, K_30, K_31, K_32, K_33, K_34, K_35, K_36⟩ := w_17
  obtain ⟨hadd, htb⟩ := w_17
  obtain ⟨hm1, hst⟩ := Add_first hadd
  refine lv_aload_n hx hb dX15_findLevel_62 rfl (lv_at hl 0 rfl) ?_
  refine va_get (D := (dC, dI)) (ci := 15) (v := .int 0) (C := RX15) (T := TX15) (N := 163) hx hb ht uX15 hown hK hP 1 rfl rfl 146 (by decide) (ht _ k_11_94) (fun _ h9 => h9) K_32 dX15_findLevel_63 ?_
  refine lv_if_ne (tgt := 73) hx hb dX15_findLevel_66 (by decide) (fun c0 => absurd c0 (by decide)) (fun _ => ?_)
  refine lv_iconst (v := 0) hx hb dX15_findLevel_69 (by decide) ?_
  refine lv_goto (tgt := 84) hx hb dX15_findLevel_70 (by decide) ?_
  refine lv_istore_n (lv' := [(1, .int 0), (0, .ref q)]) hx hb dX15_findLevel_84 rfl hl (by decide) rfl (fun ls hl => ?_)
  refine lv_aload_n hx hb dX15_findLevel_85 rfl (lv_at hl 1 rfl) ?_
  refine va_get (D := (dC, dI)) (ci := 15) (v := .int 0) (C := RX15) (T := TX15) (N := 163) hx hb ht uX15 hown hK hP 1 rfl rfl 146 (by decide) (ht _ k_11_94) (fun _ h9 => h9) K_32 dX15_findLevel_86 ?_
  refine lv_if_le (tgt := 217) hx hb dX15_findLevel_89 (by decide) (fun _ => ?_) (fun c0 => absurd c0 (by decide))
  refine lv_aload_n hx hb dX15_findLevel_217 rfl (lv_at hl 1 rfl) ?_
  refine lv_dup hx hb dX15_findLevel_218 rfl ?_
  refine va_get (D := (dC, dI)) (ci := 15) (v := .int 0) (C := RX15) (T := TX15) (N := 163) hx hb ht uX15 hown hK hP 1 rfl rfl 146 (by decide) (ht _ k_11_94) (fun _ h9 => h9) K_32 dX15_findLevel_219 ?_
  refine lv_iconst (v := 1) hx hb dX15_findLevel_222 (by decide) ?_
  refine lv_iadd hx hb dX15_findLevel_223 ?_
  refine tk_i (y := 1) (by decide) ?_
  refine va_put (D := (dC, dI)) (ci := 15) (v := .int 1) (ty := .int) (C := RX15) (T := TX15) (N := 163) hx hb ht uX15 tyX15 tkX15 nmX15 hown hK hP hD hS 1 rfl rfl 146 (by decide) (ht _ k_11_94) (fun _ h9 => h9) rfl (by decide +kernel) rfl rfl (by rw [K_25]; decide) dX15_findLevel_224 (fun H locs hP hD hS => ?_)
  obtain ⟨F_37, eF_37⟩ : ∃ g : List Value, g = F_18.set 146 (.int 1) := ⟨_, rfl⟩
  rw [← eF_37] at hP hD
  have K138_F_37 : F_37[138]? = some (.ref se) := by rw [eF_37, List.getElem?_set_ne (by decide)]; exact K_26
  have K141_F_37 : F_37[141]? = some (.ref q_1) := by rw [eF_37, List.getElem?_set_ne (by decide)]; exact K_27
  have K142_F_37 : F_37[142]? = some (.ref q_4) := by rw [eF_37, List.getElem?_set_ne (by decide)]; exact K_28
  have K143_F_37 : F_37[143]? = some (.ref q_7) := by rw [eF_37, List.getElem?_set_ne (by decide)]; exact K_29
  have K144_F_37 : F_37[144]? = some (.ref q_10) := by rw [eF_37, List.getElem?_set_ne (by decide)]; exact K_30
  have K145_F_37 : F_37[145]? = some (.int (nI q_19)) := by rw [eF_37, List.getElem?_set_ne (by decide)]; exact K_31
  have K147_F_37 : F_37[147]? = some (.ref lv) := by rw [eF_37, List.getElem?_set_ne (by decide)]; exact K_33
  have K148_F_37 : F_37[148]? = some (.ref q_13) := by rw [eF_37, List.getElem?_set_ne (by decide)]; exact K_34
  have K151_F_37 : F_37[151]? = some (.null) := by rw [eF_37, List.getElem?_set_ne (by decide)]; exact K_35
  have K152_F_37 : F_37[152]? = some (.int 0) := by rw [eF_37, List.getElem?_set_ne (by decide)]; exact K_36
  have K146_F_37 : F_37[146]? = some (.int 1) := by rw [eF_37]; exact List.getElem?_set_self (by rw [K_25]; decide)
  have L_F_37 : F_37.length = 163 := by rw [eF_37, List.length_set]; exact K_25
  have hP : va_P (dC, dI) cls [(lv, .inl (cl, 6, .inl (fun _ => 0))), (q, .inr (15, F_37)), (q_1, .inl (c_2, 111152, .inr (.inl y_20))), (q_4, .inl (c_5, 111152, .inr (.inl y_21))), (q_7, .inl (c_8, 111152, .inl y_22)), (q_10, .inl (c_11, 111152, .inl y_23)), (q_13, .inl (c_14, 262144, .inl y_24))] H := hP
  have hD : va_D A [(lv, .inl (cl, 6, .inl (fun _ => 0))), (q, .inr (15, F_37)), (q_1, .inl (c_2, 111152, .inr (.inl y_20))), (q_4, .inl (c_5, 111152, .inr (.inl y_21))), (q_7, .inl (c_8, 111152, .inl y_22)), (q_10, .inl (c_11, 111152, .inl y_23)), (q_13, .inl (c_14, 262144, .inl y_24))] := hD
  refine lv_aload_n hx hb dX15_findLevel_227 rfl (lv_at hl 1 rfl) ?_
  refine va_get (D := (dC, dI)) (ci := 15) (v := .ref lv) (C := RX15) (T := TX15) (N := 163) hx hb ht uX15 hown hK hP 1 rfl rfl 147 (by decide) (ht _ k_11_95) (fun _ h9 => h9) K147_F_37 dX15_findLevel_228 ?_
  refine lv_aload_n hx hb dX15_findLevel_231 rfl (lv_at hl 1 rfl) ?_
  refine va_get (D := (dC, dI)) (ci := 15) (v := .int 1) (C := RX15) (T := TX15) (N := 163) hx hb ht uX15 hown hK hP 1 rfl rfl 146 (by decide) (ht _ k_11_94) (fun _ h9 => h9) K146_F_37 dX15_findLevel_232 ?_
  refine lv_aload_n hx hb dX15_findLevel_235 rfl (lv_at hl 1 rfl) ?_
  refine va_get (D := (dC, dI)) (ci := 15) (v := .int (nI q_19)) (C := RX15) (T := TX15) (N := 163) hx hb ht uX15 hown hK hP 1 rfl rfl 145 (by decide) (ht _ k_11_93) (fun _ h9 => h9) K145_F_37 dX15_findLevel_236 ?_
  refine va_iast (i := 1) (x := (nI q_19)) hx hb hK hP hD hS 0 0 rfl rfl (by unfold vp_in; decide) dX15_findLevel_239 (fun H locs hP hD hS => ?_)
  obtain ⟨f_38, ef_38⟩ : ∃ g : Nat → Int32, g = upd (fun _ => 0) (1 : Int32).toNatClampNeg (nI q_19) := ⟨_, rfl⟩
  rw [← ef_38] at hP hD
  have hP : va_P (dC, dI) cls [(lv, .inl (cl, 6, .inl f_38)), (q, .inr (15, F_37)), (q_1, .inl (c_2, 111152, .inr (.inl y_20))), (q_4, .inl (c_5, 111152, .inr (.inl y_21))), (q_7, .inl (c_8, 111152, .inl y_22)), (q_10, .inl (c_11, 111152, .inl y_23)), (q_13, .inl (c_14, 262144, .inl y_24))] H := hP
  have hD : va_D A [(lv, .inl (cl, 6, .inl f_38)), (q, .inr (15, F_37)), (q_1, .inl (c_2, 111152, .inr (.inl y_20))), (q_4, .inl (c_5, 111152, .inr (.inl y_21))), (q_7, .inl (c_8, 111152, .inl y_22)), (q_10, .inl (c_11, 111152, .inl y_23)), (q_13, .inl (c_14, 262144, .inl y_24))] := hD
  exact W.vret hx hb hr (fun t ht9 hW => ⟨⟨(F_37, q_1, q_4, q_7, q_10, q_13, c_2, c_5, c_8, c_11, c_14, q_19, y_20, y_21, y_22, y_23, y_24, f_38, (Lset (fun _ => 0) 1 q_19)), rfl, ⟨⟨LV_1 rfl (by show q_19 = 1; exact hm1) hst, rfl, htb, fun j hj => by rw [ef_38]; match j, hj with | 0, _ => rfl | 1, _ => rfl⟩, L_F_37, K138_F_37, K141_F_37, K142_F_37, K143_F_37, K144_F_37, K145_F_37, K146_F_37, K147_F_37, K148_F_37, K151_F_37, K152_F_37⟩, by rw [ht9]; exact hP.sub [1, 2, 3, 4, 5, 6, 0] rfl, va_K.moved hW.alike (hK.sub [1, 2, 3, 4, 5] rfl), hD.sub [1, 2, 3, 4, 5, 6, 0] (by decide) rfl⟩, hS.F ht9⟩) hS.2.2 dX15_findLevel_240
theorem lev_put {fl gl : Nat → Int32} {L : Nat → Nat} {n m : Nat} (hn : n < 2 ^ 31) (e : gl = upd fl (nI n).toNatClampNeg (nI m)) (h : ∀ j, j < n → fl j = nI (L j)) : ∀ j, j ≤ n → gl j = nI (Lset L n m j) := by
  intro j hj
  rw [e, nI_clamp hn]
  rcases Nat.decEq j n with h9 | h9
  · rw [pk_un h9, Lset_ne h9]; exact h j (by omega)
  · rw [h9, pk_us, Lset_eq]
set_option maxHeartbeats 4000000 in
set_option maxRecDepth 100000 in
theorem r_findLevel (l : Launch) (dC : Nat → ClassId) (dI : Nat → Nat → Nat) (sz : Nat) (q : Nat) (fs : List Value) (sa : Nat) (sb : Nat) (sf : Nat) (sy : Nat) (sm : Nat) (lv : Nat) (se : Nat) (ka : ClassId) (kb : ClassId) (kf : ClassId) (ky : ClassId) (km : ClassId) (fA : Nat → Int64) (fB : Nat → Int64) (bf : Nat → Int32) (fy : Nat → Int32) (fm : Nat → Int32) (mn : Nat) (n9 : Nat) (cl : ClassId) (fl : Nat → Int32) (L : Nat → Nat) (i : Nat) (L_fs : fs.length = 163) (K138_fs : fs[138]? = some (.ref se)) (K141_fs : fs[141]? = some (.ref sa)) (K142_fs : fs[142]? = some (.ref sb)) (K143_fs : fs[143]? = some (.ref sf)) (K144_fs : fs[144]? = some (.ref sy)) (K145_fs : fs[145]? = some (.int (nI mn))) (K146_fs : fs[146]? = some (.int (nI n9))) (K147_fs : fs[147]? = some (.ref lv)) (K148_fs : fs[148]? = some (.ref sm)) (K151_fs : fs[151]? = some (.null)) (K152_fs : fs[152]? = some (.int 0)) (hi : i ≤ 3) (hn9 : n9 = i + 1) (hV : LV (i + 1) L fA fB bf) (hmL : mn = L (i + 1)) (htab : tab 262144 fm mn) (hfl : ∀ j, j ≤ i + 1 → fl j = nI (L j)) : Met l yX15_findLevel (Cond.code yX15_findLevel cX15_findLevel 10 none :: tb) ({ frames := 2, cells := 0, slots := 0, locals := 82 }) (pcw [.ref q] (dC, dI) [(q, .inr (15, fs)), (sa, .inl (ka, 111152, .inr (.inl fA))), (sb, .inl (kb, 111152, .inr (.inl fB))), (sf, .inl (kf, 111152, .inl bf)), (sy, .inl (ky, 111152, .inl fy)), (sm, .inl (km, 262144, .inl fm)), (lv, .inl (cl, 6, .inl fl))] [(ka, .long), (kb, .long), (kf, .int), (ky, .byte), (km, .int), (cl, .int)] sz) (va_Qv (fun (u : (List Value) × Nat × (Nat → Int64) × (Nat → Int64) × (Nat → Int32) × (Nat → Int32) × (Nat → Int32) × (Nat → Int32) × (Nat → Nat)) => match u with | (fs1, m1, gA, gB, bg, gy, gm, gl, L1) => (LV (i + 2) L1 gA gB bg ∧ m1 = L1 (i + 2) ∧ tab 262144 gm m1 ∧ (∀ j, j ≤ i + 2 → gl j = nI (L1 j)) ∧ (∀ j, j ≤ i + 1 → L1 j = L j) ∧ (∀ j, j < L (i + 1) → gA j = fA j)) ∧ (fs1.length = 163) ∧ (fs1[138]? = some (.ref se)) ∧ (fs1[141]? = some (.ref sa)) ∧ (fs1[142]? = some (.ref sb)) ∧ (fs1[143]? = some (.ref sf)) ∧ (fs1[144]? = some (.ref sy)) ∧ (fs1[145]? = some (.int (nI m1))) ∧ (fs1[146]? = some (.int (nI (i + 2)))) ∧ (fs1[147]? = some (.ref lv)) ∧ (fs1[148]? = some (.ref sm)) ∧ (fs1[151]? = some (.null)) ∧ (fs1[152]? = some (.int 0))) (bw (dC, dI) (va_A [(q, .inr (15, fs)), (sa, .inl (ka, 111152, .inr (.inl fA))), (sb, .inl (kb, 111152, .inr (.inl fB))), (sf, .inl (kf, 111152, .inl bf)), (sy, .inl (ky, 111152, .inl fy)), (sm, .inl (km, 262144, .inl fm)), (lv, .inl (cl, 6, .inl fl))] sz) (fun (u : (List Value) × Nat × (Nat → Int64) × (Nat → Int64) × (Nat → Int32) × (Nat → Int32) × (Nat → Int32) × (Nat → Int32) × (Nat → Nat)) => match u with | (fs1, m1, gA, gB, bg, gy, gm, gl, L1) => [(q, .inr (15, fs1)), (sa, .inl (ka, 111152, .inr (.inl gA))), (sb, .inl (kb, 111152, .inr (.inl gB))), (sf, .inl (kf, 111152, .inl bg)), (sy, .inl (ky, 111152, .inl gy)), (sm, .inl (km, 262144, .inl gm)), (lv, .inl (cl, 6, .inl gl))]) (fun (u : (List Value) × Nat × (Nat → Int64) × (Nat → Int64) × (Nat → Int32) × (Nat → Int32) × (Nat → Int32) × (Nat → Int32) × (Nat → Nat)) => match u with | (fs1, m1, gA, gB, bg, gy, gm, gl, L1) => [])) (va_A [(q, .inr (15, fs)), (sa, .inl (ka, 111152, .inr (.inl fA))), (sb, .inl (kb, 111152, .inr (.inl fB))), (sf, .inl (kf, 111152, .inl bf)), (sy, .inl (ky, 111152, .inl fy)), (sm, .inl (km, 262144, .inl fm)), (lv, .inl (cl, 6, .inl fl))] sz)) 0 0 (va_A [(q, .inr (15, fs)), (sa, .inl (ka, 111152, .inr (.inl fA))), (sb, .inl (kb, 111152, .inr (.inl fB))), (sf, .inl (kf, 111152, .inl bf)), (sy, .inl (ky, 111152, .inl fy)), (sm, .inl (km, 262144, .inl fm)), (lv, .inl (cl, 6, .inl fl))] sz) := by
  refine Met.ofW (cc := cX15_findLevel) (maxL := 10) (ret := none) (by decide) rfl ?_
  intro p e s m args below meth c s₁ B hml hv
  obtain ⟨rfl, hsz, hP, hK, hD0⟩ := hv
  have hx := B.exec
  have hb := B.bytes
  have hr := B.returns
  have hts := atoms_spec (ws := Cond.code yX15_findLevel cX15_findLevel 10 none :: tb) B.pre
  have ht : ∀ w ∈ tb, w.before _ s = true := fun w h => hts w (List.mem_cons_of_mem _ h)
  have hown : s.vm.findClass RX15 = some m.cls := findClass_of_methodNamed B.named
  have hlocks := B.notSynchronized
  subst hsz
  have hD := hD0.self (sz := s.heap.size)
  generalize hAe : va_A [(q, .inr (15, fs)), (sa, .inl (ka, 111152, .inr (.inl fA))), (sb, .inl (kb, 111152, .inr (.inl fB))), (sf, .inl (kf, 111152, .inl bf)), (sy, .inl (ky, 111152, .inl fy)), (sm, .inl (km, 262144, .inl fm)), (lv, .inl (cl, 6, .inl fl))] s.heap.size = A at hD ⊢
  have hA : ∀ q : Nat, s.heap.size ≤ q → A q := fun q h => by rw [← hAe]; exact Or.inr h
  have hS : va_S A s.heap s.heap [] := va_S.rf
  have hl := lv_entry ([.ref q]) (n := 10) (Nat.le_of_ble_eq_true rfl)
  rw [lg_entry_eq]
  generalize (lg_sl ([.ref q]) ++ List.replicate (10 - (lg_sl ([.ref q])).length) Slot.unset).toArray = ls at hl ⊢
  have hl : lv_has ls 10 [(0, .ref q)] := hl
  have hP : va_P (dC, dI) cls [(q, .inr (15, fs)), (sa, .inl (ka, 111152, .inr (.inl fA))), (sb, .inl (kb, 111152, .inr (.inl fB))), (sf, .inl (kf, 111152, .inl bf)), (sy, .inl (ky, 111152, .inl fy)), (sm, .inl (km, 262144, .inl fm)), (lv, .inl (cl, 6, .inl fl))] s.heap := hP
  refine lv_aload_n hx hb dX15_findLevel_0 rfl (lv_at hl 0 rfl) ?_
  refine va_get (D := (dC, dI)) (ci := 15) (v := .int (nI n9)) (C := RX15) (T := TX15) (N := 163) hx hb ht uX15 hown hK hP 0 rfl rfl 146 (by decide) (ht _ k_11_94) (fun _ h9 => h9) K146_fs dX15_findLevel_1 ?_
  refine lv_if_ne (tgt := 62) hx hb dX15_findLevel_4 (by decide) (fun _ => ?_) (fun c0 => absurd c0 ((by rw [hn9]; exact nI_nz (by omega) (by omega))))
  refine lv_aload_n hx hb dX15_findLevel_62 rfl (lv_at hl 0 rfl) ?_
  refine va_get (D := (dC, dI)) (ci := 15) (v := .int (nI n9)) (C := RX15) (T := TX15) (N := 163) hx hb ht uX15 hown hK hP 0 rfl rfl 146 (by decide) (ht _ k_11_94) (fun _ h9 => h9) K146_fs dX15_findLevel_63 ?_
  refine lv_if_ne (tgt := 73) hx hb dX15_findLevel_66 (by decide) (fun _ => ?_) (fun c0 => absurd c0 ((by rw [hn9]; exact nI_nz (by omega) (by omega))))
  refine lv_aload_n hx hb dX15_findLevel_73 rfl (lv_at hl 0 rfl) ?_
  refine va_get (D := (dC, dI)) (ci := 15) (v := .ref lv) (C := RX15) (T := TX15) (N := 163) hx hb ht uX15 hown hK hP 0 rfl rfl 147 (by decide) (ht _ k_11_95) (fun _ h9 => h9) K147_fs dX15_findLevel_74 ?_
  refine lv_aload_n hx hb dX15_findLevel_77 rfl (lv_at hl 0 rfl) ?_
  refine va_get (D := (dC, dI)) (ci := 15) (v := .int (nI n9)) (C := RX15) (T := TX15) (N := 163) hx hb ht uX15 hown hK hP 0 rfl rfl 146 (by decide) (ht _ k_11_94) (fun _ h9 => h9) K146_fs dX15_findLevel_78 ?_
  refine lv_iconst (v := 1) hx hb dX15_findLevel_81 (by decide) ?_
  refine lv_isub hx hb dX15_findLevel_82 ?_
  refine tk_i (y := (nI i)) (by rw [hn9]; exact nI_pred i) ?_
  refine va_iald hx hb hK hP 6 5 rfl rfl (vp_in_nI (by omega) (by decide)) dX15_findLevel_83 ?_
  refine tk_i (y := (nI (L i))) (by rw [nI_clamp (by omega)]; exact hfl i (by omega)) ?_
  refine lv_istore_n (lv' := [(1, .int (nI (L i))), (0, .ref q)]) hx hb dX15_findLevel_84 rfl hl (by decide) rfl (fun ls hl => ?_)
  have hbig := (LV_big hV (by omega) (i + 1) (Nat.le_refl _)).2 (by omega)
  refine lp_rule (fun H locs ls => W p l e _ s m _ below meth c H locs _ _ _ (F0 m 85 ls [])) (fun (z : Nat × Nat × (List Value) × (Nat → Int64) × (Nat → Int64) × (Nat → Int32) × (Nat → Int32) × (Nat → Int32)) H locs ls => match z with | (k, m2, G2, uA2, uB2, ub2, uy2, um2) => va_P (dC, dI) cls [(q, .inr (15, G2)), (sa, .inl (ka, 111152, .inr (.inl uA2))), (sb, .inl (kb, 111152, .inr (.inl uB2))), (sf, .inl (kf, 111152, .inl ub2)), (sy, .inl (ky, 111152, .inl uy2)), (sm, .inl (km, 262144, .inl um2)), (lv, .inl (cl, 6, .inl fl))] H ∧ va_D A [(q, .inr (15, G2)), (sa, .inl (ka, 111152, .inr (.inl uA2))), (sb, .inl (kb, 111152, .inr (.inl uB2))), (sf, .inl (kf, 111152, .inl ub2)), (sy, .inl (ky, 111152, .inl uy2)), (sm, .inl (km, 262144, .inl um2)), (lv, .inl (cl, 6, .inl fl))] ∧ va_S A s.heap H locs ∧ lv_has ls 10 [(1, .int (nI k)), (0, .ref q)] ∧ True ∧ L i ≤ k ∧ k ≤ L (i + 1) ∧ LX i L fA fB bf m2 uA2 uB2 ub2 k 0 ∧ tab 262144 um2 m2 ∧ G2[138]? = some (.ref se) ∧ G2[141]? = some (.ref sa) ∧ G2[142]? = some (.ref sb) ∧ G2[143]? = some (.ref sf) ∧ G2[144]? = some (.ref sy) ∧ G2[145]? = some (.int (nI m2)) ∧ G2[146]? = some (.int (nI n9)) ∧ G2[147]? = some (.ref lv) ∧ G2[148]? = some (.ref sm) ∧ G2[151]? = some (.null) ∧ G2[152]? = some (.int 0) ∧ G2.length = 163) (fun (z : Nat × Nat × (List Value) × (Nat → Int64) × (Nat → Int64) × (Nat → Int32) × (Nat → Int32) × (Nat → Int32)) => match z with | (k, m2, G2, uA2, uB2, ub2, uy2, um2) => L (i + 1) - k) ?_ ((L i), mn, fs, fA, fB, bf, fy, fm) s.heap [] ls ⟨hP, hD, hS, lv_sub hl [0, 1] rfl, trivial, (Nat.le_refl _), (hV.2.1 i (Nat.lt_succ_self _)).1, (by rw [hmL]; exact LX_start hV), htab, K138_fs, K141_fs, K142_fs, K143_fs, K144_fs, K145_fs, K146_fs, K147_fs, K148_fs, K151_fs, K152_fs, L_fs⟩
  intro z H locs ls hI ih85
  obtain ⟨k, m2, G2, uA2, uB2, ub2, uy2, um2⟩ := z
  obtain ⟨hP, hD, hS, hl, -, hk1, hk2, hLX, htab2, K138_G2, K141_G2, K142_G2, K143_G2, K144_G2, K145_G2, K146_G2, K147_G2, K148_G2, K151_G2, K152_G2, L_G2⟩ := hI
  have hP : va_P (dC, dI) cls [(q, .inr (15, G2)), (sa, .inl (ka, 111152, .inr (.inl uA2))), (sb, .inl (kb, 111152, .inr (.inl uB2))), (sf, .inl (kf, 111152, .inl ub2)), (sy, .inl (ky, 111152, .inl uy2)), (sm, .inl (km, 262144, .inl um2)), (lv, .inl (cl, 6, .inl fl))] H := hP
  have hD : va_D A [(q, .inr (15, G2)), (sa, .inl (ka, 111152, .inr (.inl uA2))), (sb, .inl (kb, 111152, .inr (.inl uB2))), (sf, .inl (kf, 111152, .inl ub2)), (sy, .inl (ky, 111152, .inl uy2)), (sm, .inl (km, 262144, .inl um2)), (lv, .inl (cl, 6, .inl fl))] := hD
  have hl : lv_has ls 10 [(1, .int (nI k)), (0, .ref q)] := hl
  refine lv_aload_n hx hb dX15_findLevel_85 rfl (lv_at hl 1 rfl) ?_
  refine va_get (D := (dC, dI)) (ci := 15) (v := .int (nI n9)) (C := RX15) (T := TX15) (N := 163) hx hb ht uX15 hown hK hP 0 rfl rfl 146 (by decide) (ht _ k_11_94) (fun _ h9 => h9) K146_G2 dX15_findLevel_86 ?_
  refine lv_if_le (tgt := 217) hx hb dX15_findLevel_89 (by decide) (fun c0 => absurd c0 ((by rw [hn9]; exact (show ¬ nI (i + 1) ≤ nI 0 from nI_ge (by omega) (by omega))))) (fun _ => ?_)
  refine lv_iload_n hx hb dX15_findLevel_92 rfl (lv_at hl 0 rfl) ?_
  refine lv_aload_n hx hb dX15_findLevel_93 rfl (lv_at hl 1 rfl) ?_
  refine va_get (D := (dC, dI)) (ci := 15) (v := .ref lv) (C := RX15) (T := TX15) (N := 163) hx hb ht uX15 hown hK hP 0 rfl rfl 147 (by decide) (ht _ k_11_95) (fun _ h9 => h9) K147_G2 dX15_findLevel_94 ?_
  refine lv_aload_n hx hb dX15_findLevel_97 rfl (lv_at hl 1 rfl) ?_
  refine va_get (D := (dC, dI)) (ci := 15) (v := .int (nI n9)) (C := RX15) (T := TX15) (N := 163) hx hb ht uX15 hown hK hP 0 rfl rfl 146 (by decide) (ht _ k_11_94) (fun _ h9 => h9) K146_G2 dX15_findLevel_98 ?_
  refine va_iald hx hb hK hP 6 5 rfl rfl (vp_in_nI (by omega) (by decide)) dX15_findLevel_101 ?_
  refine tk_i (y := (nI (L (i + 1)))) (by rw [hn9, nI_clamp (by omega)]; exact hfl (i + 1) (Nat.le_refl _)) ?_
  refine lv_icmp_ge (tgt := 217) hx hb dX15_findLevel_102 (by decide) (fun b_1 => ?_) (fun b_1 => ?_)
  · have hke : k = L (i + 1) := ge_of hk2 (by omega) b_1
    have hLX9 := hLX
    rw [hke] at hLX9
    refine lv_aload_n hx hb dX15_findLevel_217 rfl (lv_at hl 1 rfl) ?_
    refine lv_dup hx hb dX15_findLevel_218 rfl ?_
    refine va_get (D := (dC, dI)) (ci := 15) (v := .int (nI n9)) (C := RX15) (T := TX15) (N := 163) hx hb ht uX15 hown hK hP 0 rfl rfl 146 (by decide) (ht _ k_11_94) (fun _ h9 => h9) K146_G2 dX15_findLevel_219 ?_
    refine lv_iconst (v := 1) hx hb dX15_findLevel_222 (by decide) ?_
    refine lv_iadd hx hb dX15_findLevel_223 ?_
    refine tk_i (y := (nI (i + 2))) (by rw [hn9]; exact nI_1 (i + 1)) ?_
    refine va_put (D := (dC, dI)) (ci := 15) (v := .int (nI (i + 2))) (ty := .int) (C := RX15) (T := TX15) (N := 163) hx hb ht uX15 tyX15 tkX15 nmX15 hown hK hP hD hS 0 rfl rfl 146 (by decide) (ht _ k_11_94) (fun _ h9 => h9) rfl (by decide +kernel) rfl rfl (by rw [L_G2]; decide) dX15_findLevel_224 (fun H locs hP hD hS => ?_)
    obtain ⟨F_2, eF_2⟩ : ∃ g : List Value, g = G2.set 146 (.int (nI (i + 2))) := ⟨_, rfl⟩
    rw [← eF_2] at hP hD
    have K138_F_2 : F_2[138]? = some (.ref se) := by rw [eF_2, List.getElem?_set_ne (by decide)]; exact K138_G2
    have K141_F_2 : F_2[141]? = some (.ref sa) := by rw [eF_2, List.getElem?_set_ne (by decide)]; exact K141_G2
    have K142_F_2 : F_2[142]? = some (.ref sb) := by rw [eF_2, List.getElem?_set_ne (by decide)]; exact K142_G2
    have K143_F_2 : F_2[143]? = some (.ref sf) := by rw [eF_2, List.getElem?_set_ne (by decide)]; exact K143_G2
    have K144_F_2 : F_2[144]? = some (.ref sy) := by rw [eF_2, List.getElem?_set_ne (by decide)]; exact K144_G2
    have K145_F_2 : F_2[145]? = some (.int (nI m2)) := by rw [eF_2, List.getElem?_set_ne (by decide)]; exact K145_G2
    have K147_F_2 : F_2[147]? = some (.ref lv) := by rw [eF_2, List.getElem?_set_ne (by decide)]; exact K147_G2
    have K148_F_2 : F_2[148]? = some (.ref sm) := by rw [eF_2, List.getElem?_set_ne (by decide)]; exact K148_G2
    have K151_F_2 : F_2[151]? = some (.null) := by rw [eF_2, List.getElem?_set_ne (by decide)]; exact K151_G2
    have K152_F_2 : F_2[152]? = some (.int 0) := by rw [eF_2, List.getElem?_set_ne (by decide)]; exact K152_G2
    have K146_F_2 : F_2[146]? = some (.int (nI (i + 2))) := by rw [eF_2]; exact List.getElem?_set_self (by rw [L_G2]; decide)
    have L_F_2 : F_2.length = 163 := by rw [eF_2, List.length_set]; exact L_G2
    have hP : va_P (dC, dI) cls [(q, .inr (15, F_2)), (sa, .inl (ka, 111152, .inr (.inl uA2))), (sb, .inl (kb, 111152, .inr (.inl uB2))), (sf, .inl (kf, 111152, .inl ub2)), (sy, .inl (ky, 111152, .inl uy2)), (sm, .inl (km, 262144, .inl um2)), (lv, .inl (cl, 6, .inl fl))] H := hP
    have hD : va_D A [(q, .inr (15, F_2)), (sa, .inl (ka, 111152, .inr (.inl uA2))), (sb, .inl (kb, 111152, .inr (.inl uB2))), (sf, .inl (kf, 111152, .inl ub2)), (sy, .inl (ky, 111152, .inl uy2)), (sm, .inl (km, 262144, .inl um2)), (lv, .inl (cl, 6, .inl fl))] := hD
    refine lv_aload_n hx hb dX15_findLevel_227 rfl (lv_at hl 1 rfl) ?_
    refine va_get (D := (dC, dI)) (ci := 15) (v := .ref lv) (C := RX15) (T := TX15) (N := 163) hx hb ht uX15 hown hK hP 0 rfl rfl 147 (by decide) (ht _ k_11_95) (fun _ h9 => h9) K147_F_2 dX15_findLevel_228 ?_
    refine lv_aload_n hx hb dX15_findLevel_231 rfl (lv_at hl 1 rfl) ?_
    refine va_get (D := (dC, dI)) (ci := 15) (v := .int (nI (i + 2))) (C := RX15) (T := TX15) (N := 163) hx hb ht uX15 hown hK hP 0 rfl rfl 146 (by decide) (ht _ k_11_94) (fun _ h9 => h9) K146_F_2 dX15_findLevel_232 ?_
    refine lv_aload_n hx hb dX15_findLevel_235 rfl (lv_at hl 1 rfl) ?_
    refine va_get (D := (dC, dI)) (ci := 15) (v := .int (nI m2)) (C := RX15) (T := TX15) (N := 163) hx hb ht uX15 hown hK hP 0 rfl rfl 145 (by decide) (ht _ k_11_93) (fun _ h9 => h9) K145_F_2 dX15_findLevel_236 ?_
    refine va_iast (i := (nI (i + 2))) (x := (nI m2)) hx hb hK hP hD hS 6 5 rfl rfl (vp_in_nI (by omega) (by decide)) dX15_findLevel_239 (fun H locs hP hD hS => ?_)
    obtain ⟨f_3, ef_3⟩ : ∃ g : Nat → Int32, g = upd fl (nI (i + 2)).toNatClampNeg (nI m2) := ⟨_, rfl⟩
    rw [← ef_3] at hP hD
    have hP : va_P (dC, dI) cls [(q, .inr (15, F_2)), (sa, .inl (ka, 111152, .inr (.inl uA2))), (sb, .inl (kb, 111152, .inr (.inl uB2))), (sf, .inl (kf, 111152, .inl ub2)), (sy, .inl (ky, 111152, .inl uy2)), (sm, .inl (km, 262144, .inl um2)), (lv, .inl (cl, 6, .inl f_3))] H := hP
    have hD : va_D A [(q, .inr (15, F_2)), (sa, .inl (ka, 111152, .inr (.inl uA2))), (sb, .inl (kb, 111152, .inr (.inl uB2))), (sf, .inl (kf, 111152, .inl ub2)), (sy, .inl (ky, 111152, .inl uy2)), (sm, .inl (km, 262144, .inl um2)), (lv, .inl (cl, 6, .inl f_3))] := hD
    exact W.vret hx hb hr (fun t ht9 hW => ⟨⟨(F_2, m2, uA2, uB2, ub2, uy2, um2, f_3, (Lset L (i + 2) m2)), rfl, ⟨⟨LX_end hV hLX9, Lset_eq.symm, htab2, lev_put (by omega) ef_3 (fun j hj => hfl j (by omega)), fun j hj => Lset_ne (by omega), fun j hj => (hLX9.2.1 j hj).1⟩, L_F_2, K138_F_2, K141_F_2, K142_F_2, K143_F_2, K144_F_2, K145_F_2, K146_F_2, K147_F_2, K148_F_2, K151_F_2, K152_F_2⟩, by rw [ht9]; exact hP.sub [0, 1, 2, 3, 4, 5, 6] rfl, va_K.moved hW.alike (hK.sub [] rfl), hD.sub [0, 1, 2, 3, 4, 5, 6] (by decide) rfl⟩, hS.F ht9⟩) hS.2.2 dX15_findLevel_240
  · have hkl : k < L (i + 1) := nI_lej (by omega) (by omega) b_1
    refine lv_iconst (v := 0) hx hb dX15_findLevel_105 (by decide) ?_
    refine lv_istore_n (lv' := [(2, .int 0), (1, .int (nI k)), (0, .ref q)]) hx hb dX15_findLevel_106 rfl hl (by decide) rfl (fun ls hl => ?_)
    refine lp_rule (fun H locs ls => W p l e _ s m _ below meth c H locs _ _ _ (F0 m 107 ls [])) (fun (z : Nat × Nat × (List Value) × (Nat → Int64) × (Nat → Int64) × (Nat → Int32) × (Nat → Int32) × (Nat → Int32)) H locs ls => match z with | (x, m3, G3, uA3, uB3, ub3, uy3, um3) => va_P (dC, dI) cls [(q, .inr (15, G3)), (sa, .inl (ka, 111152, .inr (.inl uA3))), (sb, .inl (kb, 111152, .inr (.inl uB3))), (sf, .inl (kf, 111152, .inl ub3)), (sy, .inl (ky, 111152, .inl uy3)), (sm, .inl (km, 262144, .inl um3)), (lv, .inl (cl, 6, .inl fl))] H ∧ va_D A [(q, .inr (15, G3)), (sa, .inl (ka, 111152, .inr (.inl uA3))), (sb, .inl (kb, 111152, .inr (.inl uB3))), (sf, .inl (kf, 111152, .inl ub3)), (sy, .inl (ky, 111152, .inl uy3)), (sm, .inl (km, 262144, .inl um3)), (lv, .inl (cl, 6, .inl fl))] ∧ va_S A s.heap H locs ∧ lv_has ls 10 [(2, .int (nI x)), (1, .int (nI k)), (0, .ref q)] ∧ True ∧ x ≤ 18 ∧ LX i L fA fB bf m3 uA3 uB3 ub3 k x ∧ tab 262144 um3 m3 ∧ G3[138]? = some (.ref se) ∧ G3[141]? = some (.ref sa) ∧ G3[142]? = some (.ref sb) ∧ G3[143]? = some (.ref sf) ∧ G3[144]? = some (.ref sy) ∧ G3[145]? = some (.int (nI m3)) ∧ G3[146]? = some (.int (nI n9)) ∧ G3[147]? = some (.ref lv) ∧ G3[148]? = some (.ref sm) ∧ G3[151]? = some (.null) ∧ G3[152]? = some (.int 0) ∧ G3.length = 163) (fun (z : Nat × Nat × (List Value) × (Nat → Int64) × (Nat → Int64) × (Nat → Int32) × (Nat → Int32) × (Nat → Int32)) => match z with | (x, m3, G3, uA3, uB3, ub3, uy3, um3) => 18 - x) ?_ (0, m2, G2, uA2, uB2, ub2, uy2, um2) H locs ls ⟨hP, hD, hS, lv_sub hl [0, 1, 2] rfl, trivial, (by decide), hLX, htab2, K138_G2, K141_G2, K142_G2, K143_G2, K144_G2, K145_G2, K146_G2, K147_G2, K148_G2, K151_G2, K152_G2, L_G2⟩
    intro z H locs ls hI ih107
    obtain ⟨x, m3, G3, uA3, uB3, ub3, uy3, um3⟩ := z
    obtain ⟨hP, hD, hS, hl, -, hxx, hLX3, htab3, K138_G3, K141_G3, K142_G3, K143_G3, K144_G3, K145_G3, K146_G3, K147_G3, K148_G3, K151_G3, K152_G3, L_G3⟩ := hI
    have hP : va_P (dC, dI) cls [(q, .inr (15, G3)), (sa, .inl (ka, 111152, .inr (.inl uA3))), (sb, .inl (kb, 111152, .inr (.inl uB3))), (sf, .inl (kf, 111152, .inl ub3)), (sy, .inl (ky, 111152, .inl uy3)), (sm, .inl (km, 262144, .inl um3)), (lv, .inl (cl, 6, .inl fl))] H := hP
    have hD : va_D A [(q, .inr (15, G3)), (sa, .inl (ka, 111152, .inr (.inl uA3))), (sb, .inl (kb, 111152, .inr (.inl uB3))), (sf, .inl (kf, 111152, .inl ub3)), (sy, .inl (ky, 111152, .inl uy3)), (sm, .inl (km, 262144, .inl um3)), (lv, .inl (cl, 6, .inl fl))] := hD
    have hl : lv_has ls 10 [(2, .int (nI x)), (1, .int (nI k)), (0, .ref q)] := hl
    refine lv_iload_n hx hb dX15_findLevel_107 rfl (lv_at hl 0 rfl) ?_
    refine lv_bipush (v := 18) hx hb dX15_findLevel_108 (by decide) ?_
    refine lv_icmp_ge (tgt := 211) hx hb dX15_findLevel_110 (by decide) (fun b_4 => ?_) (fun b_4 => ?_)
    · refine lv_iinc (v := (nI (k + 1))) (lv' := [(1, .int (nI (k + 1))), (2, .int (nI x)), (0, .ref q)]) hx hb dX15_findLevel_211 hl (k := 1) rfl (nI_1 k) (by decide) rfl (fun ls hl => ?_)
      refine lv_goto (tgt := 85) hx hb dX15_findLevel_214 (by decide) ?_
      exact ih85 (k + 1, m3, G3, uA3, uB3, ub3, uy3, um3) H locs ls (show L (i + 1) - (k + 1) < L (i + 1) - k by omega) ⟨hP.sub [0, 1, 2, 3, 4, 5, 6] rfl, hD.sub [0, 1, 2, 3, 4, 5, 6] (by decide) rfl, hS, lv_sub hl [0, 2] rfl, trivial, (by omega), (by omega), (LX_next (by have e9 := eq18' hxx b_4; rw [e9] at hLX3; exact hLX3)), htab3, K138_G3, K141_G3, K142_G3, K143_G3, K144_G3, K145_G3, K146_G3, K147_G3, K148_G3, K151_G3, K152_G3, L_G3⟩
    · have hx18 : x < 18 := lt18' hxx b_4
      have hm3 := LX_big hV hi hLX3 hkl hx18
      obtain ⟨hAk, hBk⟩ := LX_k hLX3 hkl
      refine lv_lconst (v := 0) hx hb dX15_findLevel_113 (by decide) ?_
      refine lv_lstore_n (lv' := [(3, .long 0), (2, .int (nI x)), (1, .int (nI k)), (0, .ref q)]) hx hb dX15_findLevel_114 rfl hl (by decide) rfl (fun ls hl => ?_)
      refine lv_lconst (v := 0) hx hb dX15_findLevel_115 (by decide) ?_
      refine lv_lstore (lv' := [(5, .long 0), (3, .long 0), (2, .int (nI x)), (1, .int (nI k)), (0, .ref q)]) hx hb dX15_findLevel_116 hl (by decide) rfl (fun ls hl => ?_)
      refine lv_iconst (v := 0) hx hb dX15_findLevel_118 (by decide) ?_
      refine lv_istore (lv' := [(7, .int 0), (5, .long 0), (3, .long 0), (2, .int (nI x)), (1, .int (nI k)), (0, .ref q)]) hx hb dX15_findLevel_119 hl (by decide) rfl (fun ls hl => ?_)
      refine lp_rule (fun H locs ls => W p l e _ s m _ below meth c H locs _ _ _ (F0 m 121 ls [])) (fun (z : Nat × Int64 × Int64) H locs ls => match z with | (t, a, b) => va_P (dC, dI) cls [(q, .inr (15, G3)), (sa, .inl (ka, 111152, .inr (.inl uA3))), (sb, .inl (kb, 111152, .inr (.inl uB3))), (sf, .inl (kf, 111152, .inl ub3)), (sy, .inl (ky, 111152, .inl uy3)), (sm, .inl (km, 262144, .inl um3)), (lv, .inl (cl, 6, .inl fl))] H ∧ va_D A [(q, .inr (15, G3)), (sa, .inl (ka, 111152, .inr (.inl uA3))), (sb, .inl (kb, 111152, .inr (.inl uB3))), (sf, .inl (kf, 111152, .inl ub3)), (sy, .inl (ky, 111152, .inl uy3)), (sm, .inl (km, 262144, .inl um3)), (lv, .inl (cl, 6, .inl fl))] ∧ va_S A s.heap H locs ∧ lv_has ls 10 [(7, .int (nI t)), (5, .long b), (3, .long a), (2, .int (nI x)), (1, .int (nI k)), (0, .ref q)] ∧ True ∧ t ≤ 16 ∧ (∀ j, j < 16 → lane (uN a) j = if j < t then lane (uN (nxA x (fA k) (fB k))) j else 0) ∧ ∀ j, j < 16 → lane (uN b) j = if j < t then lane (uN (nxB x (fA k) (fB k))) j else 0) (fun (z : Nat × Int64 × Int64) => match z with | (t, a, b) => 16 - t) ?_ (0, 0, 0) H locs ls ⟨hP, hD, hS, lv_sub hl [0, 1, 2, 3, 4, 5] rfl, trivial, (by decide), (lor_0 _), (lor_0 _)⟩
      intro z H locs ls hI ih121
      obtain ⟨t, a, b⟩ := z
      obtain ⟨hP, hD, hS, hl, -, ht9, hla, hlb⟩ := hI
      have hP : va_P (dC, dI) cls [(q, .inr (15, G3)), (sa, .inl (ka, 111152, .inr (.inl uA3))), (sb, .inl (kb, 111152, .inr (.inl uB3))), (sf, .inl (kf, 111152, .inl ub3)), (sy, .inl (ky, 111152, .inl uy3)), (sm, .inl (km, 262144, .inl um3)), (lv, .inl (cl, 6, .inl fl))] H := hP
      have hD : va_D A [(q, .inr (15, G3)), (sa, .inl (ka, 111152, .inr (.inl uA3))), (sb, .inl (kb, 111152, .inr (.inl uB3))), (sf, .inl (kf, 111152, .inl ub3)), (sy, .inl (ky, 111152, .inl uy3)), (sm, .inl (km, 262144, .inl um3)), (lv, .inl (cl, 6, .inl fl))] := hD
      have hl : lv_has ls 10 [(7, .int (nI t)), (5, .long b), (3, .long a), (2, .int (nI x)), (1, .int (nI k)), (0, .ref q)] := hl
      refine lv_iload hx hb dX15_findLevel_121 (lv_at hl 0 rfl) ?_
      refine lv_bipush (v := 16) hx hb dX15_findLevel_123 (by decide) ?_
      refine lv_icmp_ge (tgt := 196) hx hb dX15_findLevel_125 (by decide) (fun b_5 => ?_) (fun b_5 => ?_)
      · have e16 := eq16 ht9 b_5
        rw [e16] at hla hlb
        have ea : a = (nxA x (fA k) (fB k)) := lor_end hla
        have eb : b = (nxB x (fA k) (fB k)) := lor_end hlb
        refine lv_aload_n hx hb dX15_findLevel_196 rfl (lv_at hl 5 rfl) ?_
        refine lv_lload_n hx hb dX15_findLevel_197 rfl (lv_at hl 2 rfl) ?_
        refine lv_lload hx hb dX15_findLevel_198 (lv_at hl 1 rfl) ?_
        refine lv_iload_n hx hb dX15_findLevel_200 rfl (lv_at hl 4 rfl) ?_
        refine lv_iload_n hx hb dX15_findLevel_201 rfl (lv_at hl 3 rfl) ?_
        refine ca_v (wr := [(lv, .inl (cl, 6, .inl fl))]) (va_runV (As := [.long a, .long b, .int (nI k), .int (nI x)]) (rest := []) ⟨hx, hb, hml, hown, ht⟩ (r_addState l dC dI H.size q G3 sa sb sf sy sm lv se ka kb kf ky km uA3 uB3 ub3 uy3 um3 m3 n9 a b (nI k) (nI x) L_G3 K138_G3 K141_G3 K142_G3 K143_G3 K144_G3 K145_G3 K146_G3 K147_G3 K148_G3 K151_G3 K152_G3 hm3 htab3) (cwV 4 ht (gdV k_16_8 k_16_5 k_16_7 ks_235 k_1_17) rfl rfl rfl (by decide +kernel) ⟨Nat.le_of_ble_eq_true rfl, Nat.le_of_ble_eq_true rfl⟩) ⟨pcw_blind, va_recv hK hP (ci := 15) (q0 := 0) rfl rfl, pcw_at hP hD hK [0, 1, 2, 3, 4, 5] [0, 1, 2, 3, 4] (by decide) rfl rfl rfl⟩ rfl rfl hl.1 rfl (lv_room (Nat.le_of_ble_eq_true rfl)) dX15_findLevel_202 ⟨Nat.le_of_ble_eq_true rfl, Nat.le_of_ble_eq_true rfl⟩) hP hD hK hS hA [0, 1, 2, 3, 4, 5] [6] rfl rfl (by decide) (by decide) (fun u H locs w_7 hK hP hD hS => ?_)
        obtain ⟨F_8, q_9, y_10, y_11, y_12, y_13, y_14⟩ := u
        have hK : va_K (dC, dI) cls [(ka, .long), (kb, .long), (kf, .int), (ky, .byte), (km, .int), (cl, .int)] s := hK
        have hP : va_P (dC, dI) cls [(lv, .inl (cl, 6, .inl fl)), (q, .inr (15, F_8)), (sa, .inl (ka, 111152, .inr (.inl y_10))), (sb, .inl (kb, 111152, .inr (.inl y_11))), (sf, .inl (kf, 111152, .inl y_12)), (sy, .inl (ky, 111152, .inl y_13)), (sm, .inl (km, 262144, .inl y_14))] H := hP
        have hD : va_D A [(lv, .inl (cl, 6, .inl fl)), (q, .inr (15, F_8)), (sa, .inl (ka, 111152, .inr (.inl y_10))), (sb, .inl (kb, 111152, .inr (.inl y_11))), (sf, .inl (kf, 111152, .inl y_12)), (sy, .inl (ky, 111152, .inl y_13)), (sm, .inl (km, 262144, .inl y_14))] := hD
        obtain ⟨w_7, K_15, K_16, K_17, K_18, K_19, K_20, K_21, K_22, K_23, K_24, K_25, K_26⟩ := w_7
        obtain ⟨hadd, htb⟩ := w_7
        refine lv_iinc (v := (nI (x + 1))) (lv' := [(2, .int (nI (x + 1))), (7, .int (nI t)), (5, .long b), (3, .long a), (1, .int (nI k)), (0, .ref q)]) hx hb dX15_findLevel_205 hl (k := 3) rfl (nI_1 x) (by decide) rfl (fun ls hl => ?_)
        refine lv_goto (tgt := 107) hx hb dX15_findLevel_208 (by decide) ?_
        exact ih107 (x + 1, q_9, F_8, y_10, y_11, y_12, y_13, y_14) H locs ls (show 18 - (x + 1) < 18 - x by omega) ⟨hP.sub [1, 2, 3, 4, 5, 6, 0] rfl, hD.sub [1, 2, 3, 4, 5, 6, 0] (by decide) rfl, hS, lv_sub hl [0, 4, 5] rfl, trivial, (by omega), (LX_step hV hLX3 hk1 hkl hx18 (by rw [ea, eb]; rfl) hadd), htb, K_16, K_17, K_18, K_19, K_20, K_21, K_22, K_23, K_24, K_25, K_26, K_15⟩
      · have ht16 : t < 16 := lt16 ht9 b_5
        refine lv_aload_n hx hb dX15_findLevel_128 rfl (lv_at hl 5 rfl) ?_
        refine va_get (D := (dC, dI)) (ci := 15) (v := .ref sa) (C := RX15) (T := TX15) (N := 163) hx hb ht uX15 hown hK hP 0 rfl rfl 141 (by decide) (ht _ k_11_89) (fun _ h9 => h9) K141_G3 dX15_findLevel_129 ?_
        refine lv_iload_n hx hb dX15_findLevel_132 rfl (lv_at hl 4 rfl) ?_
        refine va_lald hx hb hK hP 1 0 rfl rfl (vp_in_nI (by omega) (by decide)) dX15_findLevel_133 ?_
        refine tk_l (y := (fA k)) (by rw [nI_clamp (by omega)]; exact hAk) ?_
        refine lv_iload hx hb dX15_findLevel_134 (lv_at hl 0 rfl) ?_
        refine ca_i (wr := [(q, .inr (15, G3)), (sa, .inl (ka, 111152, .inr (.inl uA3))), (sb, .inl (kb, 111152, .inr (.inl uB3))), (sf, .inl (kf, 111152, .inl ub3)), (sy, .inl (ky, 111152, .inl uy3)), (sm, .inl (km, 262144, .inl um3)), (lv, .inl (cl, 6, .inl fl))]) (va_runS (As := [.long (fA k), .int (nI t)]) (rest := []) ⟨hx, hb, hml, hown, ht⟩ (r_nibble l dC dI H.size (fA k) t  ht16) (cwS 2 ht (gdS k_16_18 k_16_16 k_16_17 k_1_17) rfl rfl rfl (by decide +kernel) ⟨Nat.le_of_ble_eq_true rfl, Nat.le_of_ble_eq_true rfl⟩) ⟨pcw_blind, pcw_at hP hD hK [] [] (by decide) rfl rfl rfl⟩ rfl rfl hl.1 rfl (lv_room (Nat.le_of_ble_eq_true rfl)) dX15_findLevel_136 ⟨Nat.le_of_ble_eq_true rfl, Nat.le_of_ble_eq_true rfl⟩) hP hD hK hS hA [] [0, 1, 2, 3, 4, 5, 6] rfl rfl (by decide) (by decide) (fun r_27 u H locs w_28 hK hP hD hS => ?_)
        have hK : va_K (dC, dI) cls [(ka, .long), (kb, .long), (kf, .int), (ky, .byte), (km, .int), (cl, .int)] s := hK
        have hP : va_P (dC, dI) cls [(q, .inr (15, G3)), (sa, .inl (ka, 111152, .inr (.inl uA3))), (sb, .inl (kb, 111152, .inr (.inl uB3))), (sf, .inl (kf, 111152, .inl ub3)), (sy, .inl (ky, 111152, .inl uy3)), (sm, .inl (km, 262144, .inl um3)), (lv, .inl (cl, 6, .inl fl))] H := hP
        have hD : va_D A [(q, .inr (15, G3)), (sa, .inl (ka, 111152, .inr (.inl uA3))), (sb, .inl (kb, 111152, .inr (.inl uB3))), (sf, .inl (kf, 111152, .inl ub3)), (sy, .inl (ky, 111152, .inl uy3)), (sm, .inl (km, 262144, .inl um3)), (lv, .inl (cl, 6, .inl fl))] := hD
        obtain rfl : r_27 = nI (lane (uN (fA k)) t) := w_28
        refine lv_istore (lv' := [(8, .int (nI (lane (uN (fA k)) t))), (7, .int (nI t)), (5, .long b), (3, .long a), (2, .int (nI x)), (1, .int (nI k)), (0, .ref q)]) hx hb dX15_findLevel_139 hl (by decide) rfl (fun ls hl => ?_)
        refine lv_aload_n hx hb dX15_findLevel_141 rfl (lv_at hl 6 rfl) ?_
        refine va_get (D := (dC, dI)) (ci := 15) (v := .ref sb) (C := RX15) (T := TX15) (N := 163) hx hb ht uX15 hown hK hP 0 rfl rfl 142 (by decide) (ht _ k_11_90) (fun _ h9 => h9) K142_G3 dX15_findLevel_142 ?_
        refine lv_iload_n hx hb dX15_findLevel_145 rfl (lv_at hl 5 rfl) ?_
        refine va_lald hx hb hK hP 2 1 rfl rfl (vp_in_nI (by omega) (by decide)) dX15_findLevel_146 ?_
        refine tk_l (y := (fB k)) (by rw [nI_clamp (by omega)]; exact hBk) ?_
        refine lv_iload hx hb dX15_findLevel_147 (lv_at hl 1 rfl) ?_
        refine ca_i (wr := [(q, .inr (15, G3)), (sa, .inl (ka, 111152, .inr (.inl uA3))), (sb, .inl (kb, 111152, .inr (.inl uB3))), (sf, .inl (kf, 111152, .inl ub3)), (sy, .inl (ky, 111152, .inl uy3)), (sm, .inl (km, 262144, .inl um3)), (lv, .inl (cl, 6, .inl fl))]) (va_runS (As := [.long (fB k), .int (nI t)]) (rest := []) ⟨hx, hb, hml, hown, ht⟩ (r_nibble l dC dI H.size (fB k) t  ht16) (cwS 2 ht (gdS k_16_18 k_16_16 k_16_17 k_1_17) rfl rfl rfl (by decide +kernel) ⟨Nat.le_of_ble_eq_true rfl, Nat.le_of_ble_eq_true rfl⟩) ⟨pcw_blind, pcw_at hP hD hK [] [] (by decide) rfl rfl rfl⟩ rfl rfl hl.1 rfl (lv_room (Nat.le_of_ble_eq_true rfl)) dX15_findLevel_149 ⟨Nat.le_of_ble_eq_true rfl, Nat.le_of_ble_eq_true rfl⟩) hP hD hK hS hA [] [0, 1, 2, 3, 4, 5, 6] rfl rfl (by decide) (by decide) (fun r_29 u H locs w_30 hK hP hD hS => ?_)
        have hK : va_K (dC, dI) cls [(ka, .long), (kb, .long), (kf, .int), (ky, .byte), (km, .int), (cl, .int)] s := hK
        have hP : va_P (dC, dI) cls [(q, .inr (15, G3)), (sa, .inl (ka, 111152, .inr (.inl uA3))), (sb, .inl (kb, 111152, .inr (.inl uB3))), (sf, .inl (kf, 111152, .inl ub3)), (sy, .inl (ky, 111152, .inl uy3)), (sm, .inl (km, 262144, .inl um3)), (lv, .inl (cl, 6, .inl fl))] H := hP
        have hD : va_D A [(q, .inr (15, G3)), (sa, .inl (ka, 111152, .inr (.inl uA3))), (sb, .inl (kb, 111152, .inr (.inl uB3))), (sf, .inl (kf, 111152, .inl ub3)), (sy, .inl (ky, 111152, .inl uy3)), (sm, .inl (km, 262144, .inl um3)), (lv, .inl (cl, 6, .inl fl))] := hD
        obtain rfl : r_29 = nI (lane (uN (fB k)) t) := w_30
        refine lv_istore (lv' := [(9, .int (nI (lane (uN (fB k)) t))), (8, .int (nI (lane (uN (fA k)) t))), (7, .int (nI t)), (5, .long b), (3, .long a), (2, .int (nI x)), (1, .int (nI k)), (0, .ref q)]) hx hb dX15_findLevel_152 hl (by decide) rfl (fun ls hl => ?_)
        refine lv_lload_n hx hb dX15_findLevel_154 rfl (lv_at hl 4 rfl) ?_
        refine lv_iload_n hx hb dX15_findLevel_155 rfl (lv_at hl 5 rfl) ?_
        refine lv_iload hx hb dX15_findLevel_156 (lv_at hl 1 rfl) ?_
        refine lv_iload hx hb dX15_findLevel_158 (lv_at hl 0 rfl) ?_
        refine ca_i (wr := [(q, .inr (15, G3)), (sa, .inl (ka, 111152, .inr (.inl uA3))), (sb, .inl (kb, 111152, .inr (.inl uB3))), (sf, .inl (kf, 111152, .inl ub3)), (sy, .inl (ky, 111152, .inl uy3)), (sm, .inl (km, 262144, .inl um3)), (lv, .inl (cl, 6, .inl fl))]) (va_runS (As := [.int (nI x), .int (nI (lane (uN (fA k)) t)), .int (nI (lane (uN (fB k)) t))]) (rest := [.long a]) ⟨hx, hb, hml, hown, ht⟩ (r_stepA l dC dI H.size x (lane (uN (fA k)) t) (lane (uN (fB k)) t)  hx18 (lane_lt _ _) (lane_lt _ _)) (cwS 3 ht (gdS k_16_21 k_16_19 k_16_20 k_1_17) rfl rfl rfl (by decide +kernel) ⟨Nat.le_of_ble_eq_true rfl, Nat.le_of_ble_eq_true rfl⟩) ⟨pcw_blind, pcw_at hP hD hK [] [] (by decide) rfl rfl rfl⟩ rfl rfl hl.1 rfl (lv_room (Nat.le_of_ble_eq_true rfl)) dX15_findLevel_160 ⟨Nat.le_of_ble_eq_true rfl, Nat.le_of_ble_eq_true rfl⟩) hP hD hK hS hA [] [0, 1, 2, 3, 4, 5, 6] rfl rfl (by decide) (by decide) (fun r_31 u H locs w_32 hK hP hD hS => ?_)
        have hK : va_K (dC, dI) cls [(ka, .long), (kb, .long), (kf, .int), (ky, .byte), (km, .int), (cl, .int)] s := hK
        have hP : va_P (dC, dI) cls [(q, .inr (15, G3)), (sa, .inl (ka, 111152, .inr (.inl uA3))), (sb, .inl (kb, 111152, .inr (.inl uB3))), (sf, .inl (kf, 111152, .inl ub3)), (sy, .inl (ky, 111152, .inl uy3)), (sm, .inl (km, 262144, .inl um3)), (lv, .inl (cl, 6, .inl fl))] H := hP
        have hD : va_D A [(q, .inr (15, G3)), (sa, .inl (ka, 111152, .inr (.inl uA3))), (sb, .inl (kb, 111152, .inr (.inl uB3))), (sf, .inl (kf, 111152, .inl ub3)), (sy, .inl (ky, 111152, .inl uy3)), (sm, .inl (km, 262144, .inl um3)), (lv, .inl (cl, 6, .inl fl))] := hD
        obtain rfl : r_31 = nI (lane (uN (nxA x (fA k) (fB k))) t) := w_32.trans (by rw [lane_nxA hx18 _ _ ht16])
        refine lv_i2l hx hb dX15_findLevel_163 rfl ?_
        refine lv_topl (fun x_33 ex_33 => ?_)
        refine lv_iconst (v := 4) hx hb dX15_findLevel_164 (by decide) ?_
        refine lv_iload hx hb dX15_findLevel_165 (lv_at hl 2 rfl) ?_
        refine lv_imul hx hb dX15_findLevel_167 ?_
        refine tk_i (y := (nI (4 * t))) (pk_mul 4 t) ?_
        refine lv_lshl hx hb dX15_findLevel_168 rfl ?_
        refine lv_topl (fun x_34 ex_34 => ?_)
        refine lv_lor hx hb dX15_findLevel_169 ?_
        refine lv_topl (fun x_35 ex_35 => ?_)
        refine lv_lstore_n (lv' := [(3, .long x_35), (9, .int (nI (lane (uN (fB k)) t))), (8, .int (nI (lane (uN (fA k)) t))), (7, .int (nI t)), (5, .long b), (2, .int (nI x)), (1, .int (nI k)), (0, .ref q)]) hx hb dX15_findLevel_170 rfl hl (by decide) rfl (fun ls hl => ?_)
        refine lv_lload hx hb dX15_findLevel_171 (lv_at hl 4 rfl) ?_
        refine lv_iload_n hx hb dX15_findLevel_173 rfl (lv_at hl 5 rfl) ?_
        refine lv_iload hx hb dX15_findLevel_174 (lv_at hl 2 rfl) ?_
        refine lv_iload hx hb dX15_findLevel_176 (lv_at hl 1 rfl) ?_
        refine ca_i (wr := [(q, .inr (15, G3)), (sa, .inl (ka, 111152, .inr (.inl uA3))), (sb, .inl (kb, 111152, .inr (.inl uB3))), (sf, .inl (kf, 111152, .inl ub3)), (sy, .inl (ky, 111152, .inl uy3)), (sm, .inl (km, 262144, .inl um3)), (lv, .inl (cl, 6, .inl fl))]) (va_runS (As := [.int (nI x), .int (nI (lane (uN (fA k)) t)), .int (nI (lane (uN (fB k)) t))]) (rest := [.long b]) ⟨hx, hb, hml, hown, ht⟩ (r_stepB l dC dI H.size x (lane (uN (fA k)) t) (lane (uN (fB k)) t)  hx18 (lane_lt _ _) (lane_lt _ _)) (cwS 3 ht (gdS k_16_24 k_16_22 k_16_23 k_1_17) rfl rfl rfl (by decide +kernel) ⟨Nat.le_of_ble_eq_true rfl, Nat.le_of_ble_eq_true rfl⟩) ⟨pcw_blind, pcw_at hP hD hK [] [] (by decide) rfl rfl rfl⟩ rfl rfl hl.1 rfl (lv_room (Nat.le_of_ble_eq_true rfl)) dX15_findLevel_178 ⟨Nat.le_of_ble_eq_true rfl, Nat.le_of_ble_eq_true rfl⟩) hP hD hK hS hA [] [0, 1, 2, 3, 4, 5, 6] rfl rfl (by decide) (by decide) (fun r_36 u H locs w_37 hK hP hD hS => ?_)
        have hK : va_K (dC, dI) cls [(ka, .long), (kb, .long), (kf, .int), (ky, .byte), (km, .int), (cl, .int)] s := hK
        have hP : va_P (dC, dI) cls [(q, .inr (15, G3)), (sa, .inl (ka, 111152, .inr (.inl uA3))), (sb, .inl (kb, 111152, .inr (.inl uB3))), (sf, .inl (kf, 111152, .inl ub3)), (sy, .inl (ky, 111152, .inl uy3)), (sm, .inl (km, 262144, .inl um3)), (lv, .inl (cl, 6, .inl fl))] H := hP
        have hD : va_D A [(q, .inr (15, G3)), (sa, .inl (ka, 111152, .inr (.inl uA3))), (sb, .inl (kb, 111152, .inr (.inl uB3))), (sf, .inl (kf, 111152, .inl ub3)), (sy, .inl (ky, 111152, .inl uy3)), (sm, .inl (km, 262144, .inl um3)), (lv, .inl (cl, 6, .inl fl))] := hD
        obtain rfl : r_36 = nI (lane (uN (nxB x (fA k) (fB k))) t) := w_37.trans (by rw [lane_nxB hx18 _ _ ht16])
        refine lv_i2l hx hb dX15_findLevel_181 rfl ?_
        refine lv_topl (fun x_38 ex_38 => ?_)
        refine lv_iconst (v := 4) hx hb dX15_findLevel_182 (by decide) ?_
        refine lv_iload hx hb dX15_findLevel_183 (lv_at hl 3 rfl) ?_
        refine lv_imul hx hb dX15_findLevel_185 ?_
        refine tk_i (y := (nI (4 * t))) (pk_mul 4 t) ?_
        refine lv_lshl hx hb dX15_findLevel_186 rfl ?_
        refine lv_topl (fun x_39 ex_39 => ?_)
        refine lv_lor hx hb dX15_findLevel_187 ?_
        refine lv_topl (fun x_40 ex_40 => ?_)
        refine lv_lstore (lv' := [(5, .long x_40), (3, .long x_35), (9, .int (nI (lane (uN (fB k)) t))), (8, .int (nI (lane (uN (fA k)) t))), (7, .int (nI t)), (2, .int (nI x)), (1, .int (nI k)), (0, .ref q)]) hx hb dX15_findLevel_188 hl (by decide) rfl (fun ls hl => ?_)
        refine lv_iinc (v := (nI (t + 1))) (lv' := [(7, .int (nI (t + 1))), (5, .long x_40), (3, .long x_35), (9, .int (nI (lane (uN (fB k)) t))), (8, .int (nI (lane (uN (fA k)) t))), (2, .int (nI x)), (1, .int (nI k)), (0, .ref q)]) hx hb dX15_findLevel_190 hl (k := 4) rfl (nI_1 t) (by decide) rfl (fun ls hl => ?_)
        refine lv_goto (tgt := 121) hx hb dX15_findLevel_193 (by decide) ?_
        exact ih121 (t + 1, x_35, x_40) H locs ls (show 16 - (t + 1) < 16 - t by omega) ⟨hP.sub [0, 1, 2, 3, 4, 5, 6] rfl, hD.sub [0, 1, 2, 3, 4, 5, 6] (by decide) rfl, hS, lv_sub hl [0, 1, 2, 5, 6, 7] rfl, trivial, (by omega), (by rw [ex_35, ex_34, ex_33]; exact lor_step (f := fun j => lane (uN (nxA x (fA k) (fB k))) j) ht16 (lane_lt _ _) hla), (by rw [ex_40, ex_39, ex_38]; exact lor_step (f := fun j => lane (uN (nxB x (fA k) (fB k))) j) ht16 (lane_lt _ _) hlb)⟩
