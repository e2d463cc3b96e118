theorem dX15_init_0 : decode cX15_init 0 = .ok (.aload_n 0, 1) := by decide +kernel
theorem k_9_234 : Jvm.Cond.methodLink "FinderHouseModel" (44 : Nat) ({ cls := "java/lang/Object", name := "<init>", desc := "()V" } : Jvm.MethodName) ∈ tb := tb9 234 (by decide +kernel) (by decide +kernel)
theorem dX15_init_1 : decode cX15_init 1 = .ok (.invokespecial 44, 3) := by decide +kernel
theorem dX15_init_4 : decode cX15_init 4 = .ok (.aload_n 0, 1) := by decide +kernel
theorem dX15_init_5 : decode cX15_init 5 = .ok (.bipush 36, 2) := by decide +kernel
theorem dX15_init_7 : decode cX15_init 7 = .ok (.newarray .long, 2) := by decide +kernel
theorem f15_0 : TX15 0 = (RX15, "actName", "[J", true) := by decide +kernel
theorem pd_AJ : parseFieldDescriptor "[J" = some (.array .long) := by decide +kernel
theorem dX15_init_9 : decode cX15_init 9 = .ok (.putfield 23, 3) := by decide +kernel
theorem dX15_init_12 : decode cX15_init 12 = .ok (.aload_n 0, 1) := by decide +kernel
theorem dX15_init_13 : decode cX15_init 13 = .ok (.bipush 36, 2) := by decide +kernel
theorem dX15_init_15 : decode cX15_init 15 = .ok (.newarray .int, 2) := by decide +kernel
theorem f15_1 : TX15 1 = (RX15, "actMany", "[I", true) := by decide +kernel
theorem pd_AI : parseFieldDescriptor "[I" = some (.array .int) := by decide +kernel
theorem dX15_init_17 : decode cX15_init 17 = .ok (.putfield 31, 3) := by decide +kernel
theorem dX15_init_20 : decode cX15_init 20 = .ok (.aload_n 0, 1) := by decide +kernel
theorem dX15_init_21 : decode cX15_init 21 = .ok (.bipush 108, 2) := by decide +kernel
theorem dX15_init_23 : decode cX15_init 23 = .ok (.newarray .int, 2) := by decide +kernel
theorem f15_2 : TX15 2 = (RX15, "actWants", "[I", true) := by decide +kernel
theorem dX15_init_25 : decode cX15_init 25 = .ok (.putfield 35, 3) := by decide +kernel
theorem dX15_init_28 : decode cX15_init 28 = .ok (.aload_n 0, 1) := by decide +kernel
theorem dX15_init_29 : decode cX15_init 29 = .ok (.bipush 36, 2) := by decide +kernel
theorem dX15_init_31 : decode cX15_init 31 = .ok (.newarray .int, 2) := by decide +kernel
theorem f15_3 : TX15 3 = (RX15, "actKind", "[I", true) := by decide +kernel
theorem dX15_init_33 : decode cX15_init 33 = .ok (.putfield 38, 3) := by decide +kernel
theorem dX15_init_36 : decode cX15_init 36 = .ok (.aload_n 0, 1) := by decide +kernel
theorem dX15_init_37 : decode cX15_init 37 = .ok (.bipush 36, 2) := by decide +kernel
theorem dX15_init_39 : decode cX15_init 39 = .ok (.newarray .int, 2) := by decide +kernel
theorem f15_4 : TX15 4 = (RX15, "actTerm", "[I", true) := by decide +kernel
theorem dX15_init_41 : decode cX15_init 41 = .ok (.putfield 41, 3) := by decide +kernel
theorem dX15_init_44 : decode cX15_init 44 = .ok (.aload_n 0, 1) := by decide +kernel
theorem dX15_init_45 : decode cX15_init 45 = .ok (.sipush 8800, 3) := by decide +kernel
theorem dX15_init_48 : decode cX15_init 48 = .ok (.newarray .int, 2) := by decide +kernel
theorem f15_6 : TX15 6 = (RX15, "sort", "[I", true) := by decide +kernel
theorem k_10_194 : Jvm.Cond.fieldLink "FinderHouseModel" (50 : Nat) "FinderHouseModel" "sort" "[I" ∈ tb := tb10 194 (by decide +kernel) (by decide +kernel)
theorem dX15_init_50 : decode cX15_init 50 = .ok (.putfield 50, 3) := by decide +kernel
theorem dX15_init_53 : decode cX15_init 53 = .ok (.aload_n 0, 1) := by decide +kernel
theorem dX15_init_54 : decode cX15_init 54 = .ok (.sipush 8800, 3) := by decide +kernel
theorem dX15_init_57 : decode cX15_init 57 = .ok (.newarray .int, 2) := by decide +kernel
theorem f15_7 : TX15 7 = (RX15, "kind", "[I", true) := by decide +kernel
theorem k_10_195 : Jvm.Cond.fieldLink "FinderHouseModel" (53 : Nat) "FinderHouseModel" "kind" "[I" ∈ tb := tb10 195 (by decide +kernel) (by decide +kernel)
theorem dX15_init_59 : decode cX15_init 59 = .ok (.putfield 53, 3) := by decide +kernel
theorem dX15_init_62 : decode cX15_init 62 = .ok (.aload_n 0, 1) := by decide +kernel
theorem dX15_init_63 : decode cX15_init 63 = .ok (.sipush 8800, 3) := by decide +kernel
theorem dX15_init_66 : decode cX15_init 66 = .ok (.newarray .int, 2) := by decide +kernel
theorem f15_8 : TX15 8 = (RX15, "value", "[I", true) := by decide +kernel
theorem k_10_196 : Jvm.Cond.fieldLink "FinderHouseModel" (56 : Nat) "FinderHouseModel" "value" "[I" ∈ tb := tb10 196 (by decide +kernel) (by decide +kernel)
theorem dX15_init_68 : decode cX15_init 68 = .ok (.putfield 56, 3) := by decide +kernel
theorem dX15_init_71 : decode cX15_init 71 = .ok (.aload_n 0, 1) := by decide +kernel
theorem dX15_init_72 : decode cX15_init 72 = .ok (.sipush 8800, 3) := by decide +kernel
theorem dX15_init_75 : decode cX15_init 75 = .ok (.newarray .int, 2) := by decide +kernel
theorem f15_9 : TX15 9 = (RX15, "act", "[I", true) := by decide +kernel
theorem k_10_197 : Jvm.Cond.fieldLink "FinderHouseModel" (59 : Nat) "FinderHouseModel" "act" "[I" ∈ tb := tb10 197 (by decide +kernel) (by decide +kernel)
theorem dX15_init_77 : decode cX15_init 77 = .ok (.putfield 59, 3) := by decide +kernel
theorem dX15_init_80 : decode cX15_init 80 = .ok (.aload_n 0, 1) := by decide +kernel
theorem dX15_init_81 : decode cX15_init 81 = .ok (.sipush 26400, 3) := by decide +kernel
theorem dX15_init_84 : decode cX15_init 84 = .ok (.newarray .int, 2) := by decide +kernel
theorem f15_10 : TX15 10 = (RX15, "kid", "[I", true) := by decide +kernel
theorem k_10_198 : Jvm.Cond.fieldLink "FinderHouseModel" (62 : Nat) "FinderHouseModel" "kid" "[I" ∈ tb := tb10 198 (by decide +kernel) (by decide +kernel)
theorem dX15_init_86 : decode cX15_init 86 = .ok (.putfield 62, 3) := by decide +kernel
theorem dX15_init_89 : decode cX15_init 89 = .ok (.aload_n 0, 1) := by decide +kernel
theorem dX15_init_90 : decode cX15_init 90 = .ok (.sipush 8800, 3) := by decide +kernel
theorem dX15_init_93 : decode cX15_init 93 = .ok (.newarray .int, 2) := by decide +kernel
theorem f15_11 : TX15 11 = (RX15, "kids", "[I", true) := by decide +kernel
theorem k_10_199 : Jvm.Cond.fieldLink "FinderHouseModel" (65 : Nat) "FinderHouseModel" "kids" "[I" ∈ tb := tb10 199 (by decide +kernel) (by decide +kernel)
theorem dX15_init_95 : decode cX15_init 95 = .ok (.putfield 65, 3) := by decide +kernel
theorem dX15_init_98 : decode cX15_init 98 = .ok (.aload_n 0, 1) := by decide +kernel
theorem dX15_init_99 : decode cX15_init 99 = .ok (.sipush 8800, 3) := by decide +kernel
theorem dX15_init_102 : decode cX15_init 102 = .ok (.newarray .int, 2) := by decide +kernel
theorem f15_12 : TX15 12 = (RX15, "extra", "[I", true) := by decide +kernel
theorem k_10_200 : Jvm.Cond.fieldLink "FinderHouseModel" (68 : Nat) "FinderHouseModel" "extra" "[I" ∈ tb := tb10 200 (by decide +kernel) (by decide +kernel)
theorem dX15_init_104 : decode cX15_init 104 = .ok (.putfield 68, 3) := by decide +kernel
theorem dX15_init_107 : decode cX15_init 107 = .ok (.aload_n 0, 1) := by decide +kernel
theorem dX15_init_108 : decode cX15_init 108 = .ok (.sipush 8800, 3) := by decide +kernel
theorem dX15_init_111 : decode cX15_init 111 = .ok (.newarray .int, 2) := by decide +kernel
theorem f15_13 : TX15 13 = (RX15, "beside", "[I", true) := by decide +kernel
theorem k_10_201 : Jvm.Cond.fieldLink "FinderHouseModel" (71 : Nat) "FinderHouseModel" "beside" "[I" ∈ tb := tb10 201 (by decide +kernel) (by decide +kernel)
theorem dX15_init_113 : decode cX15_init 113 = .ok (.putfield 71, 3) := by decide +kernel
theorem dX15_init_116 : decode cX15_init 116 = .ok (.aload_n 0, 1) := by decide +kernel
theorem dX15_init_117 : decode cX15_init 117 = .ok (.sipush 8800, 3) := by decide +kernel
theorem dX15_init_120 : decode cX15_init 120 = .ok (.newarray .int, 2) := by decide +kernel
theorem f15_14 : TX15 14 = (RX15, "place", "[I", true) := by decide +kernel
theorem k_10_202 : Jvm.Cond.fieldLink "FinderHouseModel" (74 : Nat) "FinderHouseModel" "place" "[I" ∈ tb := tb10 202 (by decide +kernel) (by decide +kernel)
theorem dX15_init_122 : decode cX15_init 122 = .ok (.putfield 74, 3) := by decide +kernel
theorem dX15_init_125 : decode cX15_init 125 = .ok (.aload_n 0, 1) := by decide +kernel
theorem dX15_init_126 : decode cX15_init 126 = .ok (.sipush 8800, 3) := by decide +kernel
theorem dX15_init_129 : decode cX15_init 129 = .ok (.newarray .int, 2) := by decide +kernel
theorem f15_15 : TX15 15 = (RX15, "price", "[I", true) := by decide +kernel
theorem k_10_203 : Jvm.Cond.fieldLink "FinderHouseModel" (77 : Nat) "FinderHouseModel" "price" "[I" ∈ tb := tb10 203 (by decide +kernel) (by decide +kernel)
theorem dX15_init_131 : decode cX15_init 131 = .ok (.putfield 77, 3) := by decide +kernel
theorem dX15_init_134 : decode cX15_init 134 = .ok (.aload_n 0, 1) := by decide +kernel
theorem dX15_init_135 : decode cX15_init 135 = .ok (.sipush 8800, 3) := by decide +kernel
theorem dX15_init_138 : decode cX15_init 138 = .ok (.newarray .long, 2) := by decide +kernel
theorem f15_16 : TX15 16 = (RX15, "name", "[J", true) := by decide +kernel
theorem k_10_204 : Jvm.Cond.fieldLink "FinderHouseModel" (80 : Nat) "FinderHouseModel" "name" "[J" ∈ tb := tb10 204 (by decide +kernel) (by decide +kernel)
theorem dX15_init_140 : decode cX15_init 140 = .ok (.putfield 80, 3) := by decide +kernel
theorem dX15_init_143 : decode cX15_init 143 = .ok (.aload_n 0, 1) := by decide +kernel
theorem dX15_init_144 : decode cX15_init 144 = .ok (.sipush 4000, 3) := by decide +kernel
theorem dX15_init_147 : decode cX15_init 147 = .ok (.newarray .int, 2) := by decide +kernel
theorem f15_18 : TX15 18 = (RX15, "made", "[I", true) := by decide +kernel
theorem dX15_init_149 : decode cX15_init 149 = .ok (.putfield 83, 3) := by decide +kernel
theorem dX15_init_152 : decode cX15_init 152 = .ok (.aload_n 0, 1) := by decide +kernel
theorem dX15_init_153 : decode cX15_init 153 = .ok (.iconst (-1), 1) := by decide +kernel
theorem f15_21 : TX15 21 = (RX15, "where", "I", false) := by decide +kernel
theorem pd_I : parseFieldDescriptor "I" = some (.int) := by decide +kernel
theorem k_10_209 : Jvm.Cond.fieldLink "FinderHouseModel" (86 : Nat) "FinderHouseModel" "where" "I" ∈ tb := tb10 209 (by decide +kernel) (by decide +kernel)
theorem dX15_init_154 : decode cX15_init 154 = .ok (.putfield 86, 3) := by decide +kernel
theorem dX15_init_157 : decode cX15_init 157 = .ok (.aload_n 0, 1) := by decide +kernel
theorem k_9_236 : Jvm.Cond.instantiable "FinderHouseModel$Bad" (8 : Nat) ∈ tb := tb9 236 (by decide +kernel) (by decide +kernel)
theorem k_1_21 : Jvm.Cond.initialized "FinderHouseModel$Bad" ∈ tb := tb1 21 (by decide +kernel) (by decide +kernel)
theorem dX15_init_158 : decode cX15_init 158 = .ok (.new 89, 3) := by decide +kernel
theorem dX15_init_161 : decode cX15_init 161 = .ok (.dup, 1) := by decide +kernel
theorem k_10_6 : Jvm.Cond.code ({ cls := "FinderHouseModel$Bad", name := "<init>", desc := "()V" } : Jvm.MethodName) prog_16_method_1_code (1 : Nat) (Option.none : Option Jvm.ClassFile.FieldType) ∈ tb := tb10 6 (by decide +kernel) (by decide +kernel)
theorem k_10_4 : Jvm.Cond.methodLink "FinderHouseModel" (91 : Nat) ({ cls := "FinderHouseModel$Bad", name := "<init>", desc := "()V" } : Jvm.MethodName) ∈ tb := tb10 4 (by decide +kernel) (by decide +kernel)
theorem k_10_5 : Jvm.Cond.instanceMethod ({ cls := "FinderHouseModel$Bad", name := "<init>", desc := "()V" } : Jvm.MethodName) ∈ tb := tb10 5 (by decide +kernel) (by decide +kernel)
theorem dX15_init_162 : decode cX15_init 162 = .ok (.invokespecial 91, 3) := by decide +kernel
theorem f15_23 : TX15 23 = (RX15, "bad", "LFinderHouseModel$Bad;", true) := by decide +kernel
theorem pd_LFinderHouseModel_Bad_ : parseFieldDescriptor "LFinderHouseModel$Bad;" = some (.object "FinderHouseModel$Bad") := by decide +kernel
theorem dX15_init_165 : decode cX15_init 165 = .ok (.putfield 92, 3) := by decide +kernel
theorem dX15_init_168 : decode cX15_init 168 = .ok (.aload_n 0, 1) := by decide +kernel
theorem dX15_init_169 : decode cX15_init 169 = .ok (.sipush 2000, 3) := by decide +kernel
theorem dX15_init_172 : decode cX15_init 172 = .ok (.newarray .int, 2) := by decide +kernel
theorem f15_24 : TX15 24 = (RX15, "text", "[I", true) := by decide +kernel
theorem k_10_212 : Jvm.Cond.fieldLink "FinderHouseModel" (96 : Nat) "FinderHouseModel" "text" "[I" ∈ tb := tb10 212 (by decide +kernel) (by decide +kernel)
theorem dX15_init_174 : decode cX15_init 174 = .ok (.putfield 96, 3) := by decide +kernel
theorem dX15_init_177 : decode cX15_init 177 = .ok (.aload_n 0, 1) := by decide +kernel
theorem dX15_init_178 : decode cX15_init 178 = .ok (.iconst 3, 1) := by decide +kernel
theorem dX15_init_179 : decode cX15_init 179 = .ok (.newarray .long, 2) := by decide +kernel
theorem f15_32 : TX15 32 = (RX15, "names", "[J", true) := by decide +kernel
theorem k_10_220 : Jvm.Cond.fieldLink "FinderHouseModel" (99 : Nat) "FinderHouseModel" "names" "[J" ∈ tb := tb10 220 (by decide +kernel) (by decide +kernel)
theorem dX15_init_181 : decode cX15_init 181 = .ok (.putfield 99, 3) := by decide +kernel
theorem dX15_init_184 : decode cX15_init 184 = .ok (.aload_n 0, 1) := by decide +kernel
theorem dX15_init_185 : decode cX15_init 185 = .ok (.iconst 3, 1) := by decide +kernel
theorem dX15_init_186 : decode cX15_init 186 = .ok (.newarray .int, 2) := by decide +kernel
theorem f15_33 : TX15 33 = (RX15, "nameKinds", "[I", true) := by decide +kernel
theorem k_10_221 : Jvm.Cond.fieldLink "FinderHouseModel" (102 : Nat) "FinderHouseModel" "nameKinds" "[I" ∈ tb := tb10 221 (by decide +kernel) (by decide +kernel)
theorem dX15_init_188 : decode cX15_init 188 = .ok (.putfield 102, 3) := by decide +kernel
theorem dX15_init_191 : decode cX15_init 191 = .ok (.aload_n 0, 1) := by decide +kernel
theorem k_10_24 : Jvm.Cond.classLink "FinderHouseModel" (105 : Nat) "FinderHouseModel$Ask" ∈ tb := tb10 24 (by decide +kernel) (by decide +kernel)
theorem k_10_25 : Jvm.Cond.instantiable "FinderHouseModel$Ask" (28 : Nat) ∈ tb := tb10 25 (by decide +kernel) (by decide +kernel)
theorem k_1_22 : Jvm.Cond.initialized "FinderHouseModel$Ask" ∈ tb := tb1 22 (by decide +kernel) (by decide +kernel)
theorem dX15_init_192 : decode cX15_init 192 = .ok (.new 105, 3) := by decide +kernel
theorem dX15_init_195 : decode cX15_init 195 = .ok (.dup, 1) := by decide +kernel
theorem dX15_init_196 : decode cX15_init 196 = .ok (.iconst 0, 1) := by decide +kernel
theorem dX15_init_197 : decode cX15_init 197 = .ok (.sipush 8500, 3) := by decide +kernel
theorem k_10_28 : Jvm.Cond.code ({ cls := "FinderHouseModel$Ask", name := "<init>", desc := "(II)V" } : Jvm.MethodName) prog_15_method_1_code (3 : Nat) (Option.none : Option Jvm.ClassFile.FieldType) ∈ tb := tb10 28 (by decide +kernel) (by decide +kernel)
theorem k_10_26 : Jvm.Cond.methodLink "FinderHouseModel" (107 : Nat) ({ cls := "FinderHouseModel$Ask", name := "<init>", desc := "(II)V" } : Jvm.MethodName) ∈ tb := tb10 26 (by decide +kernel) (by decide +kernel)
theorem k_10_27 : Jvm.Cond.instanceMethod ({ cls := "FinderHouseModel$Ask", name := "<init>", desc := "(II)V" } : Jvm.MethodName) ∈ tb := tb10 27 (by decide +kernel) (by decide +kernel)
theorem dX15_init_200 : decode cX15_init 200 = .ok (.invokespecial 107, 3) := by decide +kernel
theorem f15_36 : TX15 36 = (RX15, "first", "LFinderHouseModel$Ask;", true) := by decide +kernel
theorem pd_LFinderHouseModel_Ask_ : parseFieldDescriptor "LFinderHouseModel$Ask;" = some (.object "FinderHouseModel$Ask") := by decide +kernel
theorem dX15_init_203 : decode cX15_init 203 = .ok (.putfield 110, 3) := by decide +kernel
theorem dX15_init_206 : decode cX15_init 206 = .ok (.aload_n 0, 1) := by decide +kernel
theorem dX15_init_207 : decode cX15_init 207 = .ok (.new 105, 3) := by decide +kernel
theorem dX15_init_210 : decode cX15_init 210 = .ok (.dup, 1) := by decide +kernel
theorem dX15_init_211 : decode cX15_init 211 = .ok (.sipush 1100, 3) := by decide +kernel
theorem dX15_init_214 : decode cX15_init 214 = .ok (.sipush 8650, 3) := by decide +kernel
theorem dX15_init_217 : decode cX15_init 217 = .ok (.invokespecial 107, 3) := by decide +kernel
theorem f15_37 : TX15 37 = (RX15, "second", "LFinderHouseModel$Ask;", true) := by decide +kernel
theorem k_10_225 : Jvm.Cond.fieldLink "FinderHouseModel" (114 : Nat) "FinderHouseModel" "second" "LFinderHouseModel$Ask;" ∈ tb := tb10 225 (by decide +kernel) (by decide +kernel)
theorem dX15_init_220 : decode cX15_init 220 = .ok (.putfield 114, 3) := by decide +kernel
theorem dX15_init_223 : decode cX15_init 223 = .ok (.aload_n 0, 1) := by decide +kernel
theorem dX15_init_224 : decode cX15_init 224 = .ok (.sipush 256, 3) := by decide +kernel
theorem dX15_init_227 : decode cX15_init 227 = .ok (.newarray .int, 2) := by decide +kernel
theorem f15_39 : TX15 39 = (RX15, "trial", "[I", true) := by decide +kernel
theorem k_10_227 : Jvm.Cond.fieldLink "FinderHouseModel" (117 : Nat) "FinderHouseModel" "trial" "[I" ∈ tb := tb10 227 (by decide +kernel) (by decide +kernel)
theorem dX15_init_229 : decode cX15_init 229 = .ok (.putfield 117, 3) := by decide +kernel
theorem dX15_init_232 : decode cX15_init 232 = .ok (.aload_n 0, 1) := by decide +kernel
theorem dX15_init_233 : decode cX15_init 233 = .ok (.bipush 13, 2) := by decide +kernel
theorem dX15_init_235 : decode cX15_init 235 = .ok (.bipush 122, 2) := by decide +kernel
theorem k_10_135 : Jvm.Cond.classLink "FinderHouseModel" (120 : Nat) "[[J" ∈ tb := tb10 135 (by decide +kernel) (by decide +kernel)
theorem dX15_init_237 : decode cX15_init 237 = .ok (.multianewarray 120 2, 4) := by decide +kernel
theorem f15_41 : TX15 41 = (RX15, "many", "[[J", true) := by decide +kernel
theorem pd_AAJ : parseFieldDescriptor "[[J" = some (.array (.array .long)) := by decide +kernel
theorem k_10_229 : Jvm.Cond.fieldLink "FinderHouseModel" (122 : Nat) "FinderHouseModel" "many" "[[J" ∈ tb := tb10 229 (by decide +kernel) (by decide +kernel)
theorem dX15_init_241 : decode cX15_init 241 = .ok (.putfield 122, 3) := by decide +kernel
theorem dX15_init_244 : decode cX15_init 244 = .ok (.aload_n 0, 1) := by decide +kernel
theorem dX15_init_245 : decode cX15_init 245 = .ok (.bipush 16, 2) := by decide +kernel
theorem dX15_init_247 : decode cX15_init 247 = .ok (.bipush 122, 2) := by decide +kernel
theorem dX15_init_249 : decode cX15_init 249 = .ok (.multianewarray 120 2, 4) := by decide +kernel
theorem f15_42 : TX15 42 = (RX15, "weights", "[[J", true) := by decide +kernel
theorem k_10_230 : Jvm.Cond.fieldLink "FinderHouseModel" (125 : Nat) "FinderHouseModel" "weights" "[[J" ∈ tb := tb10 230 (by decide +kernel) (by decide +kernel)
theorem dX15_init_253 : decode cX15_init 253 = .ok (.putfield 125, 3) := by decide +kernel
theorem dX15_init_256 : decode cX15_init 256 = .ok (.aload_n 0, 1) := by decide +kernel
theorem k_10_137 : Jvm.Cond.constant "FinderHouseModel" (128 : Nat) (518400 : Int32) ∈ tb := tb10 137 (by decide +kernel) (by decide +kernel)
theorem dX15_init_257 : decode cX15_init 257 = .ok (.ldc 128, 2) := by decide +kernel
theorem dX15_init_259 : decode cX15_init 259 = .ok (.newarray .int, 2) := by decide +kernel
theorem f15_45 : TX15 45 = (RX15, "ofTwo", "[I", true) := by decide +kernel
theorem k_10_233 : Jvm.Cond.fieldLink "FinderHouseModel" (129 : Nat) "FinderHouseModel" "ofTwo" "[I" ∈ tb := tb10 233 (by decide +kernel) (by decide +kernel)
theorem dX15_init_261 : decode cX15_init 261 = .ok (.putfield 129, 3) := by decide +kernel
theorem dX15_init_264 : decode cX15_init 264 = .ok (.aload_n 0, 1) := by decide +kernel
theorem k_10_138 : Jvm.Cond.constant "FinderHouseModel" (132 : Nat) (256000 : Int32) ∈ tb := tb10 138 (by decide +kernel) (by decide +kernel)
theorem dX15_init_265 : decode cX15_init 265 = .ok (.ldc 132, 2) := by decide +kernel
theorem dX15_init_267 : decode cX15_init 267 = .ok (.newarray .int, 2) := by decide +kernel
theorem f15_46 : TX15 46 = (RX15, "ofThree", "[I", true) := by decide +kernel
theorem k_10_234 : Jvm.Cond.fieldLink "FinderHouseModel" (133 : Nat) "FinderHouseModel" "ofThree" "[I" ∈ tb := tb10 234 (by decide +kernel) (by decide +kernel)
theorem dX15_init_269 : decode cX15_init 269 = .ok (.putfield 133, 3) := by decide +kernel
theorem dX15_init_272 : decode cX15_init 272 = .ok (.aload_n 0, 1) := by decide +kernel
theorem dX15_init_273 : decode cX15_init 273 = .ok (.bipush 122, 2) := by decide +kernel
theorem dX15_init_275 : decode cX15_init 275 = .ok (.newarray .int, 2) := by decide +kernel
theorem f15_47 : TX15 47 = (RX15, "rank", "[I", true) := by decide +kernel
theorem k_10_235 : Jvm.Cond.fieldLink "FinderHouseModel" (136 : Nat) "FinderHouseModel" "rank" "[I" ∈ tb := tb10 235 (by decide +kernel) (by decide +kernel)
theorem dX15_init_277 : decode cX15_init 277 = .ok (.putfield 136, 3) := by decide +kernel
theorem dX15_init_280 : decode cX15_init 280 = .ok (.aload_n 0, 1) := by decide +kernel
theorem dX15_init_281 : decode cX15_init 281 = .ok (.iconst 3, 1) := by decide +kernel
theorem dX15_init_282 : decode cX15_init 282 = .ok (.newarray .int, 2) := by decide +kernel
theorem f15_48 : TX15 48 = (RX15, "ofKind", "[I", true) := by decide +kernel
theorem k_10_236 : Jvm.Cond.fieldLink "FinderHouseModel" (139 : Nat) "FinderHouseModel" "ofKind" "[I" ∈ tb := tb10 236 (by decide +kernel) (by decide +kernel)
theorem dX15_init_284 : decode cX15_init 284 = .ok (.putfield 139, 3) := by decide +kernel
theorem dX15_init_287 : decode cX15_init 287 = .ok (.aload_n 0, 1) := by decide +kernel
theorem dX15_init_288 : decode cX15_init 288 = .ok (.sipush 2000, 3) := by decide +kernel
theorem dX15_init_291 : decode cX15_init 291 = .ok (.newarray .int, 2) := by decide +kernel
theorem f15_52 : TX15 52 = (RX15, "tape", "[I", true) := by decide +kernel
theorem dX15_init_293 : decode cX15_init 293 = .ok (.putfield 142, 3) := by decide +kernel
theorem dX15_init_296 : decode cX15_init 296 = .ok (.aload_n 0, 1) := by decide +kernel
theorem dX15_init_297 : decode cX15_init 297 = .ok (.iconst (-1), 1) := by decide +kernel
theorem f15_55 : TX15 55 = (RX15, "placeOf", "I", false) := by decide +kernel
theorem dX15_init_298 : decode cX15_init 298 = .ok (.putfield 145, 3) := by decide +kernel
theorem dX15_init_301 : decode cX15_init 301 = .ok (.aload_n 0, 1) := by decide +kernel
theorem dX15_init_302 : decode cX15_init 302 = .ok (.iconst (-1), 1) := by decide +kernel
theorem f15_56 : TX15 56 = (RX15, "theTerm", "I", false) := by decide +kernel
theorem dX15_init_303 : decode cX15_init 303 = .ok (.putfield 148, 3) := by decide +kernel
theorem dX15_init_306 : decode cX15_init 306 = .ok (.aload_n 0, 1) := by decide +kernel
theorem dX15_init_307 : decode cX15_init 307 = .ok (.iconst 3, 1) := by decide +kernel
theorem dX15_init_308 : decode cX15_init 308 = .ok (.newarray .int, 2) := by decide +kernel
theorem f15_57 : TX15 57 = (RX15, "theKinds", "[I", true) := by decide +kernel
theorem k_11_5 : Jvm.Cond.fieldLink "FinderHouseModel" (151 : Nat) "FinderHouseModel" "theKinds" "[I" ∈ tb := tb11 5 (by decide +kernel) (by decide +kernel)
theorem dX15_init_310 : decode cX15_init 310 = .ok (.putfield 151, 3) := by decide +kernel
theorem dX15_init_313 : decode cX15_init 313 = .ok (.aload_n 0, 1) := by decide +kernel
theorem dX15_init_314 : decode cX15_init 314 = .ok (.sipush 256, 3) := by decide +kernel
theorem dX15_init_317 : decode cX15_init 317 = .ok (.newarray .int, 2) := by decide +kernel
theorem f15_59 : TX15 59 = (RX15, "theAnswers", "[I", true) := by decide +kernel
theorem k_11_7 : Jvm.Cond.fieldLink "FinderHouseModel" (154 : Nat) "FinderHouseModel" "theAnswers" "[I" ∈ tb := tb11 7 (by decide +kernel) (by decide +kernel)
theorem dX15_init_319 : decode cX15_init 319 = .ok (.putfield 154, 3) := by decide +kernel
theorem dX15_init_322 : decode cX15_init 322 = .ok (.aload_n 0, 1) := by decide +kernel
theorem dX15_init_323 : decode cX15_init 323 = .ok (.sipush 4000, 3) := by decide +kernel
theorem dX15_init_326 : decode cX15_init 326 = .ok (.newarray .int, 2) := by decide +kernel
theorem f15_61 : TX15 61 = (RX15, "theText", "[I", true) := by decide +kernel
theorem k_11_9 : Jvm.Cond.fieldLink "FinderHouseModel" (157 : Nat) "FinderHouseModel" "theText" "[I" ∈ tb := tb11 9 (by decide +kernel) (by decide +kernel)
theorem dX15_init_328 : decode cX15_init 328 = .ok (.putfield 157, 3) := by decide +kernel
theorem dX15_init_331 : decode cX15_init 331 = .ok (.aload_n 0, 1) := by decide +kernel
theorem dX15_init_332 : decode cX15_init 332 = .ok (.iconst (-1), 1) := by decide +kernel
theorem f15_63 : TX15 63 = (RX15, "mended", "I", false) := by decide +kernel
theorem dX15_init_333 : decode cX15_init 333 = .ok (.putfield 160, 3) := by decide +kernel
theorem dX15_init_336 : decode cX15_init 336 = .ok (.aload_n 0, 1) := by decide +kernel
theorem dX15_init_337 : decode cX15_init 337 = .ok (.iconst 3, 1) := by decide +kernel
theorem dX15_init_338 : decode cX15_init 338 = .ok (.newarray .int, 2) := by decide +kernel
theorem f15_65 : TX15 65 = (RX15, "kindsRead", "[I", true) := by decide +kernel
theorem k_11_13 : Jvm.Cond.fieldLink "FinderHouseModel" (163 : Nat) "FinderHouseModel" "kindsRead" "[I" ∈ tb := tb11 13 (by decide +kernel) (by decide +kernel)
theorem dX15_init_340 : decode cX15_init 340 = .ok (.putfield 163, 3) := by decide +kernel
theorem dX15_init_343 : decode cX15_init 343 = .ok (.aload_n 0, 1) := by decide +kernel
theorem dX15_init_344 : decode cX15_init 344 = .ok (.bipush 122, 2) := by decide +kernel
theorem dX15_init_346 : decode cX15_init 346 = .ok (.newarray .boolean, 2) := by decide +kernel
theorem f15_70 : TX15 70 = (RX15, "meeting", "[Z", true) := by decide +kernel
theorem pd_AZ : parseFieldDescriptor "[Z" = some (.array .boolean) := by decide +kernel
theorem k_11_18 : Jvm.Cond.fieldLink "FinderHouseModel" (166 : Nat) "FinderHouseModel" "meeting" "[Z" ∈ tb := tb11 18 (by decide +kernel) (by decide +kernel)
theorem dX15_init_348 : decode cX15_init 348 = .ok (.putfield 166, 3) := by decide +kernel
theorem dX15_init_351 : decode cX15_init 351 = .ok (.aload_n 0, 1) := by decide +kernel
theorem dX15_init_352 : decode cX15_init 352 = .ok (.sipush 400, 3) := by decide +kernel
theorem dX15_init_355 : decode cX15_init 355 = .ok (.newarray .int, 2) := by decide +kernel
theorem f15_72 : TX15 72 = (RX15, "placed", "[I", true) := by decide +kernel
theorem k_11_20 : Jvm.Cond.fieldLink "FinderHouseModel" (170 : Nat) "FinderHouseModel" "placed" "[I" ∈ tb := tb11 20 (by decide +kernel) (by decide +kernel)
theorem dX15_init_357 : decode cX15_init 357 = .ok (.putfield 170, 3) := by decide +kernel
theorem dX15_init_360 : decode cX15_init 360 = .ok (.aload_n 0, 1) := by decide +kernel
theorem dX15_init_361 : decode cX15_init 361 = .ok (.bipush 12, 2) := by decide +kernel
theorem dX15_init_363 : decode cX15_init 363 = .ok (.newarray .int, 2) := by decide +kernel
theorem f15_74 : TX15 74 = (RX15, "keptTerm", "[I", true) := by decide +kernel
theorem k_11_22 : Jvm.Cond.fieldLink "FinderHouseModel" (173 : Nat) "FinderHouseModel" "keptTerm" "[I" ∈ tb := tb11 22 (by decide +kernel) (by decide +kernel)
theorem dX15_init_365 : decode cX15_init 365 = .ok (.putfield 173, 3) := by decide +kernel
theorem dX15_init_368 : decode cX15_init 368 = .ok (.aload_n 0, 1) := by decide +kernel
theorem dX15_init_369 : decode cX15_init 369 = .ok (.bipush 36, 2) := by decide +kernel
theorem dX15_init_371 : decode cX15_init 371 = .ok (.newarray .int, 2) := by decide +kernel
theorem f15_75 : TX15 75 = (RX15, "keptKinds", "[I", true) := by decide +kernel
theorem k_11_23 : Jvm.Cond.fieldLink "FinderHouseModel" (176 : Nat) "FinderHouseModel" "keptKinds" "[I" ∈ tb := tb11 23 (by decide +kernel) (by decide +kernel)
theorem dX15_init_373 : decode cX15_init 373 = .ok (.putfield 176, 3) := by decide +kernel
theorem dX15_init_376 : decode cX15_init 376 = .ok (.aload_n 0, 1) := by decide +kernel
theorem dX15_init_377 : decode cX15_init 377 = .ok (.bipush 12, 2) := by decide +kernel
theorem dX15_init_379 : decode cX15_init 379 = .ok (.newarray .int, 2) := by decide +kernel
theorem f15_76 : TX15 76 = (RX15, "keptKindMany", "[I", true) := by decide +kernel
theorem k_11_24 : Jvm.Cond.fieldLink "FinderHouseModel" (179 : Nat) "FinderHouseModel" "keptKindMany" "[I" ∈ tb := tb11 24 (by decide +kernel) (by decide +kernel)
theorem dX15_init_381 : decode cX15_init 381 = .ok (.putfield 179, 3) := by decide +kernel
theorem dX15_init_384 : decode cX15_init 384 = .ok (.aload_n 0, 1) := by decide +kernel
theorem dX15_init_385 : decode cX15_init 385 = .ok (.bipush 64, 2) := by decide +kernel
theorem dX15_init_387 : decode cX15_init 387 = .ok (.newarray .int, 2) := by decide +kernel
theorem f15_79 : TX15 79 = (RX15, "lefts", "[I", true) := by decide +kernel
theorem k_11_27 : Jvm.Cond.fieldLink "FinderHouseModel" (182 : Nat) "FinderHouseModel" "lefts" "[I" ∈ tb := tb11 27 (by decide +kernel) (by decide +kernel)
theorem dX15_init_389 : decode cX15_init 389 = .ok (.putfield 182, 3) := by decide +kernel
theorem dX15_init_392 : decode cX15_init 392 = .ok (.aload_n 0, 1) := by decide +kernel
theorem dX15_init_393 : decode cX15_init 393 = .ok (.bipush 64, 2) := by decide +kernel
theorem dX15_init_395 : decode cX15_init 395 = .ok (.newarray .int, 2) := by decide +kernel
theorem f15_80 : TX15 80 = (RX15, "rights", "[I", true) := by decide +kernel
theorem k_11_28 : Jvm.Cond.fieldLink "FinderHouseModel" (185 : Nat) "FinderHouseModel" "rights" "[I" ∈ tb := tb11 28 (by decide +kernel) (by decide +kernel)
theorem dX15_init_397 : decode cX15_init 397 = .ok (.putfield 185, 3) := by decide +kernel
theorem dX15_init_400 : decode cX15_init 400 = .ok (.aload_n 0, 1) := by decide +kernel
theorem dX15_init_401 : decode cX15_init 401 = .ok (.bipush 80, 2) := by decide +kernel
theorem dX15_init_403 : decode cX15_init 403 = .ok (.newarray .int, 2) := by decide +kernel
theorem f15_82 : TX15 82 = (RX15, "bound", "[I", true) := by decide +kernel
theorem k_11_30 : Jvm.Cond.fieldLink "FinderHouseModel" (188 : Nat) "FinderHouseModel" "bound" "[I" ∈ tb := tb11 30 (by decide +kernel) (by decide +kernel)
theorem dX15_init_405 : decode cX15_init 405 = .ok (.putfield 188, 3) := by decide +kernel
theorem dX15_init_408 : decode cX15_init 408 = .ok (.aload_n 0, 1) := by decide +kernel
theorem dX15_init_409 : decode cX15_init 409 = .ok (.sipush 4000, 3) := by decide +kernel
theorem dX15_init_412 : decode cX15_init 412 = .ok (.newarray .int, 2) := by decide +kernel
theorem f15_86 : TX15 86 = (RX15, "bestText", "[I", true) := by decide +kernel
theorem k_11_34 : Jvm.Cond.fieldLink "FinderHouseModel" (191 : Nat) "FinderHouseModel" "bestText" "[I" ∈ tb := tb11 34 (by decide +kernel) (by decide +kernel)
theorem dX15_init_414 : decode cX15_init 414 = .ok (.putfield 191, 3) := by decide +kernel
theorem dX15_init_417 : decode cX15_init 417 = .ok (.aload_n 0, 1) := by decide +kernel
theorem dX15_init_418 : decode cX15_init 418 = .ok (.iconst 2, 1) := by decide +kernel
theorem dX15_init_419 : decode cX15_init 419 = .ok (.newarray .int, 2) := by decide +kernel
theorem f15_88 : TX15 88 = (RX15, "bestKinds", "[I", true) := by decide +kernel
theorem k_11_36 : Jvm.Cond.fieldLink "FinderHouseModel" (194 : Nat) "FinderHouseModel" "bestKinds" "[I" ∈ tb := tb11 36 (by decide +kernel) (by decide +kernel)
theorem dX15_init_421 : decode cX15_init 421 = .ok (.putfield 194, 3) := by decide +kernel
theorem dX15_init_424 : decode cX15_init 424 = .ok (.aload_n 0, 1) := by decide +kernel
theorem k_10_139 : Jvm.Cond.classLink "FinderHouseModel" (197 : Nat) "FinderHouseModel$Loop" ∈ tb := tb10 139 (by decide +kernel) (by decide +kernel)
theorem k_10_140 : Jvm.Cond.instantiable "FinderHouseModel$Loop" (9 : Nat) ∈ tb := tb10 140 (by decide +kernel) (by decide +kernel)
theorem k_1_23 : Jvm.Cond.initialized "FinderHouseModel$Loop" ∈ tb := tb1 23 (by decide +kernel) (by decide +kernel)
theorem dX15_init_425 : decode cX15_init 425 = .ok (.new 197, 3) := by decide +kernel
theorem dX15_init_428 : decode cX15_init 428 = .ok (.dup, 1) := by decide +kernel
theorem dX15_init_429 : decode cX15_init 429 = .ok (.sipush 2200, 3) := by decide +kernel
theorem k_10_143 : Jvm.Cond.code ({ cls := "FinderHouseModel$Loop", name := "<init>", desc := "(I)V" } : Jvm.MethodName) prog_17_method_1_code (2 : Nat) (Option.none : Option Jvm.ClassFile.FieldType) ∈ tb := tb10 143 (by decide +kernel) (by decide +kernel)
theorem k_10_141 : Jvm.Cond.methodLink "FinderHouseModel" (199 : Nat) ({ cls := "FinderHouseModel$Loop", name := "<init>", desc := "(I)V" } : Jvm.MethodName) ∈ tb := tb10 141 (by decide +kernel) (by decide +kernel)
theorem k_10_142 : Jvm.Cond.instanceMethod ({ cls := "FinderHouseModel$Loop", name := "<init>", desc := "(I)V" } : Jvm.MethodName) ∈ tb := tb10 142 (by decide +kernel) (by decide +kernel)
theorem dX15_init_432 : decode cX15_init 432 = .ok (.invokespecial 199, 3) := by decide +kernel
theorem f15_90 : TX15 90 = (RX15, "one", "LFinderHouseModel$Loop;", true) := by decide +kernel
theorem pd_LFinderHouseModel_Loop_ : parseFieldDescriptor "LFinderHouseModel$Loop;" = some (.object "FinderHouseModel$Loop") := by decide +kernel
theorem dX15_init_435 : decode cX15_init 435 = .ok (.putfield 202, 3) := by decide +kernel
theorem dX15_init_438 : decode cX15_init 438 = .ok (.aload_n 0, 1) := by decide +kernel
theorem dX15_init_439 : decode cX15_init 439 = .ok (.new 197, 3) := by decide +kernel
theorem dX15_init_442 : decode cX15_init 442 = .ok (.dup, 1) := by decide +kernel
theorem dX15_init_443 : decode cX15_init 443 = .ok (.sipush 3300, 3) := by decide +kernel
theorem dX15_init_446 : decode cX15_init 446 = .ok (.invokespecial 199, 3) := by decide +kernel
theorem f15_91 : TX15 91 = (RX15, "other", "LFinderHouseModel$Loop;", true) := by decide +kernel
theorem k_11_39 : Jvm.Cond.fieldLink "FinderHouseModel" (206 : Nat) "FinderHouseModel" "other" "LFinderHouseModel$Loop;" ∈ tb := tb11 39 (by decide +kernel) (by decide +kernel)
theorem dX15_init_449 : decode cX15_init 449 = .ok (.putfield 206, 3) := by decide +kernel
theorem dX15_init_452 : decode cX15_init 452 = .ok (.aload_n 0, 1) := by decide +kernel
theorem dX15_init_453 : decode cX15_init 453 = .ok (.sipush 4096, 3) := by decide +kernel
theorem dX15_init_456 : decode cX15_init 456 = .ok (.newarray .int, 2) := by decide +kernel
theorem f15_96 : TX15 96 = (RX15, "marks", "[I", true) := by decide +kernel
theorem k_11_44 : Jvm.Cond.fieldLink "FinderHouseModel" (209 : Nat) "FinderHouseModel" "marks" "[I" ∈ tb := tb11 44 (by decide +kernel) (by decide +kernel)
theorem dX15_init_458 : decode cX15_init 458 = .ok (.putfield 209, 3) := by decide +kernel
theorem dX15_init_461 : decode cX15_init 461 = .ok (.aload_n 0, 1) := by decide +kernel
theorem dX15_init_462 : decode cX15_init 462 = .ok (.sipush 4096, 3) := by decide +kernel
theorem dX15_init_465 : decode cX15_init 465 = .ok (.newarray .int, 2) := by decide +kernel
theorem f15_98 : TX15 98 = (RX15, "union", "[I", true) := by decide +kernel
theorem k_11_46 : Jvm.Cond.fieldLink "FinderHouseModel" (212 : Nat) "FinderHouseModel" "union" "[I" ∈ tb := tb11 46 (by decide +kernel) (by decide +kernel)
theorem dX15_init_467 : decode cX15_init 467 = .ok (.putfield 212, 3) := by decide +kernel
theorem dX15_init_470 : decode cX15_init 470 = .ok (.aload_n 0, 1) := by decide +kernel
theorem dX15_init_471 : decode cX15_init 471 = .ok (.bipush 8, 2) := by decide +kernel
theorem dX15_init_473 : decode cX15_init 473 = .ok (.newarray .int, 2) := by decide +kernel
theorem f15_110 : TX15 110 = (RX15, "inSize", "[I", true) := by decide +kernel
theorem k_11_58 : Jvm.Cond.fieldLink "FinderHouseModel" (215 : Nat) "FinderHouseModel" "inSize" "[I" ∈ tb := tb11 58 (by decide +kernel) (by decide +kernel)
theorem dX15_init_475 : decode cX15_init 475 = .ok (.putfield 215, 3) := by decide +kernel
theorem dX15_init_478 : decode cX15_init 478 = .ok (.aload_n 0, 1) := by decide +kernel
theorem dX15_init_479 : decode cX15_init 479 = .ok (.bipush 8, 2) := by decide +kernel
theorem dX15_init_481 : decode cX15_init 481 = .ok (.newarray .int, 2) := by decide +kernel
theorem f15_111 : TX15 111 = (RX15, "outSize", "[I", true) := by decide +kernel
theorem k_11_59 : Jvm.Cond.fieldLink "FinderHouseModel" (218 : Nat) "FinderHouseModel" "outSize" "[I" ∈ tb := tb11 59 (by decide +kernel) (by decide +kernel)
theorem dX15_init_483 : decode cX15_init 483 = .ok (.putfield 218, 3) := by decide +kernel
theorem dX15_init_486 : decode cX15_init 486 = .ok (.aload_n 0, 1) := by decide +kernel
theorem dX15_init_487 : decode cX15_init 487 = .ok (.bipush 80, 2) := by decide +kernel
theorem dX15_init_489 : decode cX15_init 489 = .ok (.newarray .int, 2) := by decide +kernel
theorem f15_112 : TX15 112 = (RX15, "inLetter", "[I", true) := by decide +kernel
theorem k_11_60 : Jvm.Cond.fieldLink "FinderHouseModel" (221 : Nat) "FinderHouseModel" "inLetter" "[I" ∈ tb := tb11 60 (by decide +kernel) (by decide +kernel)
theorem dX15_init_491 : decode cX15_init 491 = .ok (.putfield 221, 3) := by decide +kernel
theorem dX15_init_494 : decode cX15_init 494 = .ok (.aload_n 0, 1) := by decide +kernel
theorem dX15_init_495 : decode cX15_init 495 = .ok (.bipush 80, 2) := by decide +kernel
theorem dX15_init_497 : decode cX15_init 497 = .ok (.newarray .int, 2) := by decide +kernel
theorem f15_113 : TX15 113 = (RX15, "outLetter", "[I", true) := by decide +kernel
theorem k_11_61 : Jvm.Cond.fieldLink "FinderHouseModel" (224 : Nat) "FinderHouseModel" "outLetter" "[I" ∈ tb := tb11 61 (by decide +kernel) (by decide +kernel)
theorem dX15_init_499 : decode cX15_init 499 = .ok (.putfield 224, 3) := by decide +kernel
theorem dX15_init_502 : decode cX15_init 502 = .ok (.aload_n 0, 1) := by decide +kernel
theorem dX15_init_503 : decode cX15_init 503 = .ok (.sipush 3216, 3) := by decide +kernel
theorem dX15_init_506 : decode cX15_init 506 = .ok (.newarray .int, 2) := by decide +kernel
theorem f15_115 : TX15 115 = (RX15, "nodeAt", "[I", true) := by decide +kernel
theorem k_11_63 : Jvm.Cond.fieldLink "FinderHouseModel" (227 : Nat) "FinderHouseModel" "nodeAt" "[I" ∈ tb := tb11 63 (by decide +kernel) (by decide +kernel)
theorem dX15_init_508 : decode cX15_init 508 = .ok (.putfield 227, 3) := by decide +kernel
theorem dX15_init_511 : decode cX15_init 511 = .ok (.aload_n 0, 1) := by decide +kernel
theorem dX15_init_512 : decode cX15_init 512 = .ok (.sipush 1024, 3) := by decide +kernel
theorem dX15_init_515 : decode cX15_init 515 = .ok (.newarray .int, 2) := by decide +kernel
theorem f15_116 : TX15 116 = (RX15, "slot", "[I", true) := by decide +kernel
theorem k_11_64 : Jvm.Cond.fieldLink "FinderHouseModel" (230 : Nat) "FinderHouseModel" "slot" "[I" ∈ tb := tb11 64 (by decide +kernel) (by decide +kernel)
theorem dX15_init_517 : decode cX15_init 517 = .ok (.putfield 230, 3) := by decide +kernel
theorem dX15_init_520 : decode cX15_init 520 = .ok (.aload_n 0, 1) := by decide +kernel
theorem dX15_init_521 : decode cX15_init 521 = .ok (.sipush 1424, 3) := by decide +kernel
theorem dX15_init_524 : decode cX15_init 524 = .ok (.newarray .int, 2) := by decide +kernel
theorem f15_117 : TX15 117 = (RX15, "spotAt", "[I", true) := by decide +kernel
theorem k_11_65 : Jvm.Cond.fieldLink "FinderHouseModel" (233 : Nat) "FinderHouseModel" "spotAt" "[I" ∈ tb := tb11 65 (by decide +kernel) (by decide +kernel)
theorem dX15_init_526 : decode cX15_init 526 = .ok (.putfield 233, 3) := by decide +kernel
theorem dX15_init_529 : decode cX15_init 529 = .ok (.aload_n 0, 1) := by decide +kernel
theorem dX15_init_530 : decode cX15_init 530 = .ok (.sipush 178, 3) := by decide +kernel
theorem dX15_init_533 : decode cX15_init 533 = .ok (.newarray .boolean, 2) := by decide +kernel
theorem f15_118 : TX15 118 = (RX15, "spotIs", "[Z", true) := by decide +kernel
theorem k_11_66 : Jvm.Cond.fieldLink "FinderHouseModel" (236 : Nat) "FinderHouseModel" "spotIs" "[Z" ∈ tb := tb11 66 (by decide +kernel) (by decide +kernel)
theorem dX15_init_535 : decode cX15_init 535 = .ok (.putfield 236, 3) := by decide +kernel
theorem dX15_init_538 : decode cX15_init 538 = .ok (.aload_n 0, 1) := by decide +kernel
theorem dX15_init_539 : decode cX15_init 539 = .ok (.sipush 178, 3) := by decide +kernel
theorem dX15_init_542 : decode cX15_init 542 = .ok (.newarray .int, 2) := by decide +kernel
theorem f15_119 : TX15 119 = (RX15, "groupOf", "[I", true) := by decide +kernel
theorem k_11_67 : Jvm.Cond.fieldLink "FinderHouseModel" (239 : Nat) "FinderHouseModel" "groupOf" "[I" ∈ tb := tb11 67 (by decide +kernel) (by decide +kernel)
theorem dX15_init_544 : decode cX15_init 544 = .ok (.putfield 239, 3) := by decide +kernel
theorem dX15_init_547 : decode cX15_init 547 = .ok (.aload_n 0, 1) := by decide +kernel
theorem dX15_init_548 : decode cX15_init 548 = .ok (.sipush 178, 3) := by decide +kernel
theorem dX15_init_551 : decode cX15_init 551 = .ok (.newarray .int, 2) := by decide +kernel
theorem f15_120 : TX15 120 = (RX15, "groupMany", "[I", true) := by decide +kernel
theorem k_11_68 : Jvm.Cond.fieldLink "FinderHouseModel" (242 : Nat) "FinderHouseModel" "groupMany" "[I" ∈ tb := tb11 68 (by decide +kernel) (by decide +kernel)
theorem dX15_init_553 : decode cX15_init 553 = .ok (.putfield 242, 3) := by decide +kernel
theorem dX15_init_556 : decode cX15_init 556 = .ok (.aload_n 0, 1) := by decide +kernel
theorem dX15_init_557 : decode cX15_init 557 = .ok (.sipush 178, 3) := by decide +kernel
theorem dX15_init_560 : decode cX15_init 560 = .ok (.newarray .int, 2) := by decide +kernel
theorem f15_121 : TX15 121 = (RX15, "groupPrice", "[I", true) := by decide +kernel
theorem k_11_69 : Jvm.Cond.fieldLink "FinderHouseModel" (245 : Nat) "FinderHouseModel" "groupPrice" "[I" ∈ tb := tb11 69 (by decide +kernel) (by decide +kernel)
theorem dX15_init_562 : decode cX15_init 562 = .ok (.putfield 245, 3) := by decide +kernel
theorem dX15_init_565 : decode cX15_init 565 = .ok (.aload_n 0, 1) := by decide +kernel
theorem dX15_init_566 : decode cX15_init 566 = .ok (.bipush 8, 2) := by decide +kernel
theorem dX15_init_568 : decode cX15_init 568 = .ok (.newarray .int, 2) := by decide +kernel
theorem f15_122 : TX15 122 = (RX15, "here", "[I", true) := by decide +kernel
theorem k_11_70 : Jvm.Cond.fieldLink "FinderHouseModel" (248 : Nat) "FinderHouseModel" "here" "[I" ∈ tb := tb11 70 (by decide +kernel) (by decide +kernel)
theorem dX15_init_570 : decode cX15_init 570 = .ok (.putfield 248, 3) := by decide +kernel
theorem dX15_init_573 : decode cX15_init 573 = .ok (.aload_n 0, 1) := by decide +kernel
theorem dX15_init_574 : decode cX15_init 574 = .ok (.iconst 5, 1) := by decide +kernel
theorem dX15_init_575 : decode cX15_init 575 = .ok (.sipush 402, 3) := by decide +kernel
theorem dX15_init_578 : decode cX15_init 578 = .ok (.multianewarray 120 2, 4) := by decide +kernel
theorem f15_123 : TX15 123 = (RX15, "ways", "[[J", true) := by decide +kernel
theorem k_11_71 : Jvm.Cond.fieldLink "FinderHouseModel" (251 : Nat) "FinderHouseModel" "ways" "[[J" ∈ tb := tb11 71 (by decide +kernel) (by decide +kernel)
theorem dX15_init_582 : decode cX15_init 582 = .ok (.putfield 251, 3) := by decide +kernel
theorem dX15_init_585 : decode cX15_init 585 = .ok (.aload_n 0, 1) := by decide +kernel
theorem dX15_init_586 : decode cX15_init 586 = .ok (.iconst 5, 1) := by decide +kernel
theorem dX15_init_587 : decode cX15_init 587 = .ok (.sipush 402, 3) := by decide +kernel
theorem k_10_178 : Jvm.Cond.classLink "FinderHouseModel" (254 : Nat) "[[I" ∈ tb := tb10 178 (by decide +kernel) (by decide +kernel)
theorem dX15_init_590 : decode cX15_init 590 = .ok (.multianewarray 254 2, 4) := by decide +kernel
theorem f15_124 : TX15 124 = (RX15, "dear", "[[I", true) := by decide +kernel
theorem pd_AAI : parseFieldDescriptor "[[I" = some (.array (.array .int)) := by decide +kernel
theorem k_11_72 : Jvm.Cond.fieldLink "FinderHouseModel" (256 : Nat) "FinderHouseModel" "dear" "[[I" ∈ tb := tb11 72 (by decide +kernel) (by decide +kernel)
theorem dX15_init_594 : decode cX15_init 594 = .ok (.putfield 256, 3) := by decide +kernel
theorem dX15_init_597 : decode cX15_init 597 = .ok (.aload_n 0, 1) := by decide +kernel
theorem dX15_init_598 : decode cX15_init 598 = .ok (.iconst 4, 1) := by decide +kernel
theorem dX15_init_599 : decode cX15_init 599 = .ok (.newarray .int, 2) := by decide +kernel
theorem f15_126 : TX15 126 = (RX15, "partCut", "[I", true) := by decide +kernel
theorem k_11_74 : Jvm.Cond.fieldLink "FinderHouseModel" (259 : Nat) "FinderHouseModel" "partCut" "[I" ∈ tb := tb11 74 (by decide +kernel) (by decide +kernel)
theorem dX15_init_601 : decode cX15_init 601 = .ok (.putfield 259, 3) := by decide +kernel
theorem dX15_init_604 : decode cX15_init 604 = .ok (.aload_n 0, 1) := by decide +kernel
theorem dX15_init_605 : decode cX15_init 605 = .ok (.iconst 4, 1) := by decide +kernel
theorem dX15_init_606 : decode cX15_init 606 = .ok (.newarray .int, 2) := by decide +kernel
theorem f15_127 : TX15 127 = (RX15, "partWord", "[I", true) := by decide +kernel
theorem k_11_75 : Jvm.Cond.fieldLink "FinderHouseModel" (262 : Nat) "FinderHouseModel" "partWord" "[I" ∈ tb := tb11 75 (by decide +kernel) (by decide +kernel)
theorem dX15_init_608 : decode cX15_init 608 = .ok (.putfield 262, 3) := by decide +kernel
theorem dX15_init_611 : decode cX15_init 611 = .ok (.aload_n 0, 1) := by decide +kernel
theorem dX15_init_612 : decode cX15_init 612 = .ok (.bipush 20, 2) := by decide +kernel
theorem dX15_init_614 : decode cX15_init 614 = .ok (.newarray .int, 2) := by decide +kernel
theorem f15_129 : TX15 129 = (RX15, "wordSize", "[I", true) := by decide +kernel
theorem dX15_init_616 : decode cX15_init 616 = .ok (.putfield 265, 3) := by decide +kernel
theorem dX15_init_619 : decode cX15_init 619 = .ok (.aload_n 0, 1) := by decide +kernel
theorem dX15_init_620 : decode cX15_init 620 = .ok (.bipush 20, 2) := by decide +kernel
theorem dX15_init_622 : decode cX15_init 622 = .ok (.newarray .int, 2) := by decide +kernel
theorem f15_130 : TX15 130 = (RX15, "wordBits", "[I", true) := by decide +kernel
theorem dX15_init_624 : decode cX15_init 624 = .ok (.putfield 268, 3) := by decide +kernel
theorem dX15_init_627 : decode cX15_init 627 = .ok (.aload_n 0, 1) := by decide +kernel
theorem dX15_init_628 : decode cX15_init 628 = .ok (.bipush 20, 2) := by decide +kernel
theorem dX15_init_630 : decode cX15_init 630 = .ok (.newarray .boolean, 2) := by decide +kernel
theorem f15_131 : TX15 131 = (RX15, "wordGood", "[Z", true) := by decide +kernel
theorem dX15_init_632 : decode cX15_init 632 = .ok (.putfield 271, 3) := by decide +kernel
theorem dX15_init_635 : decode cX15_init 635 = .ok (.aload_n 0, 1) := by decide +kernel
theorem dX15_init_636 : decode cX15_init 636 = .ok (.bipush 10, 2) := by decide +kernel
theorem dX15_init_638 : decode cX15_init 638 = .ok (.newarray .int, 2) := by decide +kernel
theorem f15_132 : TX15 132 = (RX15, "tries", "[I", true) := by decide +kernel
theorem dX15_init_640 : decode cX15_init 640 = .ok (.putfield 274, 3) := by decide +kernel
theorem dX15_init_643 : decode cX15_init 643 = .ok (.aload_n 0, 1) := by decide +kernel
theorem dX15_init_644 : decode cX15_init 644 = .ok (.iconst 5, 1) := by decide +kernel
theorem dX15_init_645 : decode cX15_init 645 = .ok (.newarray .int, 2) := by decide +kernel
theorem f15_133 : TX15 133 = (RX15, "must", "[I", true) := by decide +kernel
theorem dX15_init_647 : decode cX15_init 647 = .ok (.putfield 277, 3) := by decide +kernel
theorem dX15_init_650 : decode cX15_init 650 = .ok (.aload_n 0, 1) := by decide +kernel
theorem dX15_init_651 : decode cX15_init 651 = .ok (.bipush 10, 2) := by decide +kernel
theorem dX15_init_653 : decode cX15_init 653 = .ok (.newarray .int, 2) := by decide +kernel
theorem f15_135 : TX15 135 = (RX15, "machine", "[I", true) := by decide +kernel
theorem dX15_init_655 : decode cX15_init 655 = .ok (.putfield 280, 3) := by decide +kernel
theorem dX15_init_658 : decode cX15_init 658 = .ok (.aload_n 0, 1) := by decide +kernel
theorem dX15_init_659 : decode cX15_init 659 = .ok (.iconst 5, 1) := by decide +kernel
theorem dX15_init_660 : decode cX15_init 660 = .ok (.newarray .boolean, 2) := by decide +kernel
theorem f15_136 : TX15 136 = (RX15, "good", "[Z", true) := by decide +kernel
theorem dX15_init_662 : decode cX15_init 662 = .ok (.putfield 283, 3) := by decide +kernel
theorem dX15_init_665 : decode cX15_init 665 = .ok (.aload_n 0, 1) := by decide +kernel
theorem dX15_init_666 : decode cX15_init 666 = .ok (.iconst 5, 1) := by decide +kernel
theorem dX15_init_667 : decode cX15_init 667 = .ok (.newarray .int, 2) := by decide +kernel
theorem f15_138 : TX15 138 = (RX15, "step", "[I", true) := by decide +kernel
theorem dX15_init_669 : decode cX15_init 669 = .ok (.putfield 286, 3) := by decide +kernel
theorem dX15_init_672 : decode cX15_init 672 = .ok (.aload_n 0, 1) := by decide +kernel
theorem dX15_init_673 : decode cX15_init 673 = .ok (.bipush 9, 2) := by decide +kernel
theorem dX15_init_675 : decode cX15_init 675 = .ok (.bipush 16, 2) := by decide +kernel
theorem dX15_init_677 : decode cX15_init 677 = .ok (.multianewarray 254 2, 4) := by decide +kernel
theorem f15_139 : TX15 139 = (RX15, "as", "[[I", true) := by decide +kernel
theorem dX15_init_681 : decode cX15_init 681 = .ok (.putfield 289, 3) := by decide +kernel
theorem dX15_init_684 : decode cX15_init 684 = .ok (.aload_n 0, 1) := by decide +kernel
theorem dX15_init_685 : decode cX15_init 685 = .ok (.bipush 9, 2) := by decide +kernel
theorem dX15_init_687 : decode cX15_init 687 = .ok (.bipush 16, 2) := by decide +kernel
theorem dX15_init_689 : decode cX15_init 689 = .ok (.multianewarray 254 2, 4) := by decide +kernel
theorem f15_140 : TX15 140 = (RX15, "bs", "[[I", true) := by decide +kernel
theorem dX15_init_693 : decode cX15_init 693 = .ok (.putfield 292, 3) := by decide +kernel
theorem dX15_init_696 : decode cX15_init 696 = .ok (.aload_n 0, 1) := by decide +kernel
theorem dX15_init_697 : decode cX15_init 697 = .ok (.bipush 6, 2) := by decide +kernel
theorem dX15_init_699 : decode cX15_init 699 = .ok (.newarray .int, 2) := by decide +kernel
theorem f15_147 : TX15 147 = (RX15, "level", "[I", true) := by decide +kernel
theorem dX15_init_701 : decode cX15_init 701 = .ok (.putfield 295, 3) := by decide +kernel
theorem dX15_init_704 : decode cX15_init 704 = .ok (.aload_n 0, 1) := by decide +kernel
theorem dX15_init_705 : decode cX15_init 705 = .ok (.sipush 24204, 3) := by decide +kernel
theorem dX15_init_708 : decode cX15_init 708 = .ok (.newarray .int, 2) := by decide +kernel
theorem f15_155 : TX15 155 = (RX15, "waiting", "[I", true) := by decide +kernel
theorem dX15_init_710 : decode cX15_init 710 = .ok (.putfield 298, 3) := by decide +kernel
theorem dX15_init_713 : decode cX15_init 713 = .ok (.aload_n 0, 1) := by decide +kernel
theorem dX15_init_714 : decode cX15_init 714 = .ok (.sipush 201, 3) := by decide +kernel
theorem dX15_init_717 : decode cX15_init 717 = .ok (.sipush 128, 3) := by decide +kernel
theorem dX15_init_720 : decode cX15_init 720 = .ok (.multianewarray 254 2, 4) := by decide +kernel
theorem f15_157 : TX15 157 = (RX15, "disk", "[[I", true) := by decide +kernel
theorem dX15_init_724 : decode cX15_init 724 = .ok (.putfield 301, 3) := by decide +kernel
theorem dX15_init_727 : decode cX15_init 727 = .ok (.aload_n 0, 1) := by decide +kernel
theorem dX15_init_728 : decode cX15_init 728 = .ok (.sipush 128, 3) := by decide +kernel
theorem dX15_init_731 : decode cX15_init 731 = .ok (.newarray .int, 2) := by decide +kernel
theorem f15_158 : TX15 158 = (RX15, "block", "[I", true) := by decide +kernel
theorem k_11_106 : Jvm.Cond.fieldLink "FinderHouseModel" (304 : Nat) "FinderHouseModel" "block" "[I" ∈ tb := tb11 106 (by decide +kernel) (by decide +kernel)
theorem dX15_init_733 : decode cX15_init 733 = .ok (.putfield 304, 3) := by decide +kernel
theorem dX15_init_736 : decode cX15_init 736 = .ok (.aload_n 0, 1) := by decide +kernel
theorem dX15_init_737 : decode cX15_init 737 = .ok (.sipush 24200, 3) := by decide +kernel
theorem dX15_init_740 : decode cX15_init 740 = .ok (.newarray .int, 2) := by decide +kernel
theorem f15_159 : TX15 159 = (RX15, "again", "[I", true) := by decide +kernel
theorem k_11_107 : Jvm.Cond.fieldLink "FinderHouseModel" (307 : Nat) "FinderHouseModel" "again" "[I" ∈ tb := tb11 107 (by decide +kernel) (by decide +kernel)
theorem dX15_init_742 : decode cX15_init 742 = .ok (.putfield 307, 3) := by decide +kernel
theorem dX15_init_745 : decode cX15_init 745 = .ok (.aload_n 0, 1) := by decide +kernel
theorem dX15_init_746 : decode cX15_init 746 = .ok (.iconst (-1), 1) := by decide +kernel
theorem f15_161 : TX15 161 = (RX15, "cutIn", "I", false) := by decide +kernel
theorem dX15_init_747 : decode cX15_init 747 = .ok (.putfield 310, 3) := by decide +kernel
theorem dX15_init_750 : decode cX15_init 750 = .ok (.aload_n 0, 1) := by decide +kernel
theorem dX15_init_751 : decode cX15_init 751 = .ok (.ldc_w 313, 3) := by decide +kernel
theorem k_10_183 : Jvm.Cond.code ({ cls := "FinderHouseModel", name := "basic", desc := "(Ljava/lang/String;)V" } : Jvm.MethodName) prog_14_method_7_code (7 : Nat) (Option.none : Option Jvm.ClassFile.FieldType) ∈ tb := tb10 183 (by decide +kernel) (by decide +kernel)
theorem k_10_180 : Jvm.Cond.methodLink "FinderHouseModel" (315 : Nat) ({ cls := "FinderHouseModel", name := "basic", desc := "(Ljava/lang/String;)V" } : Jvm.MethodName) ∈ tb := tb10 180 (by decide +kernel) (by decide +kernel)
theorem k_10_182 : Jvm.Cond.instanceMethod ({ cls := "FinderHouseModel", name := "basic", desc := "(Ljava/lang/String;)V" } : Jvm.MethodName) ∈ tb := tb10 182 (by decide +kernel) (by decide +kernel)
theorem ks_110 : Jvm.Cond.selects "FinderHouseModel" ({ cls := "FinderHouseModel", name := "basic", desc := "(Ljava/lang/String;)V" } : Jvm.MethodName) ({ cls := "FinderHouseModel", name := "basic", desc := "(Ljava/lang/String;)V" } : Jvm.MethodName) ∈ tb := tbp 110 (by decide +kernel) (by decide +kernel)
theorem dX15_init_754 : decode cX15_init 754 = .ok (.invokevirtual 315, 3) := by decide +kernel
theorem dX15_init_757 : decode cX15_init 757 = .ok (.return_, 1) := by decide +kernel
section PUT15
variable {p : Program} {l : Launch} {e : Env} {R : Room} {s : State} {m : MethodId} {args : Array Value} {below : List Frame} {meth : Method} {c : Code} {H : Heap} {locs : List Loc} {cells slots : Nat} {Q : State → Prop}
variable {cc : ByteArray} {pc : Nat} {ls : Array Slot} {rest : List Value} {D : va_G} {A : Nat → Prop} {a : Nat} {tys : List (ClassId × FieldType)} {ws : va_W} {H0 : Heap}
theorem putF15 (hexec : p.tables.exec = Jvm.exec) (hb : c.code = cc) (hts : ∀ w ∈ tb, w.before args s = true) (hown : s.vm.findClass RX15 = some m.cls) (hK : va_K D cls tys s) {fs : List Value} (hP : va_P D cls ((a, .inr (15, fs)) :: ws) H) (hD : va_D A ((a, .inr (15, fs)) :: ws)) (hS0 : va_S A H0 H locs) (hl : fs.length = 163) (k : Nat) (hk : k < 163) {n d : String} (hT : TX15 k = (RX15, n, d, true)) {index : Nat} (hlink : (Cond.fieldLink RX15 index RX15 n d).before args s = true) (hin2 : meth.name = "<init>") {ty : FieldType} {v : Value} (hd : parseFieldDescriptor d = some ty) (hn : narrow ty v = v) (hfit : fits ty v = true) (hdg : decode cc pc = .ok (.putfield index, 3))
    (kk : ∀ (F' : List Value) (H1 : Heap) (locs1 : List Loc), F' = fs.set k v → F'.length = 163 → va_P D cls ((a, .inr (15, F')) :: ws) H1 → va_D A ((a, .inr (15, F')) :: ws) → va_S A H0 H1 locs1 → W p l e R s m args below meth c H1 locs1 cells slots Q (F0 m (pc + 3) ls rest)) : W p l e R s m args below meth c H locs cells slots Q (F0 m pc ls (v :: .ref a :: rest)) :=
  va_putF (D := D) (ci := 15) (C := RX15) (T := TX15) (N := 163) (own := RX15) (ref := RX15) (ty := ty) hexec hb hts uX15 tyX15 tkX15 nmX15 hown hK hP hD hS0 0 rfl rfl k hk (by rw [hT]; exact hlink) (by rw [hT]; exact fun _ h => h) (by rw [hT]) hin2 (by rw [hT]) (by rw [hT]; exact hd) hn hfit (by rw [hl]; exact hk) hdg (fun H1 locs1 h1 h2 h3 => kk _ H1 locs1 rfl (by rw [List.length_set]; exact hl) h1 h2 h3)
theorem put15 (hexec : p.tables.exec = Jvm.exec) (hb : c.code = cc) (hts : ∀ w ∈ tb, w.before args s = true) (hown : s.vm.findClass RX15 = some m.cls) (hK : va_K D cls tys s) {fs : List Value} (hP : va_P D cls ((a, .inr (15, fs)) :: ws) H) (hD : va_D A ((a, .inr (15, fs)) :: ws)) (hS0 : va_S A H0 H locs) (hl : fs.length = 163) (k : Nat) (hk : k < 163) {n d : String} (hT : TX15 k = (RX15, n, d, false)) {index : Nat} (hlink : (Cond.fieldLink RX15 index RX15 n d).before args s = true) (hin2 : meth.name = "<init>") {ty : FieldType} {v : Value} (hd : parseFieldDescriptor d = some ty) (hn : narrow ty v = v) (hfit : fits ty v = true) (hdg : decode cc pc = .ok (.putfield index, 3))
    (kk : ∀ (F' : List Value) (H1 : Heap) (locs1 : List Loc), F' = fs.set k v → F'.length = 163 → va_P D cls ((a, .inr (15, F')) :: ws) H1 → va_D A ((a, .inr (15, F')) :: ws) → va_S A H0 H1 locs1 → W p l e R s m args below meth c H1 locs1 cells slots Q (F0 m (pc + 3) ls rest)) : W p l e R s m args below meth c H locs cells slots Q (F0 m pc ls (v :: .ref a :: rest)) :=
  va_put (D := D) (ci := 15) (C := RX15) (T := TX15) (N := 163) (own := RX15) (ref := RX15) (ty := ty) hexec hb hts uX15 tyX15 tkX15 nmX15 hown hK hP hD hS0 0 rfl rfl k hk (by rw [hT]; exact hlink) (by rw [hT]; exact fun _ h => h) (by rw [hT]) (by rw [hT]; exact hd) hn hfit (by rw [hl]; exact hk) hdg (fun H1 locs1 h1 h2 h3 => kk _ H1 locs1 rfl (by rw [List.length_set]; exact hl) h1 h2 h3)
end PUT15
