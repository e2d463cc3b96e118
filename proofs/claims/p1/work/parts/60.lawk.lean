theorem k_1_31 : Jvm.Cond.instantiable "FinderHouse" (18 : Nat) ∈ tb := tb1 31 (by decide +kernel) (by decide +kernel)
theorem k_9_230 : Jvm.Cond.instantiable "FinderHouseModel" (163 : Nat) ∈ tb := tb9 230 (by decide +kernel) (by decide +kernel)
theorem k_1_30 : Jvm.Cond.classLink "FinderHouseLaw" (8 : Nat) "FinderHouse" ∈ tb := tb1 30 (by decide +kernel) (by decide +kernel)
theorem dL_law_0 : decode cL_law 0 = .ok (.new 8, 3) := by decide +kernel
theorem dL_law_3 : decode cL_law 3 = .ok (.dup, 1) := by decide +kernel
theorem k_1_32 : Jvm.Cond.methodLink "FinderHouseLaw" (31 : Nat) ({ cls := "FinderHouse", name := "<init>", desc := "()V" } : Jvm.MethodName) ∈ tb := tb1 32 (by decide +kernel) (by decide +kernel)
theorem k_1_33 : Jvm.Cond.instanceMethod ({ cls := "FinderHouse", name := "<init>", desc := "()V" } : Jvm.MethodName) ∈ tb := tb1 33 (by decide +kernel) (by decide +kernel)
theorem dL_law_4 : decode cL_law 4 = .ok (.invokespecial 31, 3) := by decide +kernel
theorem dL_law_7 : decode cL_law 7 = .ok (.astore_n 1, 1) := by decide +kernel
theorem k_9_229 : Jvm.Cond.classLink "FinderHouseLaw" (32 : Nat) "FinderHouseModel" ∈ tb := tb9 229 (by decide +kernel) (by decide +kernel)
theorem dL_law_8 : decode cL_law 8 = .ok (.new 32, 3) := by decide +kernel
theorem dL_law_11 : decode cL_law 11 = .ok (.dup, 1) := by decide +kernel
theorem k_9_231 : Jvm.Cond.methodLink "FinderHouseLaw" (34 : Nat) ({ cls := "FinderHouseModel", name := "<init>", desc := "()V" } : Jvm.MethodName) ∈ tb := tb9 231 (by decide +kernel) (by decide +kernel)
theorem k_9_232 : Jvm.Cond.instanceMethod ({ cls := "FinderHouseModel", name := "<init>", desc := "()V" } : Jvm.MethodName) ∈ tb := tb9 232 (by decide +kernel) (by decide +kernel)
theorem dL_law_12 : decode cL_law 12 = .ok (.invokespecial 34, 3) := by decide +kernel
theorem dL_law_15 : decode cL_law 15 = .ok (.astore_n 2, 1) := by decide +kernel
theorem dL_law_16 : decode cL_law 16 = .ok (.iconst 1, 1) := by decide +kernel
theorem dL_law_17 : decode cL_law 17 = .ok (.newarray .long, 2) := by decide +kernel
theorem dL_law_19 : decode cL_law 19 = .ok (.astore_n 3, 1) := by decide +kernel
theorem dL_law_20 : decode cL_law 20 = .ok (.iconst 0, 1) := by decide +kernel
theorem dL_law_21 : decode cL_law 21 = .ok (.istore 4, 2) := by decide +kernel
