set_option maxRecDepth 100000 in
set_option maxHeartbeats 4000000 in
theorem k_1_34 : Jvm.Cond.code ({ cls := "FinderHouse", name := "<init>", desc := "()V" } : Jvm.MethodName) prog_1_method_1_code (1 : Nat) (Option.none : Option Jvm.ClassFile.FieldType) ∈ tb := by
  first | exact tb1 34 rfl (by decide +kernel) | exact tb1 34 (by decide +kernel) (by decide +kernel)
set_option maxRecDepth 100000 in
set_option maxHeartbeats 4000000 in
theorem k_9_233 : Jvm.Cond.code ({ cls := "FinderHouseModel", name := "<init>", desc := "()V" } : Jvm.MethodName) prog_14_method_8_code (1 : Nat) (Option.none : Option Jvm.ClassFile.FieldType) ∈ tb := by
  first | exact tb9 233 rfl (by decide +kernel) | exact tb9 233 (by decide +kernel) (by decide +kernel)
