set_option maxRecDepth 20000 in
theorem tb_132 : (Jvm.Cond.code ({ cls := "LieClock", name := "<init>", desc := "()V" } : Jvm.MethodName) prog_1_method_1_code (2 : Nat) (Option.none : Option Jvm.ClassFile.FieldType)) ∈ TB := TB_of 132 rfl (by decide +kernel)
set_option maxRecDepth 20000 in
theorem tb_1365 : (Jvm.Cond.code ({ cls := "LieClockModel", name := "<init>", desc := "()V" } : Jvm.MethodName) prog_14_method_2_code (1 : Nat) (Option.none : Option Jvm.ClassFile.FieldType)) ∈ TB := TB_of 1365 rfl (by decide +kernel)
