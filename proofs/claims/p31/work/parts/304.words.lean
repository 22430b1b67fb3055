set_option maxRecDepth 20000 in
theorem tb_1146 : (Jvm.Cond.code ({ cls := "LieClock$Nodes", name := "slotOf", desc := "(LLieClock$State;I)I" } : Jvm.MethodName) prog_5_method_7_code (9 : Nat) (Option.some Jvm.ClassFile.FieldType.int)) ∈ TB := TB_of 1146 rfl (by decide +kernel)
set_option maxRecDepth 20000 in
theorem tb_1149 : (Jvm.Cond.code ({ cls := "LieClock$Nodes", name := "packed", desc := "(LLieClock$State;)I" } : Jvm.MethodName) prog_5_method_5_code (1 : Nat) (Option.some Jvm.ClassFile.FieldType.int)) ∈ TB := TB_of 1149 rfl (by decide +kernel)
set_option maxRecDepth 20000 in
theorem tb_1152 : (Jvm.Cond.code ({ cls := "LieClock$Nodes", name := "hash", desc := "(III)I" } : Jvm.MethodName) prog_5_method_6_code (4 : Nat) (Option.some Jvm.ClassFile.FieldType.int)) ∈ TB := TB_of 1152 rfl (by decide +kernel)
set_option maxRecDepth 20000 in
theorem tb_1159 : (Jvm.Cond.code ({ cls := "LieClock$Nodes", name := "grow", desc := "()V" } : Jvm.MethodName) prog_5_method_8_code (3 : Nat) (Option.none : Option Jvm.ClassFile.FieldType)) ∈ TB := TB_of 1159 rfl (by decide +kernel)
