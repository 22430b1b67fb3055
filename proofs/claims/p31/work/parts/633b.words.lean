set_option maxRecDepth 20000 in
theorem tb_140 : (Jvm.Cond.code ({ cls := "LieClock$Tape", name := "<init>", desc := "()V" } : Jvm.MethodName) prog_10_method_1_code (1 : Nat) (Option.none : Option Jvm.ClassFile.FieldType)) ∈ TB := TB_of 140 rfl (by decide +kernel)
set_option maxRecDepth 20000 in
theorem tb_156 : (Jvm.Cond.code ({ cls := "LieClock$Told", name := "<init>", desc := "()V" } : Jvm.MethodName) prog_12_method_1_code (1 : Nat) (Option.none : Option Jvm.ClassFile.FieldType)) ∈ TB := TB_of 156 rfl (by decide +kernel)
set_option maxRecDepth 20000 in
theorem tb_292 : (Jvm.Cond.code ({ cls := "LieClock$Parser", name := "<init>", desc := "(LLieClock$Told;)V" } : Jvm.MethodName) prog_7_method_1_code (2 : Nat) (Option.none : Option Jvm.ClassFile.FieldType)) ∈ TB := TB_of 292 rfl (by decide +kernel)
set_option maxRecDepth 20000 in
theorem tb_490 : (Jvm.Cond.code ({ cls := "LieClock$Nodes", name := "<init>", desc := "()V" } : Jvm.MethodName) prog_5_method_1_code (1 : Nat) (Option.none : Option Jvm.ClassFile.FieldType)) ∈ TB := TB_of 490 rfl (by decide +kernel)
set_option maxRecDepth 20000 in
theorem tb_526 : (Jvm.Cond.code ({ cls := "LieClock$Sets", name := "<init>", desc := "()V" } : Jvm.MethodName) prog_8_method_1_code (1 : Nat) (Option.none : Option Jvm.ClassFile.FieldType)) ∈ TB := TB_of 526 rfl (by decide +kernel)
set_option maxRecDepth 20000 in
theorem tb_551 : (Jvm.Cond.code ({ cls := "LieClock$Orders", name := "<init>", desc := "()V" } : Jvm.MethodName) prog_6_method_1_code (2 : Nat) (Option.none : Option Jvm.ClassFile.FieldType)) ∈ TB := TB_of 551 rfl (by decide +kernel)
set_option maxRecDepth 20000 in
theorem tb_587 : (Jvm.Cond.code ({ cls := "LieClock$Ahead", name := "<init>", desc := "(LLieClock$Nodes;)V" } : Jvm.MethodName) prog_2_method_1_code (2 : Nat) (Option.none : Option Jvm.ClassFile.FieldType)) ∈ TB := TB_of 587 rfl (by decide +kernel)
set_option maxRecDepth 20000 in
theorem tb_624 : (Jvm.Cond.code ({ cls := "LieClock$Book", name := "<init>", desc := "(LLieClock$Nodes;)V" } : Jvm.MethodName) prog_3_method_1_code (2 : Nat) (Option.none : Option Jvm.ClassFile.FieldType)) ∈ TB := TB_of 624 rfl (by decide +kernel)
