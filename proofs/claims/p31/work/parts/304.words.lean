set_option maxRecDepth 20000 in
theorem tb_1132 : (Jvm.Cond.code ({ cls := "LieClock$Ahead", name := "find", desc := "(LLieClock$Told;LLieClock$State;II)V" } : Jvm.MethodName) prog_2_method_2_code (9 : Nat) (Option.none : Option Jvm.ClassFile.FieldType)) ∈ TB := TB_of 1132 rfl (by decide +kernel)
set_option maxRecDepth 20000 in
theorem tb_1136 : (Jvm.Cond.code ({ cls := "LieClock$Nodes", name := "clear", desc := "()V" } : Jvm.MethodName) prog_5_method_2_code (1 : Nat) (Option.none : Option Jvm.ClassFile.FieldType)) ∈ TB := TB_of 1136 rfl (by decide +kernel)
set_option maxRecDepth 20000 in
theorem tb_1142 : (Jvm.Cond.code ({ cls := "LieClock$Nodes", name := "add", desc := "(LLieClock$State;IJI)V" } : Jvm.MethodName) prog_5_method_4_code (7 : Nat) (Option.none : Option Jvm.ClassFile.FieldType)) ∈ TB := TB_of 1142 rfl (by decide +kernel)
set_option maxRecDepth 20000 in
theorem tb_1146 : (Jvm.Cond.code ({ cls := "LieClock$Nodes", name := "slotOf", desc := "(LLieClock$State;I)I" } : Jvm.MethodName) prog_5_method_7_code (9 : Nat) (Option.some Jvm.ClassFile.FieldType.int)) ∈ TB := TB_of 1146 rfl (by decide +kernel)
set_option maxRecDepth 20000 in
theorem tb_1149 : (Jvm.Cond.code ({ cls := "LieClock$Nodes", name := "packed", desc := "(LLieClock$State;)I" } : Jvm.MethodName) prog_5_method_5_code (1 : Nat) (Option.some Jvm.ClassFile.FieldType.int)) ∈ TB := TB_of 1149 rfl (by decide +kernel)
set_option maxRecDepth 20000 in
theorem tb_1152 : (Jvm.Cond.code ({ cls := "LieClock$Nodes", name := "hash", desc := "(III)I" } : Jvm.MethodName) prog_5_method_6_code (4 : Nat) (Option.some Jvm.ClassFile.FieldType.int)) ∈ TB := TB_of 1152 rfl (by decide +kernel)
set_option maxRecDepth 20000 in
theorem tb_1159 : (Jvm.Cond.code ({ cls := "LieClock$Nodes", name := "grow", desc := "()V" } : Jvm.MethodName) prog_5_method_8_code (3 : Nat) (Option.none : Option Jvm.ClassFile.FieldType)) ∈ TB := TB_of 1159 rfl (by decide +kernel)
set_option maxRecDepth 20000 in
theorem tb_1163 : (Jvm.Cond.code ({ cls := "java/util/Arrays", name := "copyOf", desc := "([II)[I" } : Jvm.MethodName) prog_24_method_123_code (3 : Nat) (Option.some (Jvm.ClassFile.FieldType.array Jvm.ClassFile.FieldType.int))) ∈ TB := TB_of 1163 rfl (by decide +kernel)
set_option maxRecDepth 20000 in
theorem tb_1175 : (Jvm.Cond.code ({ cls := "java/util/Arrays", name := "copyOf", desc := "([JI)[J" } : Jvm.MethodName) prog_24_method_124_code (3 : Nat) (Option.some (Jvm.ClassFile.FieldType.array Jvm.ClassFile.FieldType.long))) ∈ TB := TB_of 1175 rfl (by decide +kernel)
set_option maxRecDepth 20000 in
theorem tb_1184 : (Jvm.Cond.code ({ cls := "LieClock$Nodes", name := "freeSlot", desc := "(I)I" } : Jvm.MethodName) prog_5_method_9_code (4 : Nat) (Option.some Jvm.ClassFile.FieldType.int)) ∈ TB := TB_of 1184 rfl (by decide +kernel)
set_option maxRecDepth 20000 in
theorem tb_1187 : (Jvm.Cond.code ({ cls := "LieClock$Ahead", name := "canCome", desc := "(II)Z" } : Jvm.MethodName) prog_2_method_3_code (2 : Nat) (Option.some Jvm.ClassFile.FieldType.boolean)) ∈ TB := TB_of 1187 rfl (by decide +kernel)
set_option maxRecDepth 20000 in
theorem tb_1191 : (Jvm.Cond.code ({ cls := "LieClock$Ahead", name := "expand", desc := "(LLieClock$Told;II)V" } : Jvm.MethodName) prog_2_method_4_code (7 : Nat) (Option.none : Option Jvm.ClassFile.FieldType)) ∈ TB := TB_of 1191 rfl (by decide +kernel)
set_option maxRecDepth 20000 in
theorem tb_1196 : (Jvm.Cond.code ({ cls := "LieClock$Nodes", name := "load", desc := "(ILLieClock$State;)V" } : Jvm.MethodName) prog_5_method_3_code (3 : Nat) (Option.none : Option Jvm.ClassFile.FieldType)) ∈ TB := TB_of 1196 rfl (by decide +kernel)
set_option maxRecDepth 20000 in
theorem tb_1202 : (Jvm.Cond.code ({ cls := "LieClock$Ahead", name := "keepPath", desc := "(LLieClock$Told;III)V" } : Jvm.MethodName) prog_2_method_5_code (8 : Nat) (Option.none : Option Jvm.ClassFile.FieldType)) ∈ TB := TB_of 1202 rfl (by decide +kernel)
set_option maxRecDepth 20000 in
theorem tb_1316 : (Jvm.Cond.code ({ cls := "LieClock$Book", name := "find", desc := "(LLieClock$Told;I)V" } : Jvm.MethodName) prog_3_method_4_code (7 : Nat) (Option.none : Option Jvm.ClassFile.FieldType)) ∈ TB := TB_of 1316 rfl (by decide +kernel)
set_option maxRecDepth 20000 in
theorem tb_1323 : (Jvm.Cond.code ({ cls := "LieClock$Book", name := "expand", desc := "(LLieClock$Told;IIII)V" } : Jvm.MethodName) prog_3_method_5_code (14 : Nat) (Option.none : Option Jvm.ClassFile.FieldType)) ∈ TB := TB_of 1323 rfl (by decide +kernel)
set_option maxRecDepth 20000 in
theorem tb_1331 : (Jvm.Cond.code ({ cls := "LieClock$Told", name := "liarsBy", desc := "(I)I" } : Jvm.MethodName) prog_12_method_18_code (4 : Nat) (Option.some Jvm.ClassFile.FieldType.int)) ∈ TB := TB_of 1331 rfl (by decide +kernel)
