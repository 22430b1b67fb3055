set_option maxRecDepth 20000 in
theorem tb_135 : (Jvm.Cond.code ({ cls := "java/lang/Object", name := "<init>", desc := "()V" } : Jvm.MethodName) object_method_1_code (1 : Nat) (Option.none : Option Jvm.ClassFile.FieldType)) ∈ TB := TB_of 135 rfl (by decide +kernel)
set_option maxRecDepth 20000 in
theorem tb_162 : (Jvm.Cond.code ({ cls := "LieClock$Law", name := "<init>", desc := "()V" } : Jvm.MethodName) prog_4_method_1_code (1 : Nat) (Option.none : Option Jvm.ClassFile.FieldType)) ∈ TB := TB_of 162 rfl (by decide +kernel)
set_option maxRecDepth 20000 in
theorem tb_298 : (Jvm.Cond.code ({ cls := "LieClock$Tokens", name := "<init>", desc := "()V" } : Jvm.MethodName) prog_11_method_1_code (6 : Nat) (Option.none : Option Jvm.ClassFile.FieldType)) ∈ TB := TB_of 298 rfl (by decide +kernel)
set_option maxRecDepth 20000 in
theorem tb_314 : (Jvm.Cond.code ({ cls := "java/lang/String", name := "charAt", desc := "(I)C" } : Jvm.MethodName) prog_20_method_56_code (2 : Nat) (Option.some Jvm.ClassFile.FieldType.char)) ∈ TB := TB_of 314 rfl (by decide +kernel)
set_option maxRecDepth 20000 in
theorem tb_321 : (Jvm.Cond.code ({ cls := "java/lang/StringLatin1", name := "charAt", desc := "([BI)C" } : Jvm.MethodName) prog_21_method_2_code (2 : Nat) (Option.some Jvm.ClassFile.FieldType.char)) ∈ TB := TB_of 321 rfl (by decide +kernel)
set_option maxRecDepth 20000 in
theorem tb_324 : (Jvm.Cond.code ({ cls := "java/lang/String", name := "checkIndex", desc := "(II)V" } : Jvm.MethodName) prog_20_method_155_code (2 : Nat) (Option.none : Option Jvm.ClassFile.FieldType)) ∈ TB := TB_of 324 rfl (by decide +kernel)
set_option maxRecDepth 20000 in
theorem tb_329 : (Jvm.Cond.code ({ cls := "jdk/internal/util/Preconditions", name := "checkIndex", desc := "(IILjava/util/function/BiFunction;)I" } : Jvm.MethodName) prog_25_method_11_code (3 : Nat) (Option.some Jvm.ClassFile.FieldType.int)) ∈ TB := TB_of 329 rfl (by decide +kernel)
set_option maxRecDepth 20000 in
theorem tb_409 : (Jvm.Cond.code ({ cls := "LieClock$State", name := "<init>", desc := "(Z)V" } : Jvm.MethodName) prog_9_method_1_code (2 : Nat) (Option.none : Option Jvm.ClassFile.FieldType)) ∈ TB := TB_of 409 rfl (by decide +kernel)
set_option maxRecDepth 20000 in
theorem tb_1370 : (Jvm.Cond.code ({ cls := "LieClockModel", name := "word", desc := "(IIIIIII)J" } : Jvm.MethodName) prog_14_method_10_code (7 : Nat) (Option.some Jvm.ClassFile.FieldType.long)) ∈ TB := TB_of 1370 rfl (by decide +kernel)
