set_option maxRecDepth 20000 in
theorem tb_304 : (Jvm.Cond.code ({ cls := "java/lang/String", name := "length", desc := "()I" } : Jvm.MethodName) prog_20_method_54_code (1 : Nat) (Option.some Jvm.ClassFile.FieldType.int)) ∈ TB := TB_of 304 rfl (by decide +kernel)
set_option maxRecDepth 20000 in
theorem tb_308 : (Jvm.Cond.code ({ cls := "java/lang/String", name := "coder", desc := "()B" } : Jvm.MethodName) prog_20_method_152_code (1 : Nat) (Option.some Jvm.ClassFile.FieldType.byte)) ∈ TB := TB_of 308 rfl (by decide +kernel)
set_option maxRecDepth 20000 in
theorem tb_318 : (Jvm.Cond.code ({ cls := "java/lang/String", name := "isLatin1", desc := "()Z" } : Jvm.MethodName) prog_20_method_154_code (1 : Nat) (Option.some Jvm.ClassFile.FieldType.boolean)) ∈ TB := TB_of 318 rfl (by decide +kernel)
set_option maxRecDepth 20000 in
theorem tb_351 : (Jvm.Cond.code ({ cls := "LieClock$Tokens", name := "withLetter", desc := "(JI)J" } : Jvm.MethodName) prog_11_method_10_code (3 : Nat) (Option.some Jvm.ClassFile.FieldType.long)) ∈ TB := TB_of 351 rfl (by decide +kernel)
set_option maxRecDepth 20000 in
theorem tb_400 : (Jvm.Cond.code ({ cls := "LieClock$Told", name := "tellOnce", desc := "(LLieClock$Law;)V" } : Jvm.MethodName) prog_12_method_4_code (1 : Nat) (Option.none : Option Jvm.ClassFile.FieldType)) ∈ TB := TB_of 400 rfl (by decide +kernel)
set_option maxRecDepth 20000 in
theorem tb_404 : (Jvm.Cond.code ({ cls := "LieClock$Law", name := "add", desc := "(I)V" } : Jvm.MethodName) prog_4_method_3_code (2 : Nat) (Option.none : Option Jvm.ClassFile.FieldType)) ∈ TB := TB_of 404 rfl (by decide +kernel)
set_option maxRecDepth 20000 in
theorem tb_735 : (Jvm.Cond.code ({ cls := "LieClock$Tokens", name := "skipBlanks", desc := "(LLieClock$Tape;I)I" } : Jvm.MethodName) prog_11_method_4_code (4 : Nat) (Option.some Jvm.ClassFile.FieldType.int)) ∈ TB := TB_of 735 rfl (by decide +kernel)
set_option maxRecDepth 20000 in
theorem tb_739 : (Jvm.Cond.code ({ cls := "LieClock$Tape", name := "at", desc := "(I)I" } : Jvm.MethodName) prog_10_method_3_code (2 : Nat) (Option.some Jvm.ClassFile.FieldType.int)) ∈ TB := TB_of 739 rfl (by decide +kernel)
set_option maxRecDepth 20000 in
theorem tb_742 : (Jvm.Cond.code ({ cls := "LieClock$Tokens", name := "isBlank", desc := "(I)Z" } : Jvm.MethodName) prog_11_method_11_code (1 : Nat) (Option.some Jvm.ClassFile.FieldType.boolean)) ∈ TB := TB_of 742 rfl (by decide +kernel)
set_option maxRecDepth 20000 in
theorem tb_746 : (Jvm.Cond.code ({ cls := "LieClock$Tokens", name := "cutOne", desc := "(LLieClock$Tape;I)I" } : Jvm.MethodName) prog_11_method_5_code (4 : Nat) (Option.some Jvm.ClassFile.FieldType.int)) ∈ TB := TB_of 746 rfl (by decide +kernel)
set_option maxRecDepth 20000 in
theorem tb_749 : (Jvm.Cond.code ({ cls := "LieClock$Tokens", name := "isLetter", desc := "(I)Z" } : Jvm.MethodName) prog_11_method_12_code (1 : Nat) (Option.some Jvm.ClassFile.FieldType.boolean)) ∈ TB := TB_of 749 rfl (by decide +kernel)
set_option maxRecDepth 20000 in
theorem tb_753 : (Jvm.Cond.code ({ cls := "LieClock$Tokens", name := "cutLetters", desc := "(LLieClock$Tape;I)I" } : Jvm.MethodName) prog_11_method_6_code (7 : Nat) (Option.some Jvm.ClassFile.FieldType.int)) ∈ TB := TB_of 753 rfl (by decide +kernel)
set_option maxRecDepth 20000 in
theorem tb_757 : (Jvm.Cond.code ({ cls := "LieClock$Tokens", name := "kindOf", desc := "(J)I" } : Jvm.MethodName) prog_11_method_9_code (4 : Nat) (Option.some Jvm.ClassFile.FieldType.int)) ∈ TB := TB_of 757 rfl (by decide +kernel)
set_option maxRecDepth 20000 in
theorem tb_761 : (Jvm.Cond.code ({ cls := "LieClock$Tokens", name := "add", desc := "(IIJ)V" } : Jvm.MethodName) prog_11_method_8_code (5 : Nat) (Option.none : Option Jvm.ClassFile.FieldType)) ∈ TB := TB_of 761 rfl (by decide +kernel)
set_option maxRecDepth 20000 in
theorem tb_764 : (Jvm.Cond.code ({ cls := "LieClock$Tokens", name := "isDigit", desc := "(I)Z" } : Jvm.MethodName) prog_11_method_13_code (1 : Nat) (Option.some Jvm.ClassFile.FieldType.boolean)) ∈ TB := TB_of 764 rfl (by decide +kernel)
set_option maxRecDepth 20000 in
theorem tb_768 : (Jvm.Cond.code ({ cls := "LieClock$Tokens", name := "cutDigits", desc := "(LLieClock$Tape;I)I" } : Jvm.MethodName) prog_11_method_7_code (7 : Nat) (Option.some Jvm.ClassFile.FieldType.int)) ∈ TB := TB_of 768 rfl (by decide +kernel)
set_option maxRecDepth 20000 in
theorem tb_775 : (Jvm.Cond.code ({ cls := "java/lang/String", name := "indexOf", desc := "(I)I" } : Jvm.MethodName) prog_20_method_79_code (2 : Nat) (Option.some Jvm.ClassFile.FieldType.int)) ∈ TB := TB_of 775 rfl (by decide +kernel)
set_option maxRecDepth 20000 in
theorem tb_779 : (Jvm.Cond.code ({ cls := "java/lang/String", name := "indexOf", desc := "(II)I" } : Jvm.MethodName) prog_20_method_80_code (3 : Nat) (Option.some Jvm.ClassFile.FieldType.int)) ∈ TB := TB_of 779 rfl (by decide +kernel)
set_option maxRecDepth 20000 in
theorem tb_783 : (Jvm.Cond.code ({ cls := "java/lang/StringLatin1", name := "indexOf", desc := "([BIII)I" } : Jvm.MethodName) prog_21_method_22_code (4 : Nat) (Option.some Jvm.ClassFile.FieldType.int)) ∈ TB := TB_of 783 rfl (by decide +kernel)
set_option maxRecDepth 20000 in
theorem tb_786 : (Jvm.Cond.code ({ cls := "java/lang/StringLatin1", name := "canEncode", desc := "(I)Z" } : Jvm.MethodName) prog_21_method_4_code (1 : Nat) (Option.some Jvm.ClassFile.FieldType.boolean)) ∈ TB := TB_of 786 rfl (by decide +kernel)
set_option maxRecDepth 20000 in
theorem tb_789 : (Jvm.Cond.code ({ cls := "java/lang/Math", name := "max", desc := "(II)I" } : Jvm.MethodName) prog_19_method_65_code (2 : Nat) (Option.some Jvm.ClassFile.FieldType.int)) ∈ TB := TB_of 789 rfl (by decide +kernel)
set_option maxRecDepth 20000 in
theorem tb_792 : (Jvm.Cond.code ({ cls := "java/lang/Math", name := "min", desc := "(II)I" } : Jvm.MethodName) prog_19_method_69_code (2 : Nat) (Option.some Jvm.ClassFile.FieldType.int)) ∈ TB := TB_of 792 rfl (by decide +kernel)
set_option maxRecDepth 20000 in
theorem tb_795 : (Jvm.Cond.code ({ cls := "java/lang/StringLatin1", name := "indexOfChar", desc := "([BIII)I" } : Jvm.MethodName) prog_21_method_23_code (6 : Nat) (Option.some Jvm.ClassFile.FieldType.int)) ∈ TB := TB_of 795 rfl (by decide +kernel)
set_option maxRecDepth 20000 in
theorem tb_838 : (Jvm.Cond.code ({ cls := "LieClock$Law", name := "clear", desc := "()V" } : Jvm.MethodName) prog_4_method_2_code (1 : Nat) (Option.none : Option Jvm.ClassFile.FieldType)) ∈ TB := TB_of 838 rfl (by decide +kernel)
set_option maxRecDepth 20000 in
theorem tb_870 : (Jvm.Cond.code ({ cls := "LieClock$Told", name := "factNamed", desc := "(J)I" } : Jvm.MethodName) prog_12_method_9_code (3 : Nat) (Option.some Jvm.ClassFile.FieldType.int)) ∈ TB := TB_of 870 rfl (by decide +kernel)
set_option maxRecDepth 20000 in
theorem tb_873 : (Jvm.Cond.code ({ cls := "LieClock$Told", name := "indexOf", desc := "([JIJ)I" } : Jvm.MethodName) prog_12_method_12_code (5 : Nat) (Option.some Jvm.ClassFile.FieldType.int)) ∈ TB := TB_of 873 rfl (by decide +kernel)
set_option maxRecDepth 20000 in
theorem tb_877 : (Jvm.Cond.code ({ cls := "LieClock$Told", name := "witnessNamed", desc := "(J)I" } : Jvm.MethodName) prog_12_method_10_code (3 : Nat) (Option.some Jvm.ClassFile.FieldType.int)) ∈ TB := TB_of 877 rfl (by decide +kernel)
set_option maxRecDepth 20000 in
theorem tb_1010 : (Jvm.Cond.code ({ cls := "java/lang/Integer", name := "bitCount", desc := "(I)I" } : Jvm.MethodName) prog_17_method_49_code (1 : Nat) (Option.some Jvm.ClassFile.FieldType.int)) ∈ TB := TB_of 1010 rfl (by decide +kernel)
set_option maxRecDepth 20000 in
theorem tb_1078 : (Jvm.Cond.code ({ cls := "LieClock$Law", name := "push", desc := "(I)V" } : Jvm.MethodName) prog_4_method_5_code (2 : Nat) (Option.none : Option Jvm.ClassFile.FieldType)) ∈ TB := TB_of 1078 rfl (by decide +kernel)
set_option maxRecDepth 20000 in
theorem tb_1082 : (Jvm.Cond.code ({ cls := "LieClock$Law", name := "operate", desc := "(I)V" } : Jvm.MethodName) prog_4_method_6_code (5 : Nat) (Option.none : Option Jvm.ClassFile.FieldType)) ∈ TB := TB_of 1082 rfl (by decide +kernel)
set_option maxRecDepth 20000 in
theorem tb_1086 : (Jvm.Cond.code ({ cls := "LieClock$State", name := "valueOf", desc := "(II)I" } : Jvm.MethodName) prog_9_method_11_code (3 : Nat) (Option.some Jvm.ClassFile.FieldType.int)) ∈ TB := TB_of 1086 rfl (by decide +kernel)
set_option maxRecDepth 20000 in
theorem tb_1090 : (Jvm.Cond.code ({ cls := "java/lang/Math", name := "floorMod", desc := "(II)I" } : Jvm.MethodName) prog_19_method_50_code (3 : Nat) (Option.some Jvm.ClassFile.FieldType.int)) ∈ TB := TB_of 1090 rfl (by decide +kernel)
