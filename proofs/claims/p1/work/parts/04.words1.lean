set_option maxRecDepth 20000 in
theorem tb_132 : (Jvm.Cond.code ({ cls := "LieClock", name := "<init>", desc := "()V" } : Jvm.MethodName) prog_1_method_1_code (2 : Nat) (Option.none : Option Jvm.ClassFile.FieldType)) ∈ TB := TB_of 132 rfl (by decide +kernel)
set_option maxRecDepth 20000 in
theorem tb_135 : (Jvm.Cond.code ({ cls := "java/lang/Object", name := "<init>", desc := "()V" } : Jvm.MethodName) object_method_1_code (1 : Nat) (Option.none : Option Jvm.ClassFile.FieldType)) ∈ TB := TB_of 135 rfl (by decide +kernel)
set_option maxRecDepth 20000 in
theorem tb_140 : (Jvm.Cond.code ({ cls := "LieClock$Tape", name := "<init>", desc := "()V" } : Jvm.MethodName) prog_10_method_1_code (1 : Nat) (Option.none : Option Jvm.ClassFile.FieldType)) ∈ TB := TB_of 140 rfl (by decide +kernel)
set_option maxRecDepth 20000 in
theorem tb_156 : (Jvm.Cond.code ({ cls := "LieClock$Told", name := "<init>", desc := "()V" } : Jvm.MethodName) prog_12_method_1_code (1 : Nat) (Option.none : Option Jvm.ClassFile.FieldType)) ∈ TB := TB_of 156 rfl (by decide +kernel)
set_option maxRecDepth 20000 in
theorem tb_162 : (Jvm.Cond.code ({ cls := "LieClock$Law", name := "<init>", desc := "()V" } : Jvm.MethodName) prog_4_method_1_code (1 : Nat) (Option.none : Option Jvm.ClassFile.FieldType)) ∈ TB := TB_of 162 rfl (by decide +kernel)
set_option maxRecDepth 20000 in
theorem tb_292 : (Jvm.Cond.code ({ cls := "LieClock$Parser", name := "<init>", desc := "(LLieClock$Told;)V" } : Jvm.MethodName) prog_7_method_1_code (2 : Nat) (Option.none : Option Jvm.ClassFile.FieldType)) ∈ TB := TB_of 292 rfl (by decide +kernel)
set_option maxRecDepth 20000 in
theorem tb_298 : (Jvm.Cond.code ({ cls := "LieClock$Tokens", name := "<init>", desc := "()V" } : Jvm.MethodName) prog_11_method_1_code (6 : Nat) (Option.none : Option Jvm.ClassFile.FieldType)) ∈ TB := TB_of 298 rfl (by decide +kernel)
set_option maxRecDepth 20000 in
theorem tb_304 : (Jvm.Cond.code ({ cls := "java/lang/String", name := "length", desc := "()I" } : Jvm.MethodName) prog_20_method_54_code (1 : Nat) (Option.some Jvm.ClassFile.FieldType.int)) ∈ TB := TB_of 304 rfl (by decide +kernel)
set_option maxRecDepth 20000 in
theorem tb_308 : (Jvm.Cond.code ({ cls := "java/lang/String", name := "coder", desc := "()B" } : Jvm.MethodName) prog_20_method_152_code (1 : Nat) (Option.some Jvm.ClassFile.FieldType.byte)) ∈ TB := TB_of 308 rfl (by decide +kernel)
set_option maxRecDepth 20000 in
theorem tb_314 : (Jvm.Cond.code ({ cls := "java/lang/String", name := "charAt", desc := "(I)C" } : Jvm.MethodName) prog_20_method_56_code (2 : Nat) (Option.some Jvm.ClassFile.FieldType.char)) ∈ TB := TB_of 314 rfl (by decide +kernel)
set_option maxRecDepth 20000 in
theorem tb_318 : (Jvm.Cond.code ({ cls := "java/lang/String", name := "isLatin1", desc := "()Z" } : Jvm.MethodName) prog_20_method_154_code (1 : Nat) (Option.some Jvm.ClassFile.FieldType.boolean)) ∈ TB := TB_of 318 rfl (by decide +kernel)
set_option maxRecDepth 20000 in
theorem tb_321 : (Jvm.Cond.code ({ cls := "java/lang/StringLatin1", name := "charAt", desc := "([BI)C" } : Jvm.MethodName) prog_21_method_2_code (2 : Nat) (Option.some Jvm.ClassFile.FieldType.char)) ∈ TB := TB_of 321 rfl (by decide +kernel)
set_option maxRecDepth 20000 in
theorem tb_324 : (Jvm.Cond.code ({ cls := "java/lang/String", name := "checkIndex", desc := "(II)V" } : Jvm.MethodName) prog_20_method_155_code (2 : Nat) (Option.none : Option Jvm.ClassFile.FieldType)) ∈ TB := TB_of 324 rfl (by decide +kernel)
set_option maxRecDepth 20000 in
theorem tb_329 : (Jvm.Cond.code ({ cls := "jdk/internal/util/Preconditions", name := "checkIndex", desc := "(IILjava/util/function/BiFunction;)I" } : Jvm.MethodName) prog_25_method_11_code (3 : Nat) (Option.some Jvm.ClassFile.FieldType.int)) ∈ TB := TB_of 329 rfl (by decide +kernel)
set_option maxRecDepth 20000 in
theorem tb_351 : (Jvm.Cond.code ({ cls := "LieClock$Tokens", name := "withLetter", desc := "(JI)J" } : Jvm.MethodName) prog_11_method_10_code (3 : Nat) (Option.some Jvm.ClassFile.FieldType.long)) ∈ TB := TB_of 351 rfl (by decide +kernel)
set_option maxRecDepth 20000 in
theorem tb_396 : (Jvm.Cond.code ({ cls := "LieClock$Told", name := "finish", desc := "()V" } : Jvm.MethodName) prog_12_method_3_code (2 : Nat) (Option.none : Option Jvm.ClassFile.FieldType)) ∈ TB := TB_of 396 rfl (by decide +kernel)
set_option maxRecDepth 20000 in
theorem tb_400 : (Jvm.Cond.code ({ cls := "LieClock$Told", name := "tellOnce", desc := "(LLieClock$Law;)V" } : Jvm.MethodName) prog_12_method_4_code (1 : Nat) (Option.none : Option Jvm.ClassFile.FieldType)) ∈ TB := TB_of 400 rfl (by decide +kernel)
set_option maxRecDepth 20000 in
theorem tb_404 : (Jvm.Cond.code ({ cls := "LieClock$Law", name := "add", desc := "(I)V" } : Jvm.MethodName) prog_4_method_3_code (2 : Nat) (Option.none : Option Jvm.ClassFile.FieldType)) ∈ TB := TB_of 404 rfl (by decide +kernel)
set_option maxRecDepth 20000 in
theorem tb_409 : (Jvm.Cond.code ({ cls := "LieClock$State", name := "<init>", desc := "(Z)V" } : Jvm.MethodName) prog_9_method_1_code (2 : Nat) (Option.none : Option Jvm.ClassFile.FieldType)) ∈ TB := TB_of 409 rfl (by decide +kernel)
set_option maxRecDepth 20000 in
theorem tb_474 : (Jvm.Cond.code ({ cls := "LieClock$State", name := "begin", desc := "(LLieClock$Told;)V" } : Jvm.MethodName) prog_9_method_2_code (3 : Nat) (Option.none : Option Jvm.ClassFile.FieldType)) ∈ TB := TB_of 474 rfl (by decide +kernel)
set_option maxRecDepth 20000 in
theorem tb_483 : (Jvm.Cond.code ({ cls := "java/util/Arrays", name := "fill", desc := "([II)V" } : Jvm.MethodName) prog_24_method_103_code (4 : Nat) (Option.none : Option Jvm.ClassFile.FieldType)) ∈ TB := TB_of 483 rfl (by decide +kernel)
set_option maxRecDepth 20000 in
theorem tb_490 : (Jvm.Cond.code ({ cls := "LieClock$Nodes", name := "<init>", desc := "()V" } : Jvm.MethodName) prog_5_method_1_code (1 : Nat) (Option.none : Option Jvm.ClassFile.FieldType)) ∈ TB := TB_of 490 rfl (by decide +kernel)
set_option maxRecDepth 20000 in
theorem tb_526 : (Jvm.Cond.code ({ cls := "LieClock$Sets", name := "<init>", desc := "()V" } : Jvm.MethodName) prog_8_method_1_code (1 : Nat) (Option.none : Option Jvm.ClassFile.FieldType)) ∈ TB := TB_of 526 rfl (by decide +kernel)
set_option maxRecDepth 20000 in
theorem tb_551 : (Jvm.Cond.code ({ cls := "LieClock$Orders", name := "<init>", desc := "()V" } : Jvm.MethodName) prog_6_method_1_code (2 : Nat) (Option.none : Option Jvm.ClassFile.FieldType)) ∈ TB := TB_of 551 rfl (by decide +kernel)
set_option maxRecDepth 20000 in
theorem tb_587 : (Jvm.Cond.code ({ cls := "LieClock$Ahead", name := "<init>", desc := "(LLieClock$Nodes;)V" } : Jvm.MethodName) prog_2_method_1_code (2 : Nat) (Option.none : Option Jvm.ClassFile.FieldType)) ∈ TB := TB_of 587 rfl (by decide +kernel)
set_option maxRecDepth 20000 in
theorem tb_624 : (Jvm.Cond.code ({ cls := "LieClock$Book", name := "<init>", desc := "(LLieClock$Nodes;)V" } : Jvm.MethodName) prog_3_method_1_code (2 : Nat) (Option.none : Option Jvm.ClassFile.FieldType)) ∈ TB := TB_of 624 rfl (by decide +kernel)
set_option maxRecDepth 20000 in
theorem tb_712 : (Jvm.Cond.code ({ cls := "LieClock", name := "feed", desc := "(IIIII)I" } : Jvm.MethodName) prog_1_method_2_code (6 : Nat) (Option.some Jvm.ClassFile.FieldType.int)) ∈ TB := TB_of 712 rfl (by decide +kernel)
set_option maxRecDepth 20000 in
theorem tb_716 : (Jvm.Cond.code ({ cls := "LieClock$Tape", name := "append", desc := "(I)V" } : Jvm.MethodName) prog_10_method_2_code (3 : Nat) (Option.none : Option Jvm.ClassFile.FieldType)) ∈ TB := TB_of 716 rfl (by decide +kernel)
set_option maxRecDepth 20000 in
theorem tb_720 : (Jvm.Cond.code ({ cls := "LieClock", name := "back", desc := "(I)I" } : Jvm.MethodName) prog_1_method_3_code (2 : Nat) (Option.some Jvm.ClassFile.FieldType.int)) ∈ TB := TB_of 720 rfl (by decide +kernel)
set_option maxRecDepth 20000 in
theorem tb_724 : (Jvm.Cond.code ({ cls := "LieClock", name := "read", desc := "()I" } : Jvm.MethodName) prog_1_method_4_code (4 : Nat) (Option.some Jvm.ClassFile.FieldType.int)) ∈ TB := TB_of 724 rfl (by decide +kernel)
set_option maxRecDepth 20000 in
theorem tb_728 : (Jvm.Cond.code ({ cls := "LieClock$Parser", name := "parse", desc := "(LLieClock$Tape;LLieClock$Told;)I" } : Jvm.MethodName) prog_7_method_2_code (4 : Nat) (Option.some Jvm.ClassFile.FieldType.int)) ∈ TB := TB_of 728 rfl (by decide +kernel)
set_option maxRecDepth 20000 in
theorem tb_732 : (Jvm.Cond.code ({ cls := "LieClock$Tokens", name := "cut", desc := "(LLieClock$Tape;)V" } : Jvm.MethodName) prog_11_method_2_code (5 : Nat) (Option.none : Option Jvm.ClassFile.FieldType)) ∈ TB := TB_of 732 rfl (by decide +kernel)
set_option maxRecDepth 20000 in
theorem tb_735 : (Jvm.Cond.code ({ cls := "LieClock$Tokens", name := "skipBlanks", desc := "(LLieClock$Tape;I)I" } : Jvm.MethodName) prog_11_method_4_code (4 : Nat) (Option.some Jvm.ClassFile.FieldType.int)) ∈ TB := TB_of 735 rfl (by decide +kernel)
set_option maxRecDepth 20000 in
theorem tb_739 : (Jvm.Cond.code ({ cls := "LieClock$Tape", name := "at", desc := "(I)I" } : Jvm.MethodName) prog_10_method_3_code (2 : Nat) (Option.some Jvm.ClassFile.FieldType.int)) ∈ TB := TB_of 739 rfl (by decide +kernel)
set_option maxRecDepth 20000 in
theorem tb_746 : (Jvm.Cond.code ({ cls := "LieClock$Tokens", name := "cutOne", desc := "(LLieClock$Tape;I)I" } : Jvm.MethodName) prog_11_method_5_code (4 : Nat) (Option.some Jvm.ClassFile.FieldType.int)) ∈ TB := TB_of 746 rfl (by decide +kernel)
set_option maxRecDepth 20000 in
theorem tb_749 : (Jvm.Cond.code ({ cls := "LieClock$Tokens", name := "isLetter", desc := "(I)Z" } : Jvm.MethodName) prog_11_method_12_code (1 : Nat) (Option.some Jvm.ClassFile.FieldType.boolean)) ∈ TB := TB_of 749 rfl (by decide +kernel)
set_option maxRecDepth 20000 in
theorem tb_761 : (Jvm.Cond.code ({ cls := "LieClock$Tokens", name := "add", desc := "(IIJ)V" } : Jvm.MethodName) prog_11_method_8_code (5 : Nat) (Option.none : Option Jvm.ClassFile.FieldType)) ∈ TB := TB_of 761 rfl (by decide +kernel)
set_option maxRecDepth 20000 in
theorem tb_764 : (Jvm.Cond.code ({ cls := "LieClock$Tokens", name := "isDigit", desc := "(I)Z" } : Jvm.MethodName) prog_11_method_13_code (1 : Nat) (Option.some Jvm.ClassFile.FieldType.boolean)) ∈ TB := TB_of 764 rfl (by decide +kernel)
set_option maxRecDepth 20000 in
theorem tb_789 : (Jvm.Cond.code ({ cls := "java/lang/Math", name := "max", desc := "(II)I" } : Jvm.MethodName) prog_19_method_65_code (2 : Nat) (Option.some Jvm.ClassFile.FieldType.int)) ∈ TB := TB_of 789 rfl (by decide +kernel)
set_option maxRecDepth 20000 in
theorem tb_792 : (Jvm.Cond.code ({ cls := "java/lang/Math", name := "min", desc := "(II)I" } : Jvm.MethodName) prog_19_method_69_code (2 : Nat) (Option.some Jvm.ClassFile.FieldType.int)) ∈ TB := TB_of 792 rfl (by decide +kernel)
set_option maxRecDepth 20000 in
theorem tb_834 : (Jvm.Cond.code ({ cls := "LieClock$Told", name := "clear", desc := "()V" } : Jvm.MethodName) prog_12_method_2_code (1 : Nat) (Option.none : Option Jvm.ClassFile.FieldType)) ∈ TB := TB_of 834 rfl (by decide +kernel)
set_option maxRecDepth 20000 in
theorem tb_838 : (Jvm.Cond.code ({ cls := "LieClock$Law", name := "clear", desc := "()V" } : Jvm.MethodName) prog_4_method_2_code (1 : Nat) (Option.none : Option Jvm.ClassFile.FieldType)) ∈ TB := TB_of 838 rfl (by decide +kernel)
set_option maxRecDepth 20000 in
theorem tb_969 : (Jvm.Cond.code ({ cls := "LieClock$Parser", name := "faultPlace", desc := "()I" } : Jvm.MethodName) prog_7_method_3_code (1 : Nat) (Option.some Jvm.ClassFile.FieldType.int)) ∈ TB := TB_of 969 rfl (by decide +kernel)
set_option maxRecDepth 20000 in
theorem tb_973 : (Jvm.Cond.code ({ cls := "LieClock$Book", name := "clear", desc := "()V" } : Jvm.MethodName) prog_3_method_2_code (2 : Nat) (Option.none : Option Jvm.ClassFile.FieldType)) ∈ TB := TB_of 973 rfl (by decide +kernel)
set_option maxRecDepth 20000 in
theorem tb_977 : (Jvm.Cond.code ({ cls := "LieClock", name := "forgetSearches", desc := "()V" } : Jvm.MethodName) prog_1_method_38_code (1 : Nat) (Option.none : Option Jvm.ClassFile.FieldType)) ∈ TB := TB_of 977 rfl (by decide +kernel)
set_option maxRecDepth 20000 in
theorem tb_981 : (Jvm.Cond.code ({ cls := "LieClock", name := "place", desc := "()I" } : Jvm.MethodName) prog_1_method_5_code (1 : Nat) (Option.some Jvm.ClassFile.FieldType.int)) ∈ TB := TB_of 981 rfl (by decide +kernel)
set_option maxRecDepth 20000 in
theorem tb_985 : (Jvm.Cond.code ({ cls := "LieClock", name := "clock", desc := "()I" } : Jvm.MethodName) prog_1_method_6_code (1 : Nat) (Option.some Jvm.ClassFile.FieldType.int)) ∈ TB := TB_of 985 rfl (by decide +kernel)
set_option maxRecDepth 20000 in
theorem tb_989 : (Jvm.Cond.code ({ cls := "LieClock", name := "fact", desc := "(II)I" } : Jvm.MethodName) prog_1_method_7_code (3 : Nat) (Option.some Jvm.ClassFile.FieldType.int)) ∈ TB := TB_of 989 rfl (by decide +kernel)
set_option maxRecDepth 20000 in
theorem tb_993 : (Jvm.Cond.code ({ cls := "LieClock", name := "word", desc := "(II)I" } : Jvm.MethodName) prog_1_method_8_code (3 : Nat) (Option.some Jvm.ClassFile.FieldType.int)) ∈ TB := TB_of 993 rfl (by decide +kernel)
set_option maxRecDepth 20000 in
theorem tb_997 : (Jvm.Cond.code ({ cls := "LieClock$Told", name := "hasWord", desc := "(I)Z" } : Jvm.MethodName) prog_12_method_13_code (2 : Nat) (Option.some Jvm.ClassFile.FieldType.boolean)) ∈ TB := TB_of 997 rfl (by decide +kernel)
set_option maxRecDepth 20000 in
theorem tb_1000 : (Jvm.Cond.code ({ cls := "java/lang/Long", name := "bitCount", desc := "(J)I" } : Jvm.MethodName) prog_18_method_50_code (2 : Nat) (Option.some Jvm.ClassFile.FieldType.int)) ∈ TB := TB_of 1000 rfl (by decide +kernel)
set_option maxRecDepth 20000 in
theorem tb_1007 : (Jvm.Cond.code ({ cls := "LieClock", name := "witness", desc := "(II)I" } : Jvm.MethodName) prog_1_method_9_code (4 : Nat) (Option.some Jvm.ClassFile.FieldType.int)) ∈ TB := TB_of 1007 rfl (by decide +kernel)
set_option maxRecDepth 20000 in
theorem tb_1010 : (Jvm.Cond.code ({ cls := "java/lang/Integer", name := "bitCount", desc := "(I)I" } : Jvm.MethodName) prog_17_method_49_code (1 : Nat) (Option.some Jvm.ClassFile.FieldType.int)) ∈ TB := TB_of 1010 rfl (by decide +kernel)
set_option maxRecDepth 20000 in
theorem tb_1017 : (Jvm.Cond.code ({ cls := "LieClock$Told", name := "together", desc := "(I)J" } : Jvm.MethodName) prog_12_method_16_code (5 : Nat) (Option.some Jvm.ClassFile.FieldType.long)) ∈ TB := TB_of 1017 rfl (by decide +kernel)
set_option maxRecDepth 20000 in
theorem tb_1021 : (Jvm.Cond.code ({ cls := "LieClock", name := "share", desc := "(I)I" } : Jvm.MethodName) prog_1_method_10_code (2 : Nat) (Option.some Jvm.ClassFile.FieldType.int)) ∈ TB := TB_of 1021 rfl (by decide +kernel)
set_option maxRecDepth 20000 in
theorem tb_1026 : (Jvm.Cond.code ({ cls := "LieClock", name := "hearing", desc := "(II)I" } : Jvm.MethodName) prog_1_method_11_code (3 : Nat) (Option.some Jvm.ClassFile.FieldType.int)) ∈ TB := TB_of 1026 rfl (by decide +kernel)
set_option maxRecDepth 20000 in
theorem tb_1030 : (Jvm.Cond.code ({ cls := "LieClock$Told", name := "hasCase", desc := "(I)Z" } : Jvm.MethodName) prog_12_method_14_code (2 : Nat) (Option.some Jvm.ClassFile.FieldType.boolean)) ∈ TB := TB_of 1030 rfl (by decide +kernel)
set_option maxRecDepth 20000 in
theorem tb_1039 : (Jvm.Cond.code ({ cls := "LieClock", name := "say", desc := "(I)I" } : Jvm.MethodName) prog_1_method_12_code (2 : Nat) (Option.some Jvm.ClassFile.FieldType.int)) ∈ TB := TB_of 1039 rfl (by decide +kernel)
set_option maxRecDepth 20000 in
theorem tb_1043 : (Jvm.Cond.code ({ cls := "LieClock", name := "keepForUndo", desc := "()V" } : Jvm.MethodName) prog_1_method_37_code (1 : Nat) (Option.none : Option Jvm.ClassFile.FieldType)) ∈ TB := TB_of 1043 rfl (by decide +kernel)
set_option maxRecDepth 20000 in
theorem tb_1047 : (Jvm.Cond.code ({ cls := "LieClock$State", name := "copyFrom", desc := "(LLieClock$State;)V" } : Jvm.MethodName) prog_9_method_3_code (2 : Nat) (Option.none : Option Jvm.ClassFile.FieldType)) ∈ TB := TB_of 1047 rfl (by decide +kernel)
set_option maxRecDepth 20000 in
theorem tb_1051 : (Jvm.Cond.code ({ cls := "LieClock$State", name := "copyMoment", desc := "(LLieClock$State;)V" } : Jvm.MethodName) prog_9_method_4_code (2 : Nat) (Option.none : Option Jvm.ClassFile.FieldType)) ∈ TB := TB_of 1051 rfl (by decide +kernel)
set_option maxRecDepth 20000 in
theorem tb_1063 : (Jvm.Cond.code ({ cls := "LieClock$State", name := "goForward", desc := "(LLieClock$Told;I)V" } : Jvm.MethodName) prog_9_method_7_code (6 : Nat) (Option.none : Option Jvm.ClassFile.FieldType)) ∈ TB := TB_of 1063 rfl (by decide +kernel)
set_option maxRecDepth 20000 in
theorem tb_1102 : (Jvm.Cond.code ({ cls := "LieClock", name := "look", desc := "(I)I" } : Jvm.MethodName) prog_1_method_13_code (2 : Nat) (Option.some Jvm.ClassFile.FieldType.int)) ∈ TB := TB_of 1102 rfl (by decide +kernel)
set_option maxRecDepth 20000 in
theorem tb_1110 : (Jvm.Cond.code ({ cls := "LieClock", name := "pause", desc := "(I)I" } : Jvm.MethodName) prog_1_method_14_code (2 : Nat) (Option.some Jvm.ClassFile.FieldType.int)) ∈ TB := TB_of 1110 rfl (by decide +kernel)
set_option maxRecDepth 20000 in
theorem tb_1115 : (Jvm.Cond.code ({ cls := "LieClock", name := "undo", desc := "()Z" } : Jvm.MethodName) prog_1_method_15_code (1 : Nat) (Option.some Jvm.ClassFile.FieldType.boolean)) ∈ TB := TB_of 1115 rfl (by decide +kernel)
set_option maxRecDepth 20000 in
theorem tb_1119 : (Jvm.Cond.code ({ cls := "LieClock", name := "would", desc := "(I)I" } : Jvm.MethodName) prog_1_method_16_code (2 : Nat) (Option.some Jvm.ClassFile.FieldType.int)) ∈ TB := TB_of 1119 rfl (by decide +kernel)
set_option maxRecDepth 20000 in
theorem tb_1124 : (Jvm.Cond.code ({ cls := "LieClock", name := "ahead", desc := "(III)I" } : Jvm.MethodName) prog_1_method_17_code (4 : Nat) (Option.some Jvm.ClassFile.FieldType.int)) ∈ TB := TB_of 1124 rfl (by decide +kernel)
set_option maxRecDepth 20000 in
theorem tb_1128 : (Jvm.Cond.code ({ cls := "LieClock", name := "areTwoCases", desc := "(II)Z" } : Jvm.MethodName) prog_1_method_35_code (3 : Nat) (Option.some Jvm.ClassFile.FieldType.boolean)) ∈ TB := TB_of 1128 rfl (by decide +kernel)
set_option maxRecDepth 20000 in
theorem tb_1136 : (Jvm.Cond.code ({ cls := "LieClock$Nodes", name := "clear", desc := "()V" } : Jvm.MethodName) prog_5_method_2_code (1 : Nat) (Option.none : Option Jvm.ClassFile.FieldType)) ∈ TB := TB_of 1136 rfl (by decide +kernel)
set_option maxRecDepth 20000 in
theorem tb_1142 : (Jvm.Cond.code ({ cls := "LieClock$Nodes", name := "add", desc := "(LLieClock$State;IJI)V" } : Jvm.MethodName) prog_5_method_4_code (7 : Nat) (Option.none : Option Jvm.ClassFile.FieldType)) ∈ TB := TB_of 1142 rfl (by decide +kernel)
set_option maxRecDepth 20000 in
theorem tb_1146 : (Jvm.Cond.code ({ cls := "LieClock$Nodes", name := "slotOf", desc := "(LLieClock$State;I)I" } : Jvm.MethodName) prog_5_method_7_code (9 : Nat) (Option.some Jvm.ClassFile.FieldType.int)) ∈ TB := TB_of 1146 rfl (by decide +kernel)
set_option maxRecDepth 20000 in
theorem tb_1149 : (Jvm.Cond.code ({ cls := "LieClock$Nodes", name := "packed", desc := "(LLieClock$State;)I" } : Jvm.MethodName) prog_5_method_5_code (1 : Nat) (Option.some Jvm.ClassFile.FieldType.int)) ∈ TB := TB_of 1149 rfl (by decide +kernel)
set_option maxRecDepth 20000 in
theorem tb_1152 : (Jvm.Cond.code ({ cls := "LieClock$Nodes", name := "hash", desc := "(III)I" } : Jvm.MethodName) prog_5_method_6_code (4 : Nat) (Option.some Jvm.ClassFile.FieldType.int)) ∈ TB := TB_of 1152 rfl (by decide +kernel)
set_option maxRecDepth 20000 in
theorem tb_1206 : (Jvm.Cond.code ({ cls := "LieClock", name := "aheadAt", desc := "(III)I" } : Jvm.MethodName) prog_1_method_18_code (4 : Nat) (Option.some Jvm.ClassFile.FieldType.int)) ∈ TB := TB_of 1206 rfl (by decide +kernel)
set_option maxRecDepth 20000 in
theorem tb_1210 : (Jvm.Cond.code ({ cls := "LieClock", name := "order", desc := "(IZ)I" } : Jvm.MethodName) prog_1_method_19_code (3 : Nat) (Option.some Jvm.ClassFile.FieldType.int)) ∈ TB := TB_of 1210 rfl (by decide +kernel)
set_option maxRecDepth 20000 in
theorem tb_1214 : (Jvm.Cond.code ({ cls := "LieClock", name := "canBeOrdered", desc := "(I)Z" } : Jvm.MethodName) prog_1_method_36_code (2 : Nat) (Option.some Jvm.ClassFile.FieldType.boolean)) ∈ TB := TB_of 1214 rfl (by decide +kernel)
set_option maxRecDepth 20000 in
theorem tb_1218 : (Jvm.Cond.code ({ cls := "LieClock$Told", name := "hasSet", desc := "(I)Z" } : Jvm.MethodName) prog_12_method_15_code (2 : Nat) (Option.some Jvm.ClassFile.FieldType.boolean)) ∈ TB := TB_of 1218 rfl (by decide +kernel)
set_option maxRecDepth 20000 in
theorem tb_1222 : (Jvm.Cond.code ({ cls := "LieClock$Orders", name := "find", desc := "(LLieClock$Told;LLieClock$State;IZ)V" } : Jvm.MethodName) prog_6_method_2_code (5 : Nat) (Option.none : Option Jvm.ClassFile.FieldType)) ∈ TB := TB_of 1222 rfl (by decide +kernel)
set_option maxRecDepth 20000 in
theorem tb_1227 : (Jvm.Cond.code ({ cls := "LieClock$Orders", name := "extend", desc := "(LLieClock$Told;II)V" } : Jvm.MethodName) prog_6_method_3_code (6 : Nat) (Option.none : Option Jvm.ClassFile.FieldType)) ∈ TB := TB_of 1227 rfl (by decide +kernel)
set_option maxRecDepth 20000 in
theorem tb_1233 : (Jvm.Cond.code ({ cls := "LieClock$Orders", name := "judge", desc := "(I)V" } : Jvm.MethodName) prog_6_method_4_code (2 : Nat) (Option.none : Option Jvm.ClassFile.FieldType)) ∈ TB := TB_of 1233 rfl (by decide +kernel)
set_option maxRecDepth 20000 in
theorem tb_1239 : (Jvm.Cond.code ({ cls := "LieClock", name := "orderAt", desc := "(IZI)I" } : Jvm.MethodName) prog_1_method_20_code (4 : Nat) (Option.some Jvm.ClassFile.FieldType.int)) ∈ TB := TB_of 1239 rfl (by decide +kernel)
set_option maxRecDepth 20000 in
theorem tb_1243 : (Jvm.Cond.code ({ cls := "LieClock", name := "never", desc := "(II)I" } : Jvm.MethodName) prog_1_method_21_code (3 : Nat) (Option.some Jvm.ClassFile.FieldType.int)) ∈ TB := TB_of 1243 rfl (by decide +kernel)
set_option maxRecDepth 20000 in
theorem tb_1247 : (Jvm.Cond.code ({ cls := "LieClock$Orders", name := "canAvoid", desc := "(LLieClock$Told;LLieClock$State;II)Z" } : Jvm.MethodName) prog_6_method_5_code (5 : Nat) (Option.some Jvm.ClassFile.FieldType.boolean)) ∈ TB := TB_of 1247 rfl (by decide +kernel)
set_option maxRecDepth 20000 in
theorem tb_1251 : (Jvm.Cond.code ({ cls := "LieClock$Orders", name := "avoids", desc := "(LLieClock$Told;III)Z" } : Jvm.MethodName) prog_6_method_6_code (7 : Nat) (Option.some Jvm.ClassFile.FieldType.boolean)) ∈ TB := TB_of 1251 rfl (by decide +kernel)
set_option maxRecDepth 20000 in
theorem tb_1255 : (Jvm.Cond.code ({ cls := "LieClock", name := "smallest", desc := "()I" } : Jvm.MethodName) prog_1_method_22_code (1 : Nat) (Option.some Jvm.ClassFile.FieldType.int)) ∈ TB := TB_of 1255 rfl (by decide +kernel)
set_option maxRecDepth 20000 in
theorem tb_1259 : (Jvm.Cond.code ({ cls := "LieClock$Sets", name := "takeWords", desc := "(LLieClock$Told;I)V" } : Jvm.MethodName) prog_8_method_2_code (4 : Nat) (Option.none : Option Jvm.ClassFile.FieldType)) ∈ TB := TB_of 1259 rfl (by decide +kernel)
set_option maxRecDepth 20000 in
theorem tb_1268 : (Jvm.Cond.code ({ cls := "LieClock$Sets", name := "fewest", desc := "(JJJ)I" } : Jvm.MethodName) prog_8_method_5_code (9 : Nat) (Option.some Jvm.ClassFile.FieldType.int)) ∈ TB := TB_of 1268 rfl (by decide +kernel)
set_option maxRecDepth 20000 in
theorem tb_1272 : (Jvm.Cond.code ({ cls := "LieClock$Sets", name := "isEnough", desc := "(J)Z" } : Jvm.MethodName) prog_8_method_6_code (3 : Nat) (Option.some Jvm.ClassFile.FieldType.boolean)) ∈ TB := TB_of 1272 rfl (by decide +kernel)
set_option maxRecDepth 20000 in
theorem tb_1281 : (Jvm.Cond.code ({ cls := "LieClock", name := "states", desc := "(I)I" } : Jvm.MethodName) prog_1_method_23_code (2 : Nat) (Option.some Jvm.ClassFile.FieldType.int)) ∈ TB := TB_of 1281 rfl (by decide +kernel)
set_option maxRecDepth 20000 in
theorem tb_1285 : (Jvm.Cond.code ({ cls := "LieClock", name := "looks", desc := "(I)I" } : Jvm.MethodName) prog_1_method_24_code (2 : Nat) (Option.some Jvm.ClassFile.FieldType.int)) ∈ TB := TB_of 1285 rfl (by decide +kernel)
set_option maxRecDepth 20000 in
theorem tb_1294 : (Jvm.Cond.code ({ cls := "LieClock", name := "settled", desc := "(I)I" } : Jvm.MethodName) prog_1_method_25_code (4 : Nat) (Option.some Jvm.ClassFile.FieldType.int)) ∈ TB := TB_of 1294 rfl (by decide +kernel)
set_option maxRecDepth 20000 in
theorem tb_1298 : (Jvm.Cond.code ({ cls := "LieClock", name := "write", desc := "(I)I" } : Jvm.MethodName) prog_1_method_26_code (2 : Nat) (Option.some Jvm.ClassFile.FieldType.int)) ∈ TB := TB_of 1298 rfl (by decide +kernel)
set_option maxRecDepth 20000 in
theorem tb_1304 : (Jvm.Cond.code ({ cls := "LieClock$Book", name := "add", desc := "(I)I" } : Jvm.MethodName) prog_3_method_3_code (2 : Nat) (Option.some Jvm.ClassFile.FieldType.int)) ∈ TB := TB_of 1304 rfl (by decide +kernel)
set_option maxRecDepth 20000 in
theorem tb_1308 : (Jvm.Cond.code ({ cls := "LieClock", name := "burn", desc := "()I" } : Jvm.MethodName) prog_1_method_27_code (2 : Nat) (Option.some Jvm.ClassFile.FieldType.int)) ∈ TB := TB_of 1308 rfl (by decide +kernel)
set_option maxRecDepth 20000 in
theorem tb_1312 : (Jvm.Cond.code ({ cls := "LieClock", name := "fits", desc := "(I)J" } : Jvm.MethodName) prog_1_method_28_code (2 : Nat) (Option.some Jvm.ClassFile.FieldType.long)) ∈ TB := TB_of 1312 rfl (by decide +kernel)
set_option maxRecDepth 20000 in
theorem tb_1316 : (Jvm.Cond.code ({ cls := "LieClock$Book", name := "find", desc := "(LLieClock$Told;I)V" } : Jvm.MethodName) prog_3_method_4_code (7 : Nat) (Option.none : Option Jvm.ClassFile.FieldType)) ∈ TB := TB_of 1316 rfl (by decide +kernel)
set_option maxRecDepth 20000 in
theorem tb_1335 : (Jvm.Cond.code ({ cls := "LieClock", name := "surely", desc := "(I)I" } : Jvm.MethodName) prog_1_method_29_code (2 : Nat) (Option.some Jvm.ClassFile.FieldType.int)) ∈ TB := TB_of 1335 rfl (by decide +kernel)
set_option maxRecDepth 20000 in
theorem tb_1339 : (Jvm.Cond.code ({ cls := "LieClock", name := "liars", desc := "(I)I" } : Jvm.MethodName) prog_1_method_30_code (2 : Nat) (Option.some Jvm.ClassFile.FieldType.int)) ∈ TB := TB_of 1339 rfl (by decide +kernel)
set_option maxRecDepth 20000 in
theorem tb_1343 : (Jvm.Cond.code ({ cls := "LieClock", name := "hold", desc := "(I)Z" } : Jvm.MethodName) prog_1_method_31_code (2 : Nat) (Option.some Jvm.ClassFile.FieldType.boolean)) ∈ TB := TB_of 1343 rfl (by decide +kernel)
set_option maxRecDepth 20000 in
theorem tb_1347 : (Jvm.Cond.code ({ cls := "LieClock$Tape", name := "copyFrom", desc := "(LLieClock$Tape;)V" } : Jvm.MethodName) prog_10_method_4_code (2 : Nat) (Option.none : Option Jvm.ClassFile.FieldType)) ∈ TB := TB_of 1347 rfl (by decide +kernel)
set_option maxRecDepth 20000 in
theorem tb_1352 : (Jvm.Cond.code ({ cls := "LieClock", name := "restore", desc := "(I)Z" } : Jvm.MethodName) prog_1_method_32_code (2 : Nat) (Option.some Jvm.ClassFile.FieldType.boolean)) ∈ TB := TB_of 1352 rfl (by decide +kernel)
set_option maxRecDepth 20000 in
theorem tb_1356 : (Jvm.Cond.code ({ cls := "LieClock", name := "count", desc := "(I)I" } : Jvm.MethodName) prog_1_method_33_code (2 : Nat) (Option.some Jvm.ClassFile.FieldType.int)) ∈ TB := TB_of 1356 rfl (by decide +kernel)
set_option maxRecDepth 20000 in
theorem tb_1360 : (Jvm.Cond.code ({ cls := "LieClock", name := "heldSlots", desc := "()I" } : Jvm.MethodName) prog_1_method_34_code (3 : Nat) (Option.some Jvm.ClassFile.FieldType.int)) ∈ TB := TB_of 1360 rfl (by decide +kernel)
set_option maxRecDepth 20000 in
theorem tb_1365 : (Jvm.Cond.code ({ cls := "LieClockModel", name := "<init>", desc := "()V" } : Jvm.MethodName) prog_14_method_2_code (1 : Nat) (Option.none : Option Jvm.ClassFile.FieldType)) ∈ TB := TB_of 1365 rfl (by decide +kernel)
set_option maxRecDepth 20000 in
theorem tb_1370 : (Jvm.Cond.code ({ cls := "LieClockModel", name := "word", desc := "(IIIIIII)J" } : Jvm.MethodName) prog_14_method_10_code (7 : Nat) (Option.some Jvm.ClassFile.FieldType.long)) ∈ TB := TB_of 1370 rfl (by decide +kernel)
set_option maxRecDepth 20000 in
theorem tb_1373 : (Jvm.Cond.code ({ cls := "LieClockModel", name := "appends", desc := "(JI)J" } : Jvm.MethodName) prog_14_method_9_code (3 : Nat) (Option.some Jvm.ClassFile.FieldType.long)) ∈ TB := TB_of 1373 rfl (by decide +kernel)
set_option maxRecDepth 20000 in
theorem tb_1585 : (Jvm.Cond.code ({ cls := "LieClockModel", name := "feed", desc := "(IIIII)I" } : Jvm.MethodName) prog_14_method_3_code (6 : Nat) (Option.some Jvm.ClassFile.FieldType.int)) ∈ TB := TB_of 1585 rfl (by decide +kernel)
set_option maxRecDepth 20000 in
theorem tb_1589 : (Jvm.Cond.code ({ cls := "LieClockModel", name := "put", desc := "(I)V" } : Jvm.MethodName) prog_14_method_4_code (3 : Nat) (Option.none : Option Jvm.ClassFile.FieldType)) ∈ TB := TB_of 1589 rfl (by decide +kernel)
set_option maxRecDepth 20000 in
theorem tb_1593 : (Jvm.Cond.code ({ cls := "LieClockModel", name := "back", desc := "(I)I" } : Jvm.MethodName) prog_14_method_5_code (2 : Nat) (Option.some Jvm.ClassFile.FieldType.int)) ∈ TB := TB_of 1593 rfl (by decide +kernel)
set_option maxRecDepth 20000 in
theorem tb_1597 : (Jvm.Cond.code ({ cls := "LieClockModel", name := "read", desc := "()I" } : Jvm.MethodName) prog_14_method_19_code (2 : Nat) (Option.some Jvm.ClassFile.FieldType.int)) ∈ TB := TB_of 1597 rfl (by decide +kernel)
set_option maxRecDepth 20000 in
theorem tb_1601 : (Jvm.Cond.code ({ cls := "LieClockModel", name := "cut", desc := "()V" } : Jvm.MethodName) prog_14_method_12_code (8 : Nat) (Option.none : Option Jvm.ClassFile.FieldType)) ∈ TB := TB_of 1601 rfl (by decide +kernel)
set_option maxRecDepth 20000 in
theorem tb_1605 : (Jvm.Cond.code ({ cls := "LieClockModel", name := "byteAt", desc := "(I)I" } : Jvm.MethodName) prog_14_method_6_code (2 : Nat) (Option.some Jvm.ClassFile.FieldType.int)) ∈ TB := TB_of 1605 rfl (by decide +kernel)
set_option maxRecDepth 20000 in
theorem tb_1609 : (Jvm.Cond.code ({ cls := "LieClockModel", name := "token", desc := "(IIIJ)V" } : Jvm.MethodName) prog_14_method_11_code (6 : Nat) (Option.none : Option Jvm.ClassFile.FieldType)) ∈ TB := TB_of 1609 rfl (by decide +kernel)
set_option maxRecDepth 20000 in
theorem tb_1623 : (Jvm.Cond.code ({ cls := "LieClockModel", name := "is", desc := "(I)Z" } : Jvm.MethodName) prog_14_method_14_code (2 : Nat) (Option.some Jvm.ClassFile.FieldType.boolean)) ∈ TB := TB_of 1623 rfl (by decide +kernel)
set_option maxRecDepth 20000 in
theorem tb_1719 : (Jvm.Cond.code ({ cls := "LieClockModel", name := "begins", desc := "()V" } : Jvm.MethodName) prog_14_method_47_code (2 : Nat) (Option.none : Option Jvm.ClassFile.FieldType)) ∈ TB := TB_of 1719 rfl (by decide +kernel)
set_option maxRecDepth 20000 in
theorem tb_1723 : (Jvm.Cond.code ({ cls := "LieClockModel", name := "place", desc := "()I" } : Jvm.MethodName) prog_14_method_20_code (1 : Nat) (Option.some Jvm.ClassFile.FieldType.int)) ∈ TB := TB_of 1723 rfl (by decide +kernel)
set_option maxRecDepth 20000 in
theorem tb_1727 : (Jvm.Cond.code ({ cls := "LieClockModel", name := "clock", desc := "()I" } : Jvm.MethodName) prog_14_method_61_code (1 : Nat) (Option.some Jvm.ClassFile.FieldType.int)) ∈ TB := TB_of 1727 rfl (by decide +kernel)
set_option maxRecDepth 20000 in
theorem tb_1731 : (Jvm.Cond.code ({ cls := "LieClockModel", name := "fact", desc := "(II)I" } : Jvm.MethodName) prog_14_method_62_code (3 : Nat) (Option.some Jvm.ClassFile.FieldType.int)) ∈ TB := TB_of 1731 rfl (by decide +kernel)
set_option maxRecDepth 20000 in
theorem tb_1734 : (Jvm.Cond.code ({ cls := "LieClockModel", name := "in", desc := "(III)Z" } : Jvm.MethodName) prog_14_method_41_code (3 : Nat) (Option.some Jvm.ClassFile.FieldType.boolean)) ∈ TB := TB_of 1734 rfl (by decide +kernel)
set_option maxRecDepth 20000 in
theorem tb_1738 : (Jvm.Cond.code ({ cls := "LieClockModel", name := "word", desc := "(II)I" } : Jvm.MethodName) prog_14_method_63_code (3 : Nat) (Option.some Jvm.ClassFile.FieldType.int)) ∈ TB := TB_of 1738 rfl (by decide +kernel)
set_option maxRecDepth 20000 in
theorem tb_1742 : (Jvm.Cond.code ({ cls := "LieClockModel", name := "isWord", desc := "(I)Z" } : Jvm.MethodName) prog_14_method_42_code (2 : Nat) (Option.some Jvm.ClassFile.FieldType.boolean)) ∈ TB := TB_of 1742 rfl (by decide +kernel)
set_option maxRecDepth 20000 in
theorem tb_1757 : (Jvm.Cond.code ({ cls := "LieClockModel", name := "many", desc := "(J)I" } : Jvm.MethodName) prog_14_method_50_code (4 : Nat) (Option.some Jvm.ClassFile.FieldType.int)) ∈ TB := TB_of 1757 rfl (by decide +kernel)
set_option maxRecDepth 20000 in
theorem tb_1761 : (Jvm.Cond.code ({ cls := "LieClockModel", name := "witness", desc := "(II)I" } : Jvm.MethodName) prog_14_method_64_code (3 : Nat) (Option.some Jvm.ClassFile.FieldType.int)) ∈ TB := TB_of 1761 rfl (by decide +kernel)
set_option maxRecDepth 20000 in
theorem tb_1765 : (Jvm.Cond.code ({ cls := "LieClockModel", name := "isWitness", desc := "(I)Z" } : Jvm.MethodName) prog_14_method_44_code (2 : Nat) (Option.some Jvm.ClassFile.FieldType.boolean)) ∈ TB := TB_of 1765 rfl (by decide +kernel)
set_option maxRecDepth 20000 in
theorem tb_1769 : (Jvm.Cond.code ({ cls := "LieClockModel", name := "copies", desc := "()V" } : Jvm.MethodName) prog_14_method_48_code (2 : Nat) (Option.none : Option Jvm.ClassFile.FieldType)) ∈ TB := TB_of 1769 rfl (by decide +kernel)
set_option maxRecDepth 20000 in
theorem tb_1776 : (Jvm.Cond.code ({ cls := "LieClockModel", name := "bits", desc := "(I)I" } : Jvm.MethodName) prog_14_method_49_code (3 : Nat) (Option.some Jvm.ClassFile.FieldType.int)) ∈ TB := TB_of 1776 rfl (by decide +kernel)
set_option maxRecDepth 20000 in
theorem tb_1784 : (Jvm.Cond.code ({ cls := "LieClockModel", name := "mayBe", desc := "(I)J" } : Jvm.MethodName) prog_14_method_52_code (5 : Nat) (Option.some Jvm.ClassFile.FieldType.long)) ∈ TB := TB_of 1784 rfl (by decide +kernel)
set_option maxRecDepth 20000 in
theorem tb_1788 : (Jvm.Cond.code ({ cls := "LieClockModel", name := "share", desc := "(I)I" } : Jvm.MethodName) prog_14_method_65_code (2 : Nat) (Option.some Jvm.ClassFile.FieldType.int)) ∈ TB := TB_of 1788 rfl (by decide +kernel)
set_option maxRecDepth 20000 in
theorem tb_1793 : (Jvm.Cond.code ({ cls := "LieClockModel", name := "hearing", desc := "(II)I" } : Jvm.MethodName) prog_14_method_66_code (3 : Nat) (Option.some Jvm.ClassFile.FieldType.int)) ∈ TB := TB_of 1793 rfl (by decide +kernel)
set_option maxRecDepth 20000 in
theorem tb_1797 : (Jvm.Cond.code ({ cls := "LieClockModel", name := "isCase", desc := "(I)Z" } : Jvm.MethodName) prog_14_method_43_code (2 : Nat) (Option.some Jvm.ClassFile.FieldType.boolean)) ∈ TB := TB_of 1797 rfl (by decide +kernel)
set_option maxRecDepth 20000 in
theorem tb_1805 : (Jvm.Cond.code ({ cls := "LieClockModel", name := "say", desc := "(I)I" } : Jvm.MethodName) prog_14_method_68_code (3 : Nat) (Option.some Jvm.ClassFile.FieldType.int)) ∈ TB := TB_of 1805 rfl (by decide +kernel)
set_option maxRecDepth 20000 in
theorem tb_1813 : (Jvm.Cond.code ({ cls := "LieClockModel", name := "forward", desc := "(I)V" } : Jvm.MethodName) prog_14_method_55_code (4 : Nat) (Option.none : Option Jvm.ClassFile.FieldType)) ∈ TB := TB_of 1813 rfl (by decide +kernel)
set_option maxRecDepth 20000 in
theorem tb_1822 : (Jvm.Cond.code ({ cls := "LieClockModel", name := "heardAll", desc := "()I" } : Jvm.MethodName) prog_14_method_53_code (3 : Nat) (Option.some Jvm.ClassFile.FieldType.int)) ∈ TB := TB_of 1822 rfl (by decide +kernel)
set_option maxRecDepth 20000 in
theorem tb_1835 : (Jvm.Cond.code ({ cls := "LieClockModel", name := "keeps", desc := "()V" } : Jvm.MethodName) prog_14_method_67_code (2 : Nat) (Option.none : Option Jvm.ClassFile.FieldType)) ∈ TB := TB_of 1835 rfl (by decide +kernel)
set_option maxRecDepth 20000 in
theorem tb_1839 : (Jvm.Cond.code ({ cls := "LieClockModel", name := "look", desc := "(I)I" } : Jvm.MethodName) prog_14_method_69_code (4 : Nat) (Option.some Jvm.ClassFile.FieldType.int)) ∈ TB := TB_of 1839 rfl (by decide +kernel)
set_option maxRecDepth 20000 in
theorem tb_1843 : (Jvm.Cond.code ({ cls := "LieClockModel", name := "pause", desc := "(I)I" } : Jvm.MethodName) prog_14_method_70_code (2 : Nat) (Option.some Jvm.ClassFile.FieldType.int)) ∈ TB := TB_of 1843 rfl (by decide +kernel)
set_option maxRecDepth 20000 in
theorem tb_1847 : (Jvm.Cond.code ({ cls := "LieClockModel", name := "undo", desc := "()Z" } : Jvm.MethodName) prog_14_method_71_code (2 : Nat) (Option.some Jvm.ClassFile.FieldType.boolean)) ∈ TB := TB_of 1847 rfl (by decide +kernel)
set_option maxRecDepth 20000 in
theorem tb_1851 : (Jvm.Cond.code ({ cls := "LieClockModel", name := "would", desc := "(I)I" } : Jvm.MethodName) prog_14_method_72_code (2 : Nat) (Option.some Jvm.ClassFile.FieldType.int)) ∈ TB := TB_of 1851 rfl (by decide +kernel)
set_option maxRecDepth 20000 in
theorem tb_1855 : (Jvm.Cond.code ({ cls := "LieClockModel", name := "ahead", desc := "(III)I" } : Jvm.MethodName) prog_14_method_76_code (6 : Nat) (Option.some Jvm.ClassFile.FieldType.int)) ∈ TB := TB_of 1855 rfl (by decide +kernel)
set_option maxRecDepth 20000 in
theorem tb_1871 : (Jvm.Cond.code ({ cls := "LieClockModel", name := "aheadAt", desc := "(III)I" } : Jvm.MethodName) prog_14_method_77_code (4 : Nat) (Option.some Jvm.ClassFile.FieldType.int)) ∈ TB := TB_of 1871 rfl (by decide +kernel)
set_option maxRecDepth 20000 in
theorem tb_1875 : (Jvm.Cond.code ({ cls := "LieClockModel", name := "order", desc := "(IZ)I" } : Jvm.MethodName) prog_14_method_82_code (3 : Nat) (Option.some Jvm.ClassFile.FieldType.int)) ∈ TB := TB_of 1875 rfl (by decide +kernel)
set_option maxRecDepth 20000 in
theorem tb_1879 : (Jvm.Cond.code ({ cls := "LieClockModel", name := "isSet", desc := "(I)Z" } : Jvm.MethodName) prog_14_method_78_code (2 : Nat) (Option.some Jvm.ClassFile.FieldType.boolean)) ∈ TB := TB_of 1879 rfl (by decide +kernel)
set_option maxRecDepth 20000 in
theorem tb_1883 : (Jvm.Cond.code ({ cls := "LieClockModel", name := "orders", desc := "(IZ)I" } : Jvm.MethodName) prog_14_method_81_code (7 : Nat) (Option.some Jvm.ClassFile.FieldType.int)) ∈ TB := TB_of 1883 rfl (by decide +kernel)
set_option maxRecDepth 20000 in
theorem tb_1887 : (Jvm.Cond.code ({ cls := "LieClockModel", name := "fillsOrder", desc := "(I)V" } : Jvm.MethodName) prog_14_method_79_code (3 : Nat) (Option.none : Option Jvm.ClassFile.FieldType)) ∈ TB := TB_of 1887 rfl (by decide +kernel)
set_option maxRecDepth 20000 in
theorem tb_1891 : (Jvm.Cond.code ({ cls := "LieClockModel", name := "nextOrder", desc := "()Z" } : Jvm.MethodName) prog_14_method_80_code (6 : Nat) (Option.some Jvm.ClassFile.FieldType.boolean)) ∈ TB := TB_of 1891 rfl (by decide +kernel)
set_option maxRecDepth 20000 in
theorem tb_1895 : (Jvm.Cond.code ({ cls := "LieClockModel", name := "orderAt", desc := "(IZI)I" } : Jvm.MethodName) prog_14_method_83_code (4 : Nat) (Option.some Jvm.ClassFile.FieldType.int)) ∈ TB := TB_of 1895 rfl (by decide +kernel)
set_option maxRecDepth 20000 in
theorem tb_1900 : (Jvm.Cond.code ({ cls := "LieClockModel", name := "never", desc := "(II)I" } : Jvm.MethodName) prog_14_method_84_code (5 : Nat) (Option.some Jvm.ClassFile.FieldType.int)) ∈ TB := TB_of 1900 rfl (by decide +kernel)
set_option maxRecDepth 20000 in
theorem tb_1904 : (Jvm.Cond.code ({ cls := "LieClockModel", name := "smallest", desc := "()I" } : Jvm.MethodName) prog_14_method_86_code (3 : Nat) (Option.some Jvm.ClassFile.FieldType.int)) ∈ TB := TB_of 1904 rfl (by decide +kernel)
set_option maxRecDepth 20000 in
theorem tb_1909 : (Jvm.Cond.code ({ cls := "LieClockModel", name := "fillsSets", desc := "(I)V" } : Jvm.MethodName) prog_14_method_85_code (4 : Nat) (Option.none : Option Jvm.ClassFile.FieldType)) ∈ TB := TB_of 1909 rfl (by decide +kernel)
set_option maxRecDepth 20000 in
theorem tb_1913 : (Jvm.Cond.code ({ cls := "LieClockModel", name := "states", desc := "(I)I" } : Jvm.MethodName) prog_14_method_87_code (5 : Nat) (Option.some Jvm.ClassFile.FieldType.int)) ∈ TB := TB_of 1913 rfl (by decide +kernel)
set_option maxRecDepth 20000 in
theorem tb_1917 : (Jvm.Cond.code ({ cls := "LieClockModel", name := "looks", desc := "(I)I" } : Jvm.MethodName) prog_14_method_88_code (4 : Nat) (Option.some Jvm.ClassFile.FieldType.int)) ∈ TB := TB_of 1917 rfl (by decide +kernel)
set_option maxRecDepth 20000 in
theorem tb_1921 : (Jvm.Cond.code ({ cls := "LieClockModel", name := "settled", desc := "(I)I" } : Jvm.MethodName) prog_14_method_89_code (9 : Nat) (Option.some Jvm.ClassFile.FieldType.int)) ∈ TB := TB_of 1921 rfl (by decide +kernel)
set_option maxRecDepth 20000 in
theorem tb_1925 : (Jvm.Cond.code ({ cls := "LieClockModel", name := "write", desc := "(I)I" } : Jvm.MethodName) prog_14_method_90_code (2 : Nat) (Option.some Jvm.ClassFile.FieldType.int)) ∈ TB := TB_of 1925 rfl (by decide +kernel)
set_option maxRecDepth 20000 in
theorem tb_1929 : (Jvm.Cond.code ({ cls := "LieClockModel", name := "burn", desc := "()I" } : Jvm.MethodName) prog_14_method_91_code (2 : Nat) (Option.some Jvm.ClassFile.FieldType.int)) ∈ TB := TB_of 1929 rfl (by decide +kernel)
set_option maxRecDepth 20000 in
theorem tb_1933 : (Jvm.Cond.code ({ cls := "LieClockModel", name := "fits", desc := "(I)J" } : Jvm.MethodName) prog_14_method_94_code (2 : Nat) (Option.some Jvm.ClassFile.FieldType.long)) ∈ TB := TB_of 1933 rfl (by decide +kernel)
set_option maxRecDepth 20000 in
theorem tb_1937 : (Jvm.Cond.code ({ cls := "LieClockModel", name := "fillsBook", desc := "(I)V" } : Jvm.MethodName) prog_14_method_93_code (4 : Nat) (Option.none : Option Jvm.ClassFile.FieldType)) ∈ TB := TB_of 1937 rfl (by decide +kernel)
set_option maxRecDepth 20000 in
theorem tb_1941 : (Jvm.Cond.code ({ cls := "LieClockModel", name := "fitsOne", desc := "(I)V" } : Jvm.MethodName) prog_14_method_92_code (5 : Nat) (Option.none : Option Jvm.ClassFile.FieldType)) ∈ TB := TB_of 1941 rfl (by decide +kernel)
set_option maxRecDepth 20000 in
theorem tb_1945 : (Jvm.Cond.code ({ cls := "LieClockModel", name := "surely", desc := "(I)I" } : Jvm.MethodName) prog_14_method_95_code (2 : Nat) (Option.some Jvm.ClassFile.FieldType.int)) ∈ TB := TB_of 1945 rfl (by decide +kernel)
set_option maxRecDepth 20000 in
theorem tb_1949 : (Jvm.Cond.code ({ cls := "LieClockModel", name := "liars", desc := "(I)I" } : Jvm.MethodName) prog_14_method_96_code (2 : Nat) (Option.some Jvm.ClassFile.FieldType.int)) ∈ TB := TB_of 1949 rfl (by decide +kernel)
set_option maxRecDepth 20000 in
theorem tb_1953 : (Jvm.Cond.code ({ cls := "LieClockModel", name := "hold", desc := "(I)Z" } : Jvm.MethodName) prog_14_method_97_code (3 : Nat) (Option.some Jvm.ClassFile.FieldType.boolean)) ∈ TB := TB_of 1953 rfl (by decide +kernel)
set_option maxRecDepth 20000 in
theorem tb_1957 : (Jvm.Cond.code ({ cls := "LieClockModel", name := "restore", desc := "(I)Z" } : Jvm.MethodName) prog_14_method_98_code (3 : Nat) (Option.some Jvm.ClassFile.FieldType.boolean)) ∈ TB := TB_of 1957 rfl (by decide +kernel)
set_option maxRecDepth 20000 in
theorem tb_1961 : (Jvm.Cond.code ({ cls := "LieClockModel", name := "count", desc := "(I)I" } : Jvm.MethodName) prog_14_method_99_code (2 : Nat) (Option.some Jvm.ClassFile.FieldType.int)) ∈ TB := TB_of 1961 rfl (by decide +kernel)
