set_option maxRecDepth 20000 in
theorem tb_304 : (Jvm.Cond.code ({ cls := "java/lang/String", name := "length", desc := "()I" } : Jvm.MethodName) prog_20_method_54_code (1 : Nat) (Option.some Jvm.ClassFile.FieldType.int)) ∈ TB := TB_of 304 rfl (by decide +kernel)
set_option maxRecDepth 20000 in
theorem tb_308 : (Jvm.Cond.code ({ cls := "java/lang/String", name := "coder", desc := "()B" } : Jvm.MethodName) prog_20_method_152_code (1 : Nat) (Option.some Jvm.ClassFile.FieldType.byte)) ∈ TB := TB_of 308 rfl (by decide +kernel)
set_option maxRecDepth 20000 in
theorem tb_318 : (Jvm.Cond.code ({ cls := "java/lang/String", name := "isLatin1", desc := "()Z" } : Jvm.MethodName) prog_20_method_154_code (1 : Nat) (Option.some Jvm.ClassFile.FieldType.boolean)) ∈ TB := TB_of 318 rfl (by decide +kernel)
set_option maxRecDepth 20000 in
theorem tb_351 : (Jvm.Cond.code ({ cls := "LieClock$Tokens", name := "withLetter", desc := "(JI)J" } : Jvm.MethodName) prog_11_method_10_code (3 : Nat) (Option.some Jvm.ClassFile.FieldType.long)) ∈ TB := TB_of 351 rfl (by decide +kernel)
set_option maxRecDepth 20000 in
theorem tb_396 : (Jvm.Cond.code ({ cls := "LieClock$Told", name := "finish", desc := "()V" } : Jvm.MethodName) prog_12_method_3_code (2 : Nat) (Option.none : Option Jvm.ClassFile.FieldType)) ∈ TB := TB_of 396 rfl (by decide +kernel)
set_option maxRecDepth 20000 in
theorem tb_400 : (Jvm.Cond.code ({ cls := "LieClock$Told", name := "tellOnce", desc := "(LLieClock$Law;)V" } : Jvm.MethodName) prog_12_method_4_code (1 : Nat) (Option.none : Option Jvm.ClassFile.FieldType)) ∈ TB := TB_of 400 rfl (by decide +kernel)
set_option maxRecDepth 20000 in
theorem tb_404 : (Jvm.Cond.code ({ cls := "LieClock$Law", name := "add", desc := "(I)V" } : Jvm.MethodName) prog_4_method_3_code (2 : Nat) (Option.none : Option Jvm.ClassFile.FieldType)) ∈ TB := TB_of 404 rfl (by decide +kernel)
set_option maxRecDepth 20000 in
theorem tb_474 : (Jvm.Cond.code ({ cls := "LieClock$State", name := "begin", desc := "(LLieClock$Told;)V" } : Jvm.MethodName) prog_9_method_2_code (3 : Nat) (Option.none : Option Jvm.ClassFile.FieldType)) ∈ TB := TB_of 474 rfl (by decide +kernel)
set_option maxRecDepth 20000 in
theorem tb_478 : (Jvm.Cond.code ({ cls := "LieClock$Told", name := "asItIs", desc := "(I)J" } : Jvm.MethodName) prog_12_method_17_code (2 : Nat) (Option.some Jvm.ClassFile.FieldType.long)) ∈ TB := TB_of 478 rfl (by decide +kernel)
set_option maxRecDepth 20000 in
theorem tb_483 : (Jvm.Cond.code ({ cls := "java/util/Arrays", name := "fill", desc := "([II)V" } : Jvm.MethodName) prog_24_method_103_code (4 : Nat) (Option.none : Option Jvm.ClassFile.FieldType)) ∈ TB := TB_of 483 rfl (by decide +kernel)
set_option maxRecDepth 20000 in
theorem tb_716 : (Jvm.Cond.code ({ cls := "LieClock$Tape", name := "append", desc := "(I)V" } : Jvm.MethodName) prog_10_method_2_code (3 : Nat) (Option.none : Option Jvm.ClassFile.FieldType)) ∈ TB := TB_of 716 rfl (by decide +kernel)
set_option maxRecDepth 20000 in
theorem tb_728 : (Jvm.Cond.code ({ cls := "LieClock$Parser", name := "parse", desc := "(LLieClock$Tape;LLieClock$Told;)I" } : Jvm.MethodName) prog_7_method_2_code (4 : Nat) (Option.some Jvm.ClassFile.FieldType.int)) ∈ TB := TB_of 728 rfl (by decide +kernel)
set_option maxRecDepth 20000 in
theorem tb_732 : (Jvm.Cond.code ({ cls := "LieClock$Tokens", name := "cut", desc := "(LLieClock$Tape;)V" } : Jvm.MethodName) prog_11_method_2_code (5 : Nat) (Option.none : Option Jvm.ClassFile.FieldType)) ∈ TB := TB_of 732 rfl (by decide +kernel)
set_option maxRecDepth 20000 in
theorem tb_735 : (Jvm.Cond.code ({ cls := "LieClock$Tokens", name := "skipBlanks", desc := "(LLieClock$Tape;I)I" } : Jvm.MethodName) prog_11_method_4_code (4 : Nat) (Option.some Jvm.ClassFile.FieldType.int)) ∈ TB := TB_of 735 rfl (by decide +kernel)
set_option maxRecDepth 20000 in
theorem tb_739 : (Jvm.Cond.code ({ cls := "LieClock$Tape", name := "at", desc := "(I)I" } : Jvm.MethodName) prog_10_method_3_code (2 : Nat) (Option.some Jvm.ClassFile.FieldType.int)) ∈ TB := TB_of 739 rfl (by decide +kernel)
set_option maxRecDepth 20000 in
theorem tb_742 : (Jvm.Cond.code ({ cls := "LieClock$Tokens", name := "isBlank", desc := "(I)Z" } : Jvm.MethodName) prog_11_method_11_code (1 : Nat) (Option.some Jvm.ClassFile.FieldType.boolean)) ∈ TB := TB_of 742 rfl (by decide +kernel)
set_option maxRecDepth 20000 in
theorem tb_746 : (Jvm.Cond.code ({ cls := "LieClock$Tokens", name := "cutOne", desc := "(LLieClock$Tape;I)I" } : Jvm.MethodName) prog_11_method_5_code (4 : Nat) (Option.some Jvm.ClassFile.FieldType.int)) ∈ TB := TB_of 746 rfl (by decide +kernel)
set_option maxRecDepth 20000 in
theorem tb_749 : (Jvm.Cond.code ({ cls := "LieClock$Tokens", name := "isLetter", desc := "(I)Z" } : Jvm.MethodName) prog_11_method_12_code (1 : Nat) (Option.some Jvm.ClassFile.FieldType.boolean)) ∈ TB := TB_of 749 rfl (by decide +kernel)
set_option maxRecDepth 20000 in
theorem tb_753 : (Jvm.Cond.code ({ cls := "LieClock$Tokens", name := "cutLetters", desc := "(LLieClock$Tape;I)I" } : Jvm.MethodName) prog_11_method_6_code (7 : Nat) (Option.some Jvm.ClassFile.FieldType.int)) ∈ TB := TB_of 753 rfl (by decide +kernel)
set_option maxRecDepth 20000 in
theorem tb_757 : (Jvm.Cond.code ({ cls := "LieClock$Tokens", name := "kindOf", desc := "(J)I" } : Jvm.MethodName) prog_11_method_9_code (4 : Nat) (Option.some Jvm.ClassFile.FieldType.int)) ∈ TB := TB_of 757 rfl (by decide +kernel)
set_option maxRecDepth 20000 in
theorem tb_761 : (Jvm.Cond.code ({ cls := "LieClock$Tokens", name := "add", desc := "(IIJ)V" } : Jvm.MethodName) prog_11_method_8_code (5 : Nat) (Option.none : Option Jvm.ClassFile.FieldType)) ∈ TB := TB_of 761 rfl (by decide +kernel)
set_option maxRecDepth 20000 in
theorem tb_764 : (Jvm.Cond.code ({ cls := "LieClock$Tokens", name := "isDigit", desc := "(I)Z" } : Jvm.MethodName) prog_11_method_13_code (1 : Nat) (Option.some Jvm.ClassFile.FieldType.boolean)) ∈ TB := TB_of 764 rfl (by decide +kernel)
set_option maxRecDepth 20000 in
theorem tb_768 : (Jvm.Cond.code ({ cls := "LieClock$Tokens", name := "cutDigits", desc := "(LLieClock$Tape;I)I" } : Jvm.MethodName) prog_11_method_7_code (7 : Nat) (Option.some Jvm.ClassFile.FieldType.int)) ∈ TB := TB_of 768 rfl (by decide +kernel)
set_option maxRecDepth 20000 in
theorem tb_775 : (Jvm.Cond.code ({ cls := "java/lang/String", name := "indexOf", desc := "(I)I" } : Jvm.MethodName) prog_20_method_79_code (2 : Nat) (Option.some Jvm.ClassFile.FieldType.int)) ∈ TB := TB_of 775 rfl (by decide +kernel)
set_option maxRecDepth 20000 in
theorem tb_779 : (Jvm.Cond.code ({ cls := "java/lang/String", name := "indexOf", desc := "(II)I" } : Jvm.MethodName) prog_20_method_80_code (3 : Nat) (Option.some Jvm.ClassFile.FieldType.int)) ∈ TB := TB_of 779 rfl (by decide +kernel)
set_option maxRecDepth 20000 in
theorem tb_783 : (Jvm.Cond.code ({ cls := "java/lang/StringLatin1", name := "indexOf", desc := "([BIII)I" } : Jvm.MethodName) prog_21_method_22_code (4 : Nat) (Option.some Jvm.ClassFile.FieldType.int)) ∈ TB := TB_of 783 rfl (by decide +kernel)
set_option maxRecDepth 20000 in
theorem tb_786 : (Jvm.Cond.code ({ cls := "java/lang/StringLatin1", name := "canEncode", desc := "(I)Z" } : Jvm.MethodName) prog_21_method_4_code (1 : Nat) (Option.some Jvm.ClassFile.FieldType.boolean)) ∈ TB := TB_of 786 rfl (by decide +kernel)
set_option maxRecDepth 20000 in
theorem tb_789 : (Jvm.Cond.code ({ cls := "java/lang/Math", name := "max", desc := "(II)I" } : Jvm.MethodName) prog_19_method_65_code (2 : Nat) (Option.some Jvm.ClassFile.FieldType.int)) ∈ TB := TB_of 789 rfl (by decide +kernel)
set_option maxRecDepth 20000 in
theorem tb_792 : (Jvm.Cond.code ({ cls := "java/lang/Math", name := "min", desc := "(II)I" } : Jvm.MethodName) prog_19_method_69_code (2 : Nat) (Option.some Jvm.ClassFile.FieldType.int)) ∈ TB := TB_of 792 rfl (by decide +kernel)
set_option maxRecDepth 20000 in
theorem tb_795 : (Jvm.Cond.code ({ cls := "java/lang/StringLatin1", name := "indexOfChar", desc := "([BIII)I" } : Jvm.MethodName) prog_21_method_23_code (6 : Nat) (Option.some Jvm.ClassFile.FieldType.int)) ∈ TB := TB_of 795 rfl (by decide +kernel)
set_option maxRecDepth 20000 in
theorem tb_834 : (Jvm.Cond.code ({ cls := "LieClock$Told", name := "clear", desc := "()V" } : Jvm.MethodName) prog_12_method_2_code (1 : Nat) (Option.none : Option Jvm.ClassFile.FieldType)) ∈ TB := TB_of 834 rfl (by decide +kernel)
set_option maxRecDepth 20000 in
theorem tb_838 : (Jvm.Cond.code ({ cls := "LieClock$Law", name := "clear", desc := "()V" } : Jvm.MethodName) prog_4_method_2_code (1 : Nat) (Option.none : Option Jvm.ClassFile.FieldType)) ∈ TB := TB_of 838 rfl (by decide +kernel)
set_option maxRecDepth 20000 in
theorem tb_842 : (Jvm.Cond.code ({ cls := "LieClock$Parser", name := "tellFact", desc := "()V" } : Jvm.MethodName) prog_7_method_10_code (5 : Nat) (Option.none : Option Jvm.ClassFile.FieldType)) ∈ TB := TB_of 842 rfl (by decide +kernel)
set_option maxRecDepth 20000 in
theorem tb_846 : (Jvm.Cond.code ({ cls := "LieClock$Parser", name := "begin", desc := "(II)V" } : Jvm.MethodName) prog_7_method_9_code (3 : Nat) (Option.none : Option Jvm.ClassFile.FieldType)) ∈ TB := TB_of 846 rfl (by decide +kernel)
set_option maxRecDepth 20000 in
theorem tb_850 : (Jvm.Cond.code ({ cls := "LieClock$Parser", name := "fail", desc := "(I)V" } : Jvm.MethodName) prog_7_method_4_code (2 : Nat) (Option.none : Option Jvm.ClassFile.FieldType)) ∈ TB := TB_of 850 rfl (by decide +kernel)
set_option maxRecDepth 20000 in
theorem tb_854 : (Jvm.Cond.code ({ cls := "LieClock$Parser", name := "accept", desc := "(I)Z" } : Jvm.MethodName) prog_7_method_6_code (2 : Nat) (Option.some Jvm.ClassFile.FieldType.boolean)) ∈ TB := TB_of 854 rfl (by decide +kernel)
set_option maxRecDepth 20000 in
theorem tb_858 : (Jvm.Cond.code ({ cls := "LieClock$Parser", name := "takeNewName", desc := "()J" } : Jvm.MethodName) prog_7_method_16_code (3 : Nat) (Option.some Jvm.ClassFile.FieldType.long)) ∈ TB := TB_of 858 rfl (by decide +kernel)
set_option maxRecDepth 20000 in
theorem tb_862 : (Jvm.Cond.code ({ cls := "LieClock$Parser", name := "take", desc := "(I)J" } : Jvm.MethodName) prog_7_method_8_code (2 : Nat) (Option.some Jvm.ClassFile.FieldType.long)) ∈ TB := TB_of 862 rfl (by decide +kernel)
set_option maxRecDepth 20000 in
theorem tb_866 : (Jvm.Cond.code ({ cls := "LieClock$Told", name := "isTold", desc := "(J)Z" } : Jvm.MethodName) prog_12_method_11_code (3 : Nat) (Option.some Jvm.ClassFile.FieldType.boolean)) ∈ TB := TB_of 866 rfl (by decide +kernel)
set_option maxRecDepth 20000 in
theorem tb_870 : (Jvm.Cond.code ({ cls := "LieClock$Told", name := "factNamed", desc := "(J)I" } : Jvm.MethodName) prog_12_method_9_code (3 : Nat) (Option.some Jvm.ClassFile.FieldType.int)) ∈ TB := TB_of 870 rfl (by decide +kernel)
set_option maxRecDepth 20000 in
theorem tb_873 : (Jvm.Cond.code ({ cls := "LieClock$Told", name := "indexOf", desc := "([JIJ)I" } : Jvm.MethodName) prog_12_method_12_code (5 : Nat) (Option.some Jvm.ClassFile.FieldType.int)) ∈ TB := TB_of 873 rfl (by decide +kernel)
set_option maxRecDepth 20000 in
theorem tb_877 : (Jvm.Cond.code ({ cls := "LieClock$Told", name := "witnessNamed", desc := "(J)I" } : Jvm.MethodName) prog_12_method_10_code (3 : Nat) (Option.some Jvm.ClassFile.FieldType.int)) ∈ TB := TB_of 877 rfl (by decide +kernel)
set_option maxRecDepth 20000 in
theorem tb_881 : (Jvm.Cond.code ({ cls := "LieClock$Parser", name := "failSoftly", desc := "(I)V" } : Jvm.MethodName) prog_7_method_5_code (2 : Nat) (Option.none : Option Jvm.ClassFile.FieldType)) ∈ TB := TB_of 881 rfl (by decide +kernel)
set_option maxRecDepth 20000 in
theorem tb_885 : (Jvm.Cond.code ({ cls := "LieClock$Tokens", name := "placeAt", desc := "(I)I" } : Jvm.MethodName) prog_11_method_3_code (2 : Nat) (Option.some Jvm.ClassFile.FieldType.int)) ∈ TB := TB_of 885 rfl (by decide +kernel)
set_option maxRecDepth 20000 in
theorem tb_889 : (Jvm.Cond.code ({ cls := "LieClock$Parser", name := "expect", desc := "(I)V" } : Jvm.MethodName) prog_7_method_7_code (2 : Nat) (Option.none : Option Jvm.ClassFile.FieldType)) ∈ TB := TB_of 889 rfl (by decide +kernel)
set_option maxRecDepth 20000 in
theorem tb_893 : (Jvm.Cond.code ({ cls := "LieClock$Told", name := "addFact", desc := "(JZZ)V" } : Jvm.MethodName) prog_12_method_5_code (5 : Nat) (Option.none : Option Jvm.ClassFile.FieldType)) ∈ TB := TB_of 893 rfl (by decide +kernel)
set_option maxRecDepth 20000 in
theorem tb_897 : (Jvm.Cond.code ({ cls := "LieClock$Parser", name := "tellWitness", desc := "()V" } : Jvm.MethodName) prog_7_method_11_code (3 : Nat) (Option.none : Option Jvm.ClassFile.FieldType)) ∈ TB := TB_of 897 rfl (by decide +kernel)
set_option maxRecDepth 20000 in
theorem tb_901 : (Jvm.Cond.code ({ cls := "LieClock$Told", name := "addWitness", desc := "(J)V" } : Jvm.MethodName) prog_12_method_6_code (3 : Nat) (Option.none : Option Jvm.ClassFile.FieldType)) ∈ TB := TB_of 901 rfl (by decide +kernel)
set_option maxRecDepth 20000 in
theorem tb_905 : (Jvm.Cond.code ({ cls := "LieClock$Parser", name := "tellWord", desc := "()V" } : Jvm.MethodName) prog_7_method_12_code (5 : Nat) (Option.none : Option Jvm.ClassFile.FieldType)) ∈ TB := TB_of 905 rfl (by decide +kernel)
set_option maxRecDepth 20000 in
theorem tb_910 : (Jvm.Cond.code ({ cls := "LieClock$Parser", name := "cond", desc := "(I)J" } : Jvm.MethodName) prog_7_method_18_code (5 : Nat) (Option.some Jvm.ClassFile.FieldType.long)) ∈ TB := TB_of 910 rfl (by decide +kernel)
set_option maxRecDepth 20000 in
theorem tb_914 : (Jvm.Cond.code ({ cls := "LieClock$Parser", name := "all", desc := "(I)J" } : Jvm.MethodName) prog_7_method_19_code (5 : Nat) (Option.some Jvm.ClassFile.FieldType.long)) ∈ TB := TB_of 914 rfl (by decide +kernel)
set_option maxRecDepth 20000 in
theorem tb_918 : (Jvm.Cond.code ({ cls := "LieClock$Parser", name := "literal", desc := "(I)J" } : Jvm.MethodName) prog_7_method_20_code (6 : Nat) (Option.some Jvm.ClassFile.FieldType.long)) ∈ TB := TB_of 918 rfl (by decide +kernel)
set_option maxRecDepth 20000 in
theorem tb_922 : (Jvm.Cond.code ({ cls := "LieClock$Parser", name := "enter", desc := "(I)Z" } : Jvm.MethodName) prog_7_method_21_code (2 : Nat) (Option.some Jvm.ClassFile.FieldType.boolean)) ∈ TB := TB_of 922 rfl (by decide +kernel)
set_option maxRecDepth 20000 in
theorem tb_929 : (Jvm.Cond.code ({ cls := "LieClock$Told", name := "addWord", desc := "(IZJ)V" } : Jvm.MethodName) prog_12_method_7_code (5 : Nat) (Option.none : Option Jvm.ClassFile.FieldType)) ∈ TB := TB_of 929 rfl (by decide +kernel)
set_option maxRecDepth 20000 in
theorem tb_934 : (Jvm.Cond.code ({ cls := "LieClock$Parser", name := "tellCase", desc := "()V" } : Jvm.MethodName) prog_7_method_13_code (6 : Nat) (Option.none : Option Jvm.ClassFile.FieldType)) ∈ TB := TB_of 934 rfl (by decide +kernel)
set_option maxRecDepth 20000 in
theorem tb_938 : (Jvm.Cond.code ({ cls := "LieClock$Parser", name := "takeMinute", desc := "()I" } : Jvm.MethodName) prog_7_method_17_code (2 : Nat) (Option.some Jvm.ClassFile.FieldType.int)) ∈ TB := TB_of 938 rfl (by decide +kernel)
set_option maxRecDepth 20000 in
theorem tb_942 : (Jvm.Cond.code ({ cls := "LieClock$Told", name := "addCase", desc := "(JIJ)V" } : Jvm.MethodName) prog_12_method_8_code (6 : Nat) (Option.none : Option Jvm.ClassFile.FieldType)) ∈ TB := TB_of 942 rfl (by decide +kernel)
set_option maxRecDepth 20000 in
theorem tb_946 : (Jvm.Cond.code ({ cls := "LieClock$Parser", name := "tellLaw", desc := "(LLieClock$Law;)V" } : Jvm.MethodName) prog_7_method_14_code (2 : Nat) (Option.none : Option Jvm.ClassFile.FieldType)) ∈ TB := TB_of 946 rfl (by decide +kernel)
set_option maxRecDepth 20000 in
theorem tb_951 : (Jvm.Cond.code ({ cls := "LieClock$Parser", name := "sum", desc := "(LLieClock$Law;I)V" } : Jvm.MethodName) prog_7_method_22_code (5 : Nat) (Option.none : Option Jvm.ClassFile.FieldType)) ∈ TB := TB_of 951 rfl (by decide +kernel)
set_option maxRecDepth 20000 in
theorem tb_955 : (Jvm.Cond.code ({ cls := "LieClock$Parser", name := "product", desc := "(LLieClock$Law;I)V" } : Jvm.MethodName) prog_7_method_23_code (5 : Nat) (Option.none : Option Jvm.ClassFile.FieldType)) ∈ TB := TB_of 955 rfl (by decide +kernel)
set_option maxRecDepth 20000 in
theorem tb_959 : (Jvm.Cond.code ({ cls := "LieClock$Parser", name := "unit", desc := "(LLieClock$Law;I)V" } : Jvm.MethodName) prog_7_method_24_code (4 : Nat) (Option.none : Option Jvm.ClassFile.FieldType)) ∈ TB := TB_of 959 rfl (by decide +kernel)
set_option maxRecDepth 20000 in
theorem tb_964 : (Jvm.Cond.code ({ cls := "LieClock$Parser", name := "tellClock", desc := "()V" } : Jvm.MethodName) prog_7_method_15_code (1 : Nat) (Option.none : Option Jvm.ClassFile.FieldType)) ∈ TB := TB_of 964 rfl (by decide +kernel)
set_option maxRecDepth 20000 in
theorem tb_969 : (Jvm.Cond.code ({ cls := "LieClock$Parser", name := "faultPlace", desc := "()I" } : Jvm.MethodName) prog_7_method_3_code (1 : Nat) (Option.some Jvm.ClassFile.FieldType.int)) ∈ TB := TB_of 969 rfl (by decide +kernel)
set_option maxRecDepth 20000 in
theorem tb_973 : (Jvm.Cond.code ({ cls := "LieClock$Book", name := "clear", desc := "()V" } : Jvm.MethodName) prog_3_method_2_code (2 : Nat) (Option.none : Option Jvm.ClassFile.FieldType)) ∈ TB := TB_of 973 rfl (by decide +kernel)
set_option maxRecDepth 20000 in
theorem tb_977 : (Jvm.Cond.code ({ cls := "LieClock", name := "forgetSearches", desc := "()V" } : Jvm.MethodName) prog_1_method_38_code (1 : Nat) (Option.none : Option Jvm.ClassFile.FieldType)) ∈ TB := TB_of 977 rfl (by decide +kernel)
set_option maxRecDepth 20000 in
theorem tb_997 : (Jvm.Cond.code ({ cls := "LieClock$Told", name := "hasWord", desc := "(I)Z" } : Jvm.MethodName) prog_12_method_13_code (2 : Nat) (Option.some Jvm.ClassFile.FieldType.boolean)) ∈ TB := TB_of 997 rfl (by decide +kernel)
set_option maxRecDepth 20000 in
theorem tb_1000 : (Jvm.Cond.code ({ cls := "java/lang/Long", name := "bitCount", desc := "(J)I" } : Jvm.MethodName) prog_18_method_50_code (2 : Nat) (Option.some Jvm.ClassFile.FieldType.int)) ∈ TB := TB_of 1000 rfl (by decide +kernel)
set_option maxRecDepth 20000 in
theorem tb_1010 : (Jvm.Cond.code ({ cls := "java/lang/Integer", name := "bitCount", desc := "(I)I" } : Jvm.MethodName) prog_17_method_49_code (1 : Nat) (Option.some Jvm.ClassFile.FieldType.int)) ∈ TB := TB_of 1010 rfl (by decide +kernel)
set_option maxRecDepth 20000 in
theorem tb_1017 : (Jvm.Cond.code ({ cls := "LieClock$Told", name := "together", desc := "(I)J" } : Jvm.MethodName) prog_12_method_16_code (5 : Nat) (Option.some Jvm.ClassFile.FieldType.long)) ∈ TB := TB_of 1017 rfl (by decide +kernel)
set_option maxRecDepth 20000 in
theorem tb_1030 : (Jvm.Cond.code ({ cls := "LieClock$Told", name := "hasCase", desc := "(I)Z" } : Jvm.MethodName) prog_12_method_14_code (2 : Nat) (Option.some Jvm.ClassFile.FieldType.boolean)) ∈ TB := TB_of 1030 rfl (by decide +kernel)
set_option maxRecDepth 20000 in
theorem tb_1034 : (Jvm.Cond.code ({ cls := "LieClock$State", name := "verdictOf", desc := "(LLieClock$Told;I)I" } : Jvm.MethodName) prog_9_method_9_code (7 : Nat) (Option.some Jvm.ClassFile.FieldType.int)) ∈ TB := TB_of 1034 rfl (by decide +kernel)
set_option maxRecDepth 20000 in
theorem tb_1043 : (Jvm.Cond.code ({ cls := "LieClock", name := "keepForUndo", desc := "()V" } : Jvm.MethodName) prog_1_method_37_code (1 : Nat) (Option.none : Option Jvm.ClassFile.FieldType)) ∈ TB := TB_of 1043 rfl (by decide +kernel)
set_option maxRecDepth 20000 in
theorem tb_1047 : (Jvm.Cond.code ({ cls := "LieClock$State", name := "copyFrom", desc := "(LLieClock$State;)V" } : Jvm.MethodName) prog_9_method_3_code (2 : Nat) (Option.none : Option Jvm.ClassFile.FieldType)) ∈ TB := TB_of 1047 rfl (by decide +kernel)
set_option maxRecDepth 20000 in
theorem tb_1051 : (Jvm.Cond.code ({ cls := "LieClock$State", name := "copyMoment", desc := "(LLieClock$State;)V" } : Jvm.MethodName) prog_9_method_4_code (2 : Nat) (Option.none : Option Jvm.ClassFile.FieldType)) ∈ TB := TB_of 1051 rfl (by decide +kernel)
set_option maxRecDepth 20000 in
theorem tb_1059 : (Jvm.Cond.code ({ cls := "LieClock$State", name := "utter", desc := "(LLieClock$Told;I)I" } : Jvm.MethodName) prog_9_method_5_code (8 : Nat) (Option.some Jvm.ClassFile.FieldType.int)) ∈ TB := TB_of 1059 rfl (by decide +kernel)
set_option maxRecDepth 20000 in
theorem tb_1063 : (Jvm.Cond.code ({ cls := "LieClock$State", name := "goForward", desc := "(LLieClock$Told;I)V" } : Jvm.MethodName) prog_9_method_7_code (6 : Nat) (Option.none : Option Jvm.ClassFile.FieldType)) ∈ TB := TB_of 1063 rfl (by decide +kernel)
set_option maxRecDepth 20000 in
theorem tb_1069 : (Jvm.Cond.code ({ cls := "LieClock$State", name := "hear", desc := "(LLieClock$Told;I)V" } : Jvm.MethodName) prog_9_method_8_code (3 : Nat) (Option.none : Option Jvm.ClassFile.FieldType)) ∈ TB := TB_of 1069 rfl (by decide +kernel)
set_option maxRecDepth 20000 in
theorem tb_1074 : (Jvm.Cond.code ({ cls := "LieClock$Law", name := "minutes", desc := "(LLieClock$State;I)I" } : Jvm.MethodName) prog_4_method_4_code (5 : Nat) (Option.some Jvm.ClassFile.FieldType.int)) ∈ TB := TB_of 1074 rfl (by decide +kernel)
set_option maxRecDepth 20000 in
theorem tb_1078 : (Jvm.Cond.code ({ cls := "LieClock$Law", name := "push", desc := "(I)V" } : Jvm.MethodName) prog_4_method_5_code (2 : Nat) (Option.none : Option Jvm.ClassFile.FieldType)) ∈ TB := TB_of 1078 rfl (by decide +kernel)
set_option maxRecDepth 20000 in
theorem tb_1082 : (Jvm.Cond.code ({ cls := "LieClock$Law", name := "operate", desc := "(I)V" } : Jvm.MethodName) prog_4_method_6_code (5 : Nat) (Option.none : Option Jvm.ClassFile.FieldType)) ∈ TB := TB_of 1082 rfl (by decide +kernel)
set_option maxRecDepth 20000 in
theorem tb_1086 : (Jvm.Cond.code ({ cls := "LieClock$State", name := "valueOf", desc := "(II)I" } : Jvm.MethodName) prog_9_method_11_code (3 : Nat) (Option.some Jvm.ClassFile.FieldType.int)) ∈ TB := TB_of 1086 rfl (by decide +kernel)
set_option maxRecDepth 20000 in
theorem tb_1090 : (Jvm.Cond.code ({ cls := "java/lang/Math", name := "floorMod", desc := "(II)I" } : Jvm.MethodName) prog_19_method_50_code (3 : Nat) (Option.some Jvm.ClassFile.FieldType.int)) ∈ TB := TB_of 1090 rfl (by decide +kernel)
set_option maxRecDepth 20000 in
theorem tb_1096 : (Jvm.Cond.code ({ cls := "LieClock$State", name := "examine", desc := "(LLieClock$Told;I)I" } : Jvm.MethodName) prog_9_method_10_code (8 : Nat) (Option.some Jvm.ClassFile.FieldType.int)) ∈ TB := TB_of 1096 rfl (by decide +kernel)
set_option maxRecDepth 20000 in
theorem tb_1106 : (Jvm.Cond.code ({ cls := "LieClock$State", name := "reveal", desc := "(LLieClock$Told;I)I" } : Jvm.MethodName) prog_9_method_6_code (5 : Nat) (Option.some Jvm.ClassFile.FieldType.int)) ∈ TB := TB_of 1106 rfl (by decide +kernel)
set_option maxRecDepth 20000 in
theorem tb_1128 : (Jvm.Cond.code ({ cls := "LieClock", name := "areTwoCases", desc := "(II)Z" } : Jvm.MethodName) prog_1_method_35_code (3 : Nat) (Option.some Jvm.ClassFile.FieldType.boolean)) ∈ TB := TB_of 1128 rfl (by decide +kernel)
set_option maxRecDepth 20000 in
theorem tb_1214 : (Jvm.Cond.code ({ cls := "LieClock", name := "canBeOrdered", desc := "(I)Z" } : Jvm.MethodName) prog_1_method_36_code (2 : Nat) (Option.some Jvm.ClassFile.FieldType.boolean)) ∈ TB := TB_of 1214 rfl (by decide +kernel)
set_option maxRecDepth 20000 in
theorem tb_1218 : (Jvm.Cond.code ({ cls := "LieClock$Told", name := "hasSet", desc := "(I)Z" } : Jvm.MethodName) prog_12_method_15_code (2 : Nat) (Option.some Jvm.ClassFile.FieldType.boolean)) ∈ TB := TB_of 1218 rfl (by decide +kernel)
set_option maxRecDepth 20000 in
theorem tb_1222 : (Jvm.Cond.code ({ cls := "LieClock$Orders", name := "find", desc := "(LLieClock$Told;LLieClock$State;IZ)V" } : Jvm.MethodName) prog_6_method_2_code (5 : Nat) (Option.none : Option Jvm.ClassFile.FieldType)) ∈ TB := TB_of 1222 rfl (by decide +kernel)
set_option maxRecDepth 20000 in
theorem tb_1227 : (Jvm.Cond.code ({ cls := "LieClock$Orders", name := "extend", desc := "(LLieClock$Told;II)V" } : Jvm.MethodName) prog_6_method_3_code (6 : Nat) (Option.none : Option Jvm.ClassFile.FieldType)) ∈ TB := TB_of 1227 rfl (by decide +kernel)
set_option maxRecDepth 20000 in
theorem tb_1233 : (Jvm.Cond.code ({ cls := "LieClock$Orders", name := "judge", desc := "(I)V" } : Jvm.MethodName) prog_6_method_4_code (2 : Nat) (Option.none : Option Jvm.ClassFile.FieldType)) ∈ TB := TB_of 1233 rfl (by decide +kernel)
set_option maxRecDepth 20000 in
theorem tb_1247 : (Jvm.Cond.code ({ cls := "LieClock$Orders", name := "canAvoid", desc := "(LLieClock$Told;LLieClock$State;II)Z" } : Jvm.MethodName) prog_6_method_5_code (5 : Nat) (Option.some Jvm.ClassFile.FieldType.boolean)) ∈ TB := TB_of 1247 rfl (by decide +kernel)
set_option maxRecDepth 20000 in
theorem tb_1251 : (Jvm.Cond.code ({ cls := "LieClock$Orders", name := "avoids", desc := "(LLieClock$Told;III)Z" } : Jvm.MethodName) prog_6_method_6_code (7 : Nat) (Option.some Jvm.ClassFile.FieldType.boolean)) ∈ TB := TB_of 1251 rfl (by decide +kernel)
set_option maxRecDepth 20000 in
theorem tb_1259 : (Jvm.Cond.code ({ cls := "LieClock$Sets", name := "takeWords", desc := "(LLieClock$Told;I)V" } : Jvm.MethodName) prog_8_method_2_code (4 : Nat) (Option.none : Option Jvm.ClassFile.FieldType)) ∈ TB := TB_of 1259 rfl (by decide +kernel)
set_option maxRecDepth 20000 in
theorem tb_1263 : (Jvm.Cond.code ({ cls := "LieClock$Sets", name := "add", desc := "(IJ)V" } : Jvm.MethodName) prog_8_method_4_code (4 : Nat) (Option.none : Option Jvm.ClassFile.FieldType)) ∈ TB := TB_of 1263 rfl (by decide +kernel)
set_option maxRecDepth 20000 in
theorem tb_1268 : (Jvm.Cond.code ({ cls := "LieClock$Sets", name := "fewest", desc := "(JJJ)I" } : Jvm.MethodName) prog_8_method_5_code (9 : Nat) (Option.some Jvm.ClassFile.FieldType.int)) ∈ TB := TB_of 1268 rfl (by decide +kernel)
set_option maxRecDepth 20000 in
theorem tb_1272 : (Jvm.Cond.code ({ cls := "LieClock$Sets", name := "isEnough", desc := "(J)Z" } : Jvm.MethodName) prog_8_method_6_code (3 : Nat) (Option.some Jvm.ClassFile.FieldType.boolean)) ∈ TB := TB_of 1272 rfl (by decide +kernel)
set_option maxRecDepth 20000 in
theorem tb_1277 : (Jvm.Cond.code ({ cls := "LieClock$Sets", name := "pick", desc := "(IIJ)I" } : Jvm.MethodName) prog_8_method_7_code (9 : Nat) (Option.some Jvm.ClassFile.FieldType.int)) ∈ TB := TB_of 1277 rfl (by decide +kernel)
set_option maxRecDepth 20000 in
theorem tb_1289 : (Jvm.Cond.code ({ cls := "LieClock$Sets", name := "takeFacts", desc := "(LLieClock$Told;I)V" } : Jvm.MethodName) prog_8_method_3_code (4 : Nat) (Option.none : Option Jvm.ClassFile.FieldType)) ∈ TB := TB_of 1289 rfl (by decide +kernel)
set_option maxRecDepth 20000 in
theorem tb_1304 : (Jvm.Cond.code ({ cls := "LieClock$Book", name := "add", desc := "(I)I" } : Jvm.MethodName) prog_3_method_3_code (2 : Nat) (Option.some Jvm.ClassFile.FieldType.int)) ∈ TB := TB_of 1304 rfl (by decide +kernel)
set_option maxRecDepth 20000 in
theorem tb_1347 : (Jvm.Cond.code ({ cls := "LieClock$Tape", name := "copyFrom", desc := "(LLieClock$Tape;)V" } : Jvm.MethodName) prog_10_method_4_code (2 : Nat) (Option.none : Option Jvm.ClassFile.FieldType)) ∈ TB := TB_of 1347 rfl (by decide +kernel)
set_option maxRecDepth 20000 in
theorem tb_1360 : (Jvm.Cond.code ({ cls := "LieClock", name := "heldSlots", desc := "()I" } : Jvm.MethodName) prog_1_method_34_code (3 : Nat) (Option.some Jvm.ClassFile.FieldType.int)) ∈ TB := TB_of 1360 rfl (by decide +kernel)
