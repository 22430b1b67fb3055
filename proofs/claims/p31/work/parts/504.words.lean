set_option maxRecDepth 20000 in
theorem tb_712 : (Jvm.Cond.code ({ cls := "LieClock", name := "feed", desc := "(IIIII)I" } : Jvm.MethodName) prog_1_method_2_code (6 : Nat) (Option.some Jvm.ClassFile.FieldType.int)) ∈ TB := TB_of 712 rfl (by decide +kernel)
set_option maxRecDepth 20000 in
theorem tb_720 : (Jvm.Cond.code ({ cls := "LieClock", name := "back", desc := "(I)I" } : Jvm.MethodName) prog_1_method_3_code (2 : Nat) (Option.some Jvm.ClassFile.FieldType.int)) ∈ TB := TB_of 720 rfl (by decide +kernel)
set_option maxRecDepth 20000 in
theorem tb_724 : (Jvm.Cond.code ({ cls := "LieClock", name := "read", desc := "()I" } : Jvm.MethodName) prog_1_method_4_code (4 : Nat) (Option.some Jvm.ClassFile.FieldType.int)) ∈ TB := TB_of 724 rfl (by decide +kernel)
set_option maxRecDepth 20000 in
theorem tb_981 : (Jvm.Cond.code ({ cls := "LieClock", name := "place", desc := "()I" } : Jvm.MethodName) prog_1_method_5_code (1 : Nat) (Option.some Jvm.ClassFile.FieldType.int)) ∈ TB := TB_of 981 rfl (by decide +kernel)
set_option maxRecDepth 20000 in
theorem tb_985 : (Jvm.Cond.code ({ cls := "LieClock", name := "clock", desc := "()I" } : Jvm.MethodName) prog_1_method_6_code (1 : Nat) (Option.some Jvm.ClassFile.FieldType.int)) ∈ TB := TB_of 985 rfl (by decide +kernel)
set_option maxRecDepth 20000 in
theorem tb_989 : (Jvm.Cond.code ({ cls := "LieClock", name := "fact", desc := "(II)I" } : Jvm.MethodName) prog_1_method_7_code (3 : Nat) (Option.some Jvm.ClassFile.FieldType.int)) ∈ TB := TB_of 989 rfl (by decide +kernel)
set_option maxRecDepth 20000 in
theorem tb_993 : (Jvm.Cond.code ({ cls := "LieClock", name := "word", desc := "(II)I" } : Jvm.MethodName) prog_1_method_8_code (3 : Nat) (Option.some Jvm.ClassFile.FieldType.int)) ∈ TB := TB_of 993 rfl (by decide +kernel)
set_option maxRecDepth 20000 in
theorem tb_1007 : (Jvm.Cond.code ({ cls := "LieClock", name := "witness", desc := "(II)I" } : Jvm.MethodName) prog_1_method_9_code (4 : Nat) (Option.some Jvm.ClassFile.FieldType.int)) ∈ TB := TB_of 1007 rfl (by decide +kernel)
set_option maxRecDepth 20000 in
theorem tb_1021 : (Jvm.Cond.code ({ cls := "LieClock", name := "share", desc := "(I)I" } : Jvm.MethodName) prog_1_method_10_code (2 : Nat) (Option.some Jvm.ClassFile.FieldType.int)) ∈ TB := TB_of 1021 rfl (by decide +kernel)
set_option maxRecDepth 20000 in
theorem tb_1026 : (Jvm.Cond.code ({ cls := "LieClock", name := "hearing", desc := "(II)I" } : Jvm.MethodName) prog_1_method_11_code (3 : Nat) (Option.some Jvm.ClassFile.FieldType.int)) ∈ TB := TB_of 1026 rfl (by decide +kernel)
set_option maxRecDepth 20000 in
theorem tb_1039 : (Jvm.Cond.code ({ cls := "LieClock", name := "say", desc := "(I)I" } : Jvm.MethodName) prog_1_method_12_code (2 : Nat) (Option.some Jvm.ClassFile.FieldType.int)) ∈ TB := TB_of 1039 rfl (by decide +kernel)
set_option maxRecDepth 20000 in
theorem tb_1102 : (Jvm.Cond.code ({ cls := "LieClock", name := "look", desc := "(I)I" } : Jvm.MethodName) prog_1_method_13_code (2 : Nat) (Option.some Jvm.ClassFile.FieldType.int)) ∈ TB := TB_of 1102 rfl (by decide +kernel)
set_option maxRecDepth 20000 in
theorem tb_1110 : (Jvm.Cond.code ({ cls := "LieClock", name := "pause", desc := "(I)I" } : Jvm.MethodName) prog_1_method_14_code (2 : Nat) (Option.some Jvm.ClassFile.FieldType.int)) ∈ TB := TB_of 1110 rfl (by decide +kernel)
set_option maxRecDepth 20000 in
theorem tb_1115 : (Jvm.Cond.code ({ cls := "LieClock", name := "undo", desc := "()Z" } : Jvm.MethodName) prog_1_method_15_code (1 : Nat) (Option.some Jvm.ClassFile.FieldType.boolean)) ∈ TB := TB_of 1115 rfl (by decide +kernel)
set_option maxRecDepth 20000 in
theorem tb_1119 : (Jvm.Cond.code ({ cls := "LieClock", name := "would", desc := "(I)I" } : Jvm.MethodName) prog_1_method_16_code (2 : Nat) (Option.some Jvm.ClassFile.FieldType.int)) ∈ TB := TB_of 1119 rfl (by decide +kernel)
set_option maxRecDepth 20000 in
theorem tb_1124 : (Jvm.Cond.code ({ cls := "LieClock", name := "ahead", desc := "(III)I" } : Jvm.MethodName) prog_1_method_17_code (4 : Nat) (Option.some Jvm.ClassFile.FieldType.int)) ∈ TB := TB_of 1124 rfl (by decide +kernel)
set_option maxRecDepth 20000 in
theorem tb_1206 : (Jvm.Cond.code ({ cls := "LieClock", name := "aheadAt", desc := "(III)I" } : Jvm.MethodName) prog_1_method_18_code (4 : Nat) (Option.some Jvm.ClassFile.FieldType.int)) ∈ TB := TB_of 1206 rfl (by decide +kernel)
set_option maxRecDepth 20000 in
theorem tb_1210 : (Jvm.Cond.code ({ cls := "LieClock", name := "order", desc := "(IZ)I" } : Jvm.MethodName) prog_1_method_19_code (3 : Nat) (Option.some Jvm.ClassFile.FieldType.int)) ∈ TB := TB_of 1210 rfl (by decide +kernel)
set_option maxRecDepth 20000 in
theorem tb_1239 : (Jvm.Cond.code ({ cls := "LieClock", name := "orderAt", desc := "(IZI)I" } : Jvm.MethodName) prog_1_method_20_code (4 : Nat) (Option.some Jvm.ClassFile.FieldType.int)) ∈ TB := TB_of 1239 rfl (by decide +kernel)
set_option maxRecDepth 20000 in
theorem tb_1243 : (Jvm.Cond.code ({ cls := "LieClock", name := "never", desc := "(II)I" } : Jvm.MethodName) prog_1_method_21_code (3 : Nat) (Option.some Jvm.ClassFile.FieldType.int)) ∈ TB := TB_of 1243 rfl (by decide +kernel)
set_option maxRecDepth 20000 in
theorem tb_1255 : (Jvm.Cond.code ({ cls := "LieClock", name := "smallest", desc := "()I" } : Jvm.MethodName) prog_1_method_22_code (1 : Nat) (Option.some Jvm.ClassFile.FieldType.int)) ∈ TB := TB_of 1255 rfl (by decide +kernel)
set_option maxRecDepth 20000 in
theorem tb_1281 : (Jvm.Cond.code ({ cls := "LieClock", name := "states", desc := "(I)I" } : Jvm.MethodName) prog_1_method_23_code (2 : Nat) (Option.some Jvm.ClassFile.FieldType.int)) ∈ TB := TB_of 1281 rfl (by decide +kernel)
set_option maxRecDepth 20000 in
theorem tb_1285 : (Jvm.Cond.code ({ cls := "LieClock", name := "looks", desc := "(I)I" } : Jvm.MethodName) prog_1_method_24_code (2 : Nat) (Option.some Jvm.ClassFile.FieldType.int)) ∈ TB := TB_of 1285 rfl (by decide +kernel)
set_option maxRecDepth 20000 in
theorem tb_1294 : (Jvm.Cond.code ({ cls := "LieClock", name := "settled", desc := "(I)I" } : Jvm.MethodName) prog_1_method_25_code (4 : Nat) (Option.some Jvm.ClassFile.FieldType.int)) ∈ TB := TB_of 1294 rfl (by decide +kernel)
set_option maxRecDepth 20000 in
theorem tb_1298 : (Jvm.Cond.code ({ cls := "LieClock", name := "write", desc := "(I)I" } : Jvm.MethodName) prog_1_method_26_code (2 : Nat) (Option.some Jvm.ClassFile.FieldType.int)) ∈ TB := TB_of 1298 rfl (by decide +kernel)
set_option maxRecDepth 20000 in
theorem tb_1308 : (Jvm.Cond.code ({ cls := "LieClock", name := "burn", desc := "()I" } : Jvm.MethodName) prog_1_method_27_code (2 : Nat) (Option.some Jvm.ClassFile.FieldType.int)) ∈ TB := TB_of 1308 rfl (by decide +kernel)
set_option maxRecDepth 20000 in
theorem tb_1312 : (Jvm.Cond.code ({ cls := "LieClock", name := "fits", desc := "(I)J" } : Jvm.MethodName) prog_1_method_28_code (2 : Nat) (Option.some Jvm.ClassFile.FieldType.long)) ∈ TB := TB_of 1312 rfl (by decide +kernel)
set_option maxRecDepth 20000 in
theorem tb_1335 : (Jvm.Cond.code ({ cls := "LieClock", name := "surely", desc := "(I)I" } : Jvm.MethodName) prog_1_method_29_code (2 : Nat) (Option.some Jvm.ClassFile.FieldType.int)) ∈ TB := TB_of 1335 rfl (by decide +kernel)
set_option maxRecDepth 20000 in
theorem tb_1339 : (Jvm.Cond.code ({ cls := "LieClock", name := "liars", desc := "(I)I" } : Jvm.MethodName) prog_1_method_30_code (2 : Nat) (Option.some Jvm.ClassFile.FieldType.int)) ∈ TB := TB_of 1339 rfl (by decide +kernel)
set_option maxRecDepth 20000 in
theorem tb_1343 : (Jvm.Cond.code ({ cls := "LieClock", name := "hold", desc := "(I)Z" } : Jvm.MethodName) prog_1_method_31_code (2 : Nat) (Option.some Jvm.ClassFile.FieldType.boolean)) ∈ TB := TB_of 1343 rfl (by decide +kernel)
set_option maxRecDepth 20000 in
theorem tb_1352 : (Jvm.Cond.code ({ cls := "LieClock", name := "restore", desc := "(I)Z" } : Jvm.MethodName) prog_1_method_32_code (2 : Nat) (Option.some Jvm.ClassFile.FieldType.boolean)) ∈ TB := TB_of 1352 rfl (by decide +kernel)
set_option maxRecDepth 20000 in
theorem tb_1356 : (Jvm.Cond.code ({ cls := "LieClock", name := "count", desc := "(I)I" } : Jvm.MethodName) prog_1_method_33_code (2 : Nat) (Option.some Jvm.ClassFile.FieldType.int)) ∈ TB := TB_of 1356 rfl (by decide +kernel)
set_option maxRecDepth 20000 in
theorem tb_1585 : (Jvm.Cond.code ({ cls := "LieClockModel", name := "feed", desc := "(IIIII)I" } : Jvm.MethodName) prog_14_method_3_code (6 : Nat) (Option.some Jvm.ClassFile.FieldType.int)) ∈ TB := TB_of 1585 rfl (by decide +kernel)
set_option maxRecDepth 20000 in
theorem tb_1593 : (Jvm.Cond.code ({ cls := "LieClockModel", name := "back", desc := "(I)I" } : Jvm.MethodName) prog_14_method_5_code (2 : Nat) (Option.some Jvm.ClassFile.FieldType.int)) ∈ TB := TB_of 1593 rfl (by decide +kernel)
set_option maxRecDepth 20000 in
theorem tb_1597 : (Jvm.Cond.code ({ cls := "LieClockModel", name := "read", desc := "()I" } : Jvm.MethodName) prog_14_method_19_code (2 : Nat) (Option.some Jvm.ClassFile.FieldType.int)) ∈ TB := TB_of 1597 rfl (by decide +kernel)
set_option maxRecDepth 20000 in
theorem tb_1723 : (Jvm.Cond.code ({ cls := "LieClockModel", name := "place", desc := "()I" } : Jvm.MethodName) prog_14_method_20_code (1 : Nat) (Option.some Jvm.ClassFile.FieldType.int)) ∈ TB := TB_of 1723 rfl (by decide +kernel)
set_option maxRecDepth 20000 in
theorem tb_1727 : (Jvm.Cond.code ({ cls := "LieClockModel", name := "clock", desc := "()I" } : Jvm.MethodName) prog_14_method_61_code (1 : Nat) (Option.some Jvm.ClassFile.FieldType.int)) ∈ TB := TB_of 1727 rfl (by decide +kernel)
set_option maxRecDepth 20000 in
theorem tb_1731 : (Jvm.Cond.code ({ cls := "LieClockModel", name := "fact", desc := "(II)I" } : Jvm.MethodName) prog_14_method_62_code (3 : Nat) (Option.some Jvm.ClassFile.FieldType.int)) ∈ TB := TB_of 1731 rfl (by decide +kernel)
set_option maxRecDepth 20000 in
theorem tb_1738 : (Jvm.Cond.code ({ cls := "LieClockModel", name := "word", desc := "(II)I" } : Jvm.MethodName) prog_14_method_63_code (3 : Nat) (Option.some Jvm.ClassFile.FieldType.int)) ∈ TB := TB_of 1738 rfl (by decide +kernel)
set_option maxRecDepth 20000 in
theorem tb_1761 : (Jvm.Cond.code ({ cls := "LieClockModel", name := "witness", desc := "(II)I" } : Jvm.MethodName) prog_14_method_64_code (3 : Nat) (Option.some Jvm.ClassFile.FieldType.int)) ∈ TB := TB_of 1761 rfl (by decide +kernel)
set_option maxRecDepth 20000 in
theorem tb_1788 : (Jvm.Cond.code ({ cls := "LieClockModel", name := "share", desc := "(I)I" } : Jvm.MethodName) prog_14_method_65_code (2 : Nat) (Option.some Jvm.ClassFile.FieldType.int)) ∈ TB := TB_of 1788 rfl (by decide +kernel)
set_option maxRecDepth 20000 in
theorem tb_1793 : (Jvm.Cond.code ({ cls := "LieClockModel", name := "hearing", desc := "(II)I" } : Jvm.MethodName) prog_14_method_66_code (3 : Nat) (Option.some Jvm.ClassFile.FieldType.int)) ∈ TB := TB_of 1793 rfl (by decide +kernel)
set_option maxRecDepth 20000 in
theorem tb_1805 : (Jvm.Cond.code ({ cls := "LieClockModel", name := "say", desc := "(I)I" } : Jvm.MethodName) prog_14_method_68_code (3 : Nat) (Option.some Jvm.ClassFile.FieldType.int)) ∈ TB := TB_of 1805 rfl (by decide +kernel)
set_option maxRecDepth 20000 in
theorem tb_1839 : (Jvm.Cond.code ({ cls := "LieClockModel", name := "look", desc := "(I)I" } : Jvm.MethodName) prog_14_method_69_code (4 : Nat) (Option.some Jvm.ClassFile.FieldType.int)) ∈ TB := TB_of 1839 rfl (by decide +kernel)
set_option maxRecDepth 20000 in
theorem tb_1843 : (Jvm.Cond.code ({ cls := "LieClockModel", name := "pause", desc := "(I)I" } : Jvm.MethodName) prog_14_method_70_code (2 : Nat) (Option.some Jvm.ClassFile.FieldType.int)) ∈ TB := TB_of 1843 rfl (by decide +kernel)
set_option maxRecDepth 20000 in
theorem tb_1847 : (Jvm.Cond.code ({ cls := "LieClockModel", name := "undo", desc := "()Z" } : Jvm.MethodName) prog_14_method_71_code (2 : Nat) (Option.some Jvm.ClassFile.FieldType.boolean)) ∈ TB := TB_of 1847 rfl (by decide +kernel)
set_option maxRecDepth 20000 in
theorem tb_1851 : (Jvm.Cond.code ({ cls := "LieClockModel", name := "would", desc := "(I)I" } : Jvm.MethodName) prog_14_method_72_code (2 : Nat) (Option.some Jvm.ClassFile.FieldType.int)) ∈ TB := TB_of 1851 rfl (by decide +kernel)
set_option maxRecDepth 20000 in
theorem tb_1855 : (Jvm.Cond.code ({ cls := "LieClockModel", name := "ahead", desc := "(III)I" } : Jvm.MethodName) prog_14_method_76_code (6 : Nat) (Option.some Jvm.ClassFile.FieldType.int)) ∈ TB := TB_of 1855 rfl (by decide +kernel)
set_option maxRecDepth 20000 in
theorem tb_1871 : (Jvm.Cond.code ({ cls := "LieClockModel", name := "aheadAt", desc := "(III)I" } : Jvm.MethodName) prog_14_method_77_code (4 : Nat) (Option.some Jvm.ClassFile.FieldType.int)) ∈ TB := TB_of 1871 rfl (by decide +kernel)
set_option maxRecDepth 20000 in
theorem tb_1875 : (Jvm.Cond.code ({ cls := "LieClockModel", name := "order", desc := "(IZ)I" } : Jvm.MethodName) prog_14_method_82_code (3 : Nat) (Option.some Jvm.ClassFile.FieldType.int)) ∈ TB := TB_of 1875 rfl (by decide +kernel)
set_option maxRecDepth 20000 in
theorem tb_1895 : (Jvm.Cond.code ({ cls := "LieClockModel", name := "orderAt", desc := "(IZI)I" } : Jvm.MethodName) prog_14_method_83_code (4 : Nat) (Option.some Jvm.ClassFile.FieldType.int)) ∈ TB := TB_of 1895 rfl (by decide +kernel)
set_option maxRecDepth 20000 in
theorem tb_1900 : (Jvm.Cond.code ({ cls := "LieClockModel", name := "never", desc := "(II)I" } : Jvm.MethodName) prog_14_method_84_code (5 : Nat) (Option.some Jvm.ClassFile.FieldType.int)) ∈ TB := TB_of 1900 rfl (by decide +kernel)
set_option maxRecDepth 20000 in
theorem tb_1904 : (Jvm.Cond.code ({ cls := "LieClockModel", name := "smallest", desc := "()I" } : Jvm.MethodName) prog_14_method_86_code (3 : Nat) (Option.some Jvm.ClassFile.FieldType.int)) ∈ TB := TB_of 1904 rfl (by decide +kernel)
set_option maxRecDepth 20000 in
theorem tb_1913 : (Jvm.Cond.code ({ cls := "LieClockModel", name := "states", desc := "(I)I" } : Jvm.MethodName) prog_14_method_87_code (5 : Nat) (Option.some Jvm.ClassFile.FieldType.int)) ∈ TB := TB_of 1913 rfl (by decide +kernel)
set_option maxRecDepth 20000 in
theorem tb_1917 : (Jvm.Cond.code ({ cls := "LieClockModel", name := "looks", desc := "(I)I" } : Jvm.MethodName) prog_14_method_88_code (4 : Nat) (Option.some Jvm.ClassFile.FieldType.int)) ∈ TB := TB_of 1917 rfl (by decide +kernel)
set_option maxRecDepth 20000 in
theorem tb_1921 : (Jvm.Cond.code ({ cls := "LieClockModel", name := "settled", desc := "(I)I" } : Jvm.MethodName) prog_14_method_89_code (9 : Nat) (Option.some Jvm.ClassFile.FieldType.int)) ∈ TB := TB_of 1921 rfl (by decide +kernel)
set_option maxRecDepth 20000 in
theorem tb_1925 : (Jvm.Cond.code ({ cls := "LieClockModel", name := "write", desc := "(I)I" } : Jvm.MethodName) prog_14_method_90_code (2 : Nat) (Option.some Jvm.ClassFile.FieldType.int)) ∈ TB := TB_of 1925 rfl (by decide +kernel)
set_option maxRecDepth 20000 in
theorem tb_1929 : (Jvm.Cond.code ({ cls := "LieClockModel", name := "burn", desc := "()I" } : Jvm.MethodName) prog_14_method_91_code (2 : Nat) (Option.some Jvm.ClassFile.FieldType.int)) ∈ TB := TB_of 1929 rfl (by decide +kernel)
set_option maxRecDepth 20000 in
theorem tb_1933 : (Jvm.Cond.code ({ cls := "LieClockModel", name := "fits", desc := "(I)J" } : Jvm.MethodName) prog_14_method_94_code (2 : Nat) (Option.some Jvm.ClassFile.FieldType.long)) ∈ TB := TB_of 1933 rfl (by decide +kernel)
set_option maxRecDepth 20000 in
theorem tb_1945 : (Jvm.Cond.code ({ cls := "LieClockModel", name := "surely", desc := "(I)I" } : Jvm.MethodName) prog_14_method_95_code (2 : Nat) (Option.some Jvm.ClassFile.FieldType.int)) ∈ TB := TB_of 1945 rfl (by decide +kernel)
set_option maxRecDepth 20000 in
theorem tb_1949 : (Jvm.Cond.code ({ cls := "LieClockModel", name := "liars", desc := "(I)I" } : Jvm.MethodName) prog_14_method_96_code (2 : Nat) (Option.some Jvm.ClassFile.FieldType.int)) ∈ TB := TB_of 1949 rfl (by decide +kernel)
set_option maxRecDepth 20000 in
theorem tb_1953 : (Jvm.Cond.code ({ cls := "LieClockModel", name := "hold", desc := "(I)Z" } : Jvm.MethodName) prog_14_method_97_code (3 : Nat) (Option.some Jvm.ClassFile.FieldType.boolean)) ∈ TB := TB_of 1953 rfl (by decide +kernel)
set_option maxRecDepth 20000 in
theorem tb_1957 : (Jvm.Cond.code ({ cls := "LieClockModel", name := "restore", desc := "(I)Z" } : Jvm.MethodName) prog_14_method_98_code (3 : Nat) (Option.some Jvm.ClassFile.FieldType.boolean)) ∈ TB := TB_of 1957 rfl (by decide +kernel)
set_option maxRecDepth 20000 in
theorem tb_1961 : (Jvm.Cond.code ({ cls := "LieClockModel", name := "count", desc := "(I)I" } : Jvm.MethodName) prog_14_method_99_code (2 : Nat) (Option.some Jvm.ClassFile.FieldType.int)) ∈ TB := TB_of 1961 rfl (by decide +kernel)
