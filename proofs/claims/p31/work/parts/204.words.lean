set_option maxRecDepth 20000 in
theorem tb_1373 : (Jvm.Cond.code ({ cls := "LieClockModel", name := "appends", desc := "(JI)J" } : Jvm.MethodName) prog_14_method_9_code (3 : Nat) (Option.some Jvm.ClassFile.FieldType.long)) ∈ TB := TB_of 1373 rfl (by decide +kernel)
set_option maxRecDepth 20000 in
theorem tb_1589 : (Jvm.Cond.code ({ cls := "LieClockModel", name := "put", desc := "(I)V" } : Jvm.MethodName) prog_14_method_4_code (3 : Nat) (Option.none : Option Jvm.ClassFile.FieldType)) ∈ TB := TB_of 1589 rfl (by decide +kernel)
set_option maxRecDepth 20000 in
theorem tb_1601 : (Jvm.Cond.code ({ cls := "LieClockModel", name := "cut", desc := "()V" } : Jvm.MethodName) prog_14_method_12_code (8 : Nat) (Option.none : Option Jvm.ClassFile.FieldType)) ∈ TB := TB_of 1601 rfl (by decide +kernel)
set_option maxRecDepth 20000 in
theorem tb_1605 : (Jvm.Cond.code ({ cls := "LieClockModel", name := "byteAt", desc := "(I)I" } : Jvm.MethodName) prog_14_method_6_code (2 : Nat) (Option.some Jvm.ClassFile.FieldType.int)) ∈ TB := TB_of 1605 rfl (by decide +kernel)
set_option maxRecDepth 20000 in
theorem tb_1609 : (Jvm.Cond.code ({ cls := "LieClockModel", name := "token", desc := "(IIIJ)V" } : Jvm.MethodName) prog_14_method_11_code (6 : Nat) (Option.none : Option Jvm.ClassFile.FieldType)) ∈ TB := TB_of 1609 rfl (by decide +kernel)
set_option maxRecDepth 20000 in
theorem tb_1612 : (Jvm.Cond.code ({ cls := "LieClockModel", name := "isLetter", desc := "(I)Z" } : Jvm.MethodName) prog_14_method_8_code (1 : Nat) (Option.some Jvm.ClassFile.FieldType.boolean)) ∈ TB := TB_of 1612 rfl (by decide +kernel)
set_option maxRecDepth 20000 in
theorem tb_1615 : (Jvm.Cond.code ({ cls := "LieClockModel", name := "isDigit", desc := "(I)Z" } : Jvm.MethodName) prog_14_method_7_code (1 : Nat) (Option.some Jvm.ClassFile.FieldType.boolean)) ∈ TB := TB_of 1615 rfl (by decide +kernel)
set_option maxRecDepth 20000 in
theorem tb_1619 : (Jvm.Cond.code ({ cls := "LieClockModel", name := "sign", desc := "(III)I" } : Jvm.MethodName) prog_14_method_13_code (5 : Nat) (Option.some Jvm.ClassFile.FieldType.int)) ∈ TB := TB_of 1619 rfl (by decide +kernel)
set_option maxRecDepth 20000 in
theorem tb_1623 : (Jvm.Cond.code ({ cls := "LieClockModel", name := "is", desc := "(I)Z" } : Jvm.MethodName) prog_14_method_14_code (2 : Nat) (Option.some Jvm.ClassFile.FieldType.boolean)) ∈ TB := TB_of 1623 rfl (by decide +kernel)
set_option maxRecDepth 20000 in
theorem tb_1627 : (Jvm.Cond.code ({ cls := "LieClockModel", name := "tell", desc := "()V" } : Jvm.MethodName) prog_14_method_22_code (3 : Nat) (Option.none : Option Jvm.ClassFile.FieldType)) ∈ TB := TB_of 1627 rfl (by decide +kernel)
set_option maxRecDepth 20000 in
theorem tb_1631 : (Jvm.Cond.code ({ cls := "LieClockModel", name := "roomFor", desc := "(II)V" } : Jvm.MethodName) prog_14_method_21_code (3 : Nat) (Option.none : Option Jvm.ClassFile.FieldType)) ∈ TB := TB_of 1631 rfl (by decide +kernel)
set_option maxRecDepth 20000 in
theorem tb_1635 : (Jvm.Cond.code ({ cls := "LieClockModel", name := "fail", desc := "(I)V" } : Jvm.MethodName) prog_14_method_15_code (2 : Nat) (Option.none : Option Jvm.ClassFile.FieldType)) ∈ TB := TB_of 1635 rfl (by decide +kernel)
set_option maxRecDepth 20000 in
theorem tb_1639 : (Jvm.Cond.code ({ cls := "LieClockModel", name := "goesOn", desc := "()V" } : Jvm.MethodName) prog_14_method_17_code (1 : Nat) (Option.none : Option Jvm.ClassFile.FieldType)) ∈ TB := TB_of 1639 rfl (by decide +kernel)
set_option maxRecDepth 20000 in
theorem tb_1643 : (Jvm.Cond.code ({ cls := "LieClockModel", name := "tellFact", desc := "()V" } : Jvm.MethodName) prog_14_method_27_code (5 : Nat) (Option.none : Option Jvm.ClassFile.FieldType)) ∈ TB := TB_of 1643 rfl (by decide +kernel)
set_option maxRecDepth 20000 in
theorem tb_1647 : (Jvm.Cond.code ({ cls := "LieClockModel", name := "named", desc := "()I" } : Jvm.MethodName) prog_14_method_23_code (3 : Nat) (Option.some Jvm.ClassFile.FieldType.int)) ∈ TB := TB_of 1647 rfl (by decide +kernel)
set_option maxRecDepth 20000 in
theorem tb_1651 : (Jvm.Cond.code ({ cls := "LieClockModel", name := "must", desc := "(I)V" } : Jvm.MethodName) prog_14_method_18_code (2 : Nat) (Option.none : Option Jvm.ClassFile.FieldType)) ∈ TB := TB_of 1651 rfl (by decide +kernel)
set_option maxRecDepth 20000 in
theorem tb_1655 : (Jvm.Cond.code ({ cls := "LieClockModel", name := "wrong", desc := "(II)V" } : Jvm.MethodName) prog_14_method_16_code (4 : Nat) (Option.none : Option Jvm.ClassFile.FieldType)) ∈ TB := TB_of 1655 rfl (by decide +kernel)
set_option maxRecDepth 20000 in
theorem tb_1659 : (Jvm.Cond.code ({ cls := "LieClockModel", name := "notes", desc := "(III)V" } : Jvm.MethodName) prog_14_method_24_code (4 : Nat) (Option.none : Option Jvm.ClassFile.FieldType)) ∈ TB := TB_of 1659 rfl (by decide +kernel)
set_option maxRecDepth 20000 in
theorem tb_1663 : (Jvm.Cond.code ({ cls := "LieClockModel", name := "tellWitness", desc := "()V" } : Jvm.MethodName) prog_14_method_28_code (2 : Nat) (Option.none : Option Jvm.ClassFile.FieldType)) ∈ TB := TB_of 1663 rfl (by decide +kernel)
set_option maxRecDepth 20000 in
theorem tb_1667 : (Jvm.Cond.code ({ cls := "LieClockModel", name := "tellWord", desc := "()V" } : Jvm.MethodName) prog_14_method_29_code (2 : Nat) (Option.none : Option Jvm.ClassFile.FieldType)) ∈ TB := TB_of 1667 rfl (by decide +kernel)
set_option maxRecDepth 20000 in
theorem tb_1671 : (Jvm.Cond.code ({ cls := "LieClockModel", name := "known", desc := "(I)I" } : Jvm.MethodName) prog_14_method_25_code (4 : Nat) (Option.some Jvm.ClassFile.FieldType.int)) ∈ TB := TB_of 1671 rfl (by decide +kernel)
set_option maxRecDepth 20000 in
theorem tb_1675 : (Jvm.Cond.code ({ cls := "LieClockModel", name := "condition", desc := "()J" } : Jvm.MethodName) prog_14_method_34_code (3 : Nat) (Option.some Jvm.ClassFile.FieldType.long)) ∈ TB := TB_of 1675 rfl (by decide +kernel)
set_option maxRecDepth 20000 in
theorem tb_1679 : (Jvm.Cond.code ({ cls := "LieClockModel", name := "opensCondition", desc := "()V" } : Jvm.MethodName) prog_14_method_32_code (1 : Nat) (Option.none : Option Jvm.ClassFile.FieldType)) ∈ TB := TB_of 1679 rfl (by decide +kernel)
set_option maxRecDepth 20000 in
theorem tb_1684 : (Jvm.Cond.code ({ cls := "LieClockModel", name := "nots", desc := "()V" } : Jvm.MethodName) prog_14_method_33_code (1 : Nat) (Option.none : Option Jvm.ClassFile.FieldType)) ∈ TB := TB_of 1684 rfl (by decide +kernel)
set_option maxRecDepth 20000 in
theorem tb_1687 : (Jvm.Cond.code ({ cls := "LieClockModel", name := "statesOf", desc := "(I)J" } : Jvm.MethodName) prog_14_method_31_code (4 : Nat) (Option.some Jvm.ClassFile.FieldType.long)) ∈ TB := TB_of 1687 rfl (by decide +kernel)
set_option maxRecDepth 20000 in
theorem tb_1691 : (Jvm.Cond.code ({ cls := "LieClockModel", name := "takes", desc := "(J)Z" } : Jvm.MethodName) prog_14_method_35_code (6 : Nat) (Option.some Jvm.ClassFile.FieldType.boolean)) ∈ TB := TB_of 1691 rfl (by decide +kernel)
set_option maxRecDepth 20000 in
theorem tb_1695 : (Jvm.Cond.code ({ cls := "LieClockModel", name := "tellCase", desc := "()V" } : Jvm.MethodName) prog_14_method_30_code (3 : Nat) (Option.none : Option Jvm.ClassFile.FieldType)) ∈ TB := TB_of 1695 rfl (by decide +kernel)
set_option maxRecDepth 20000 in
theorem tb_1699 : (Jvm.Cond.code ({ cls := "LieClockModel", name := "bounded", desc := "(II)I" } : Jvm.MethodName) prog_14_method_26_code (4 : Nat) (Option.some Jvm.ClassFile.FieldType.int)) ∈ TB := TB_of 1699 rfl (by decide +kernel)
set_option maxRecDepth 20000 in
theorem tb_1703 : (Jvm.Cond.code ({ cls := "LieClockModel", name := "expression", desc := "()V" } : Jvm.MethodName) prog_14_method_38_code (3 : Nat) (Option.none : Option Jvm.ClassFile.FieldType)) ∈ TB := TB_of 1703 rfl (by decide +kernel)
set_option maxRecDepth 20000 in
theorem tb_1707 : (Jvm.Cond.code ({ cls := "LieClockModel", name := "unit", desc := "()V" } : Jvm.MethodName) prog_14_method_39_code (1 : Nat) (Option.none : Option Jvm.ClassFile.FieldType)) ∈ TB := TB_of 1707 rfl (by decide +kernel)
set_option maxRecDepth 20000 in
theorem tb_1711 : (Jvm.Cond.code ({ cls := "LieClockModel", name := "emit", desc := "(II)V" } : Jvm.MethodName) prog_14_method_36_code (3 : Nat) (Option.none : Option Jvm.ClassFile.FieldType)) ∈ TB := TB_of 1711 rfl (by decide +kernel)
set_option maxRecDepth 20000 in
theorem tb_1715 : (Jvm.Cond.code ({ cls := "LieClockModel", name := "comesOut", desc := "(Z)V" } : Jvm.MethodName) prog_14_method_37_code (3 : Nat) (Option.none : Option Jvm.ClassFile.FieldType)) ∈ TB := TB_of 1715 rfl (by decide +kernel)
set_option maxRecDepth 20000 in
theorem tb_1719 : (Jvm.Cond.code ({ cls := "LieClockModel", name := "begins", desc := "()V" } : Jvm.MethodName) prog_14_method_47_code (2 : Nat) (Option.none : Option Jvm.ClassFile.FieldType)) ∈ TB := TB_of 1719 rfl (by decide +kernel)
set_option maxRecDepth 20000 in
theorem tb_1734 : (Jvm.Cond.code ({ cls := "LieClockModel", name := "in", desc := "(III)Z" } : Jvm.MethodName) prog_14_method_41_code (3 : Nat) (Option.some Jvm.ClassFile.FieldType.boolean)) ∈ TB := TB_of 1734 rfl (by decide +kernel)
set_option maxRecDepth 20000 in
theorem tb_1742 : (Jvm.Cond.code ({ cls := "LieClockModel", name := "isWord", desc := "(I)Z" } : Jvm.MethodName) prog_14_method_42_code (2 : Nat) (Option.some Jvm.ClassFile.FieldType.boolean)) ∈ TB := TB_of 1742 rfl (by decide +kernel)
set_option maxRecDepth 20000 in
theorem tb_1746 : (Jvm.Cond.code ({ cls := "LieClockModel", name := "isTrue", desc := "(I)Z" } : Jvm.MethodName) prog_14_method_46_code (2 : Nat) (Option.some Jvm.ClassFile.FieldType.boolean)) ∈ TB := TB_of 1746 rfl (by decide +kernel)
set_option maxRecDepth 20000 in
theorem tb_1750 : (Jvm.Cond.code ({ cls := "LieClockModel", name := "holdsOf", desc := "(I)J" } : Jvm.MethodName) prog_14_method_45_code (2 : Nat) (Option.some Jvm.ClassFile.FieldType.long)) ∈ TB := TB_of 1750 rfl (by decide +kernel)
set_option maxRecDepth 20000 in
theorem tb_1754 : (Jvm.Cond.code ({ cls := "LieClockModel", name := "allStates", desc := "()J" } : Jvm.MethodName) prog_14_method_51_code (2 : Nat) (Option.some Jvm.ClassFile.FieldType.long)) ∈ TB := TB_of 1754 rfl (by decide +kernel)
set_option maxRecDepth 20000 in
theorem tb_1757 : (Jvm.Cond.code ({ cls := "LieClockModel", name := "many", desc := "(J)I" } : Jvm.MethodName) prog_14_method_50_code (4 : Nat) (Option.some Jvm.ClassFile.FieldType.int)) ∈ TB := TB_of 1757 rfl (by decide +kernel)
set_option maxRecDepth 20000 in
theorem tb_1765 : (Jvm.Cond.code ({ cls := "LieClockModel", name := "isWitness", desc := "(I)Z" } : Jvm.MethodName) prog_14_method_44_code (2 : Nat) (Option.some Jvm.ClassFile.FieldType.boolean)) ∈ TB := TB_of 1765 rfl (by decide +kernel)
set_option maxRecDepth 20000 in
theorem tb_1769 : (Jvm.Cond.code ({ cls := "LieClockModel", name := "copies", desc := "()V" } : Jvm.MethodName) prog_14_method_48_code (2 : Nat) (Option.none : Option Jvm.ClassFile.FieldType)) ∈ TB := TB_of 1769 rfl (by decide +kernel)
set_option maxRecDepth 20000 in
theorem tb_1773 : (Jvm.Cond.code ({ cls := "LieClockModel", name := "wordsOf", desc := "(I)I" } : Jvm.MethodName) prog_14_method_56_code (4 : Nat) (Option.some Jvm.ClassFile.FieldType.int)) ∈ TB := TB_of 1773 rfl (by decide +kernel)
set_option maxRecDepth 20000 in
theorem tb_1776 : (Jvm.Cond.code ({ cls := "LieClockModel", name := "bits", desc := "(I)I" } : Jvm.MethodName) prog_14_method_49_code (3 : Nat) (Option.some Jvm.ClassFile.FieldType.int)) ∈ TB := TB_of 1776 rfl (by decide +kernel)
set_option maxRecDepth 20000 in
theorem tb_1780 : (Jvm.Cond.code ({ cls := "LieClockModel", name := "stand", desc := "(I)Z" } : Jvm.MethodName) prog_14_method_58_code (5 : Nat) (Option.some Jvm.ClassFile.FieldType.boolean)) ∈ TB := TB_of 1780 rfl (by decide +kernel)
set_option maxRecDepth 20000 in
theorem tb_1784 : (Jvm.Cond.code ({ cls := "LieClockModel", name := "mayBe", desc := "(I)J" } : Jvm.MethodName) prog_14_method_52_code (5 : Nat) (Option.some Jvm.ClassFile.FieldType.long)) ∈ TB := TB_of 1784 rfl (by decide +kernel)
set_option maxRecDepth 20000 in
theorem tb_1797 : (Jvm.Cond.code ({ cls := "LieClockModel", name := "isCase", desc := "(I)Z" } : Jvm.MethodName) prog_14_method_43_code (2 : Nat) (Option.some Jvm.ClassFile.FieldType.boolean)) ∈ TB := TB_of 1797 rfl (by decide +kernel)
set_option maxRecDepth 20000 in
theorem tb_1801 : (Jvm.Cond.code ({ cls := "LieClockModel", name := "verdictOf", desc := "(I)I" } : Jvm.MethodName) prog_14_method_54_code (6 : Nat) (Option.some Jvm.ClassFile.FieldType.int)) ∈ TB := TB_of 1801 rfl (by decide +kernel)
set_option maxRecDepth 20000 in
theorem tb_1809 : (Jvm.Cond.code ({ cls := "LieClockModel", name := "sayNow", desc := "(I)I" } : Jvm.MethodName) prog_14_method_60_code (6 : Nat) (Option.some Jvm.ClassFile.FieldType.int)) ∈ TB := TB_of 1809 rfl (by decide +kernel)
set_option maxRecDepth 20000 in
theorem tb_1813 : (Jvm.Cond.code ({ cls := "LieClockModel", name := "forward", desc := "(I)V" } : Jvm.MethodName) prog_14_method_55_code (4 : Nat) (Option.none : Option Jvm.ClassFile.FieldType)) ∈ TB := TB_of 1813 rfl (by decide +kernel)
set_option maxRecDepth 20000 in
theorem tb_1818 : (Jvm.Cond.code ({ cls := "LieClockModel", name := "minutesBy", desc := "(II)I" } : Jvm.MethodName) prog_14_method_57_code (7 : Nat) (Option.some Jvm.ClassFile.FieldType.int)) ∈ TB := TB_of 1818 rfl (by decide +kernel)
set_option maxRecDepth 20000 in
theorem tb_1822 : (Jvm.Cond.code ({ cls := "LieClockModel", name := "heardAll", desc := "()I" } : Jvm.MethodName) prog_14_method_53_code (3 : Nat) (Option.some Jvm.ClassFile.FieldType.int)) ∈ TB := TB_of 1822 rfl (by decide +kernel)
set_option maxRecDepth 20000 in
theorem tb_1826 : (Jvm.Cond.code ({ cls := "LieClockModel", name := "termOf", desc := "(II)I" } : Jvm.MethodName) prog_14_method_40_code (8 : Nat) (Option.some Jvm.ClassFile.FieldType.int)) ∈ TB := TB_of 1826 rfl (by decide +kernel)
set_option maxRecDepth 20000 in
theorem tb_1830 : (Jvm.Cond.code ({ cls := "LieClockModel", name := "looksAt", desc := "(I)I" } : Jvm.MethodName) prog_14_method_59_code (6 : Nat) (Option.some Jvm.ClassFile.FieldType.int)) ∈ TB := TB_of 1830 rfl (by decide +kernel)
set_option maxRecDepth 20000 in
theorem tb_1835 : (Jvm.Cond.code ({ cls := "LieClockModel", name := "keeps", desc := "()V" } : Jvm.MethodName) prog_14_method_67_code (2 : Nat) (Option.none : Option Jvm.ClassFile.FieldType)) ∈ TB := TB_of 1835 rfl (by decide +kernel)
set_option maxRecDepth 20000 in
theorem tb_1859 : (Jvm.Cond.code ({ cls := "LieClockModel", name := "findsAhead", desc := "(II)Z" } : Jvm.MethodName) prog_14_method_75_code (4 : Nat) (Option.some Jvm.ClassFile.FieldType.boolean)) ∈ TB := TB_of 1859 rfl (by decide +kernel)
set_option maxRecDepth 20000 in
theorem tb_1863 : (Jvm.Cond.code ({ cls := "LieClockModel", name := "isAhead", desc := "(II)Z" } : Jvm.MethodName) prog_14_method_74_code (4 : Nat) (Option.some Jvm.ClassFile.FieldType.boolean)) ∈ TB := TB_of 1863 rfl (by decide +kernel)
set_option maxRecDepth 20000 in
theorem tb_1867 : (Jvm.Cond.code ({ cls := "LieClockModel", name := "nextRow", desc := "()Z" } : Jvm.MethodName) prog_14_method_73_code (2 : Nat) (Option.some Jvm.ClassFile.FieldType.boolean)) ∈ TB := TB_of 1867 rfl (by decide +kernel)
set_option maxRecDepth 20000 in
theorem tb_1879 : (Jvm.Cond.code ({ cls := "LieClockModel", name := "isSet", desc := "(I)Z" } : Jvm.MethodName) prog_14_method_78_code (2 : Nat) (Option.some Jvm.ClassFile.FieldType.boolean)) ∈ TB := TB_of 1879 rfl (by decide +kernel)
set_option maxRecDepth 20000 in
theorem tb_1883 : (Jvm.Cond.code ({ cls := "LieClockModel", name := "orders", desc := "(IZ)I" } : Jvm.MethodName) prog_14_method_81_code (7 : Nat) (Option.some Jvm.ClassFile.FieldType.int)) ∈ TB := TB_of 1883 rfl (by decide +kernel)
set_option maxRecDepth 20000 in
theorem tb_1887 : (Jvm.Cond.code ({ cls := "LieClockModel", name := "fillsOrder", desc := "(I)V" } : Jvm.MethodName) prog_14_method_79_code (3 : Nat) (Option.none : Option Jvm.ClassFile.FieldType)) ∈ TB := TB_of 1887 rfl (by decide +kernel)
set_option maxRecDepth 20000 in
theorem tb_1891 : (Jvm.Cond.code ({ cls := "LieClockModel", name := "nextOrder", desc := "()Z" } : Jvm.MethodName) prog_14_method_80_code (6 : Nat) (Option.some Jvm.ClassFile.FieldType.boolean)) ∈ TB := TB_of 1891 rfl (by decide +kernel)
set_option maxRecDepth 20000 in
theorem tb_1909 : (Jvm.Cond.code ({ cls := "LieClockModel", name := "fillsSets", desc := "(I)V" } : Jvm.MethodName) prog_14_method_85_code (4 : Nat) (Option.none : Option Jvm.ClassFile.FieldType)) ∈ TB := TB_of 1909 rfl (by decide +kernel)
set_option maxRecDepth 20000 in
theorem tb_1937 : (Jvm.Cond.code ({ cls := "LieClockModel", name := "fillsBook", desc := "(I)V" } : Jvm.MethodName) prog_14_method_93_code (4 : Nat) (Option.none : Option Jvm.ClassFile.FieldType)) ∈ TB := TB_of 1937 rfl (by decide +kernel)
set_option maxRecDepth 20000 in
theorem tb_1941 : (Jvm.Cond.code ({ cls := "LieClockModel", name := "fitsOne", desc := "(I)V" } : Jvm.MethodName) prog_14_method_92_code (5 : Nat) (Option.none : Option Jvm.ClassFile.FieldType)) ∈ TB := TB_of 1941 rfl (by decide +kernel)
