theorem tb_33 : Cond.selects "LieClock$Nodes" ⟨"LieClock$Nodes", "slotOf", "(LLieClock$State;I)I"⟩ ⟨"LieClock$Nodes", "slotOf", "(LLieClock$State;I)I"⟩ ∈ TB := TB_of 33 (by decide +kernel) (by decide +kernel)
theorem tb_34 : Cond.selects "LieClock$Nodes" ⟨"LieClock$Nodes", "grow", "()V"⟩ ⟨"LieClock$Nodes", "grow", "()V"⟩ ∈ TB := TB_of 34 (by decide +kernel) (by decide +kernel)
theorem tb_35 : Cond.selects "LieClock$Nodes" ⟨"LieClock$Nodes", "freeSlot", "(I)I"⟩ ⟨"LieClock$Nodes", "freeSlot", "(I)I"⟩ ∈ TB := TB_of 35 (by decide +kernel) (by decide +kernel)
theorem tb_36 : Cond.selects "LieClock$Ahead" ⟨"LieClock$Ahead", "expand", "(LLieClock$Told;II)V"⟩ ⟨"LieClock$Ahead", "expand", "(LLieClock$Told;II)V"⟩ ∈ TB := TB_of 36 (by decide +kernel) (by decide +kernel)
theorem tb_37 : Cond.selects "LieClock$Ahead" ⟨"LieClock$Ahead", "keepPath", "(LLieClock$Told;III)V"⟩ ⟨"LieClock$Ahead", "keepPath", "(LLieClock$Told;III)V"⟩ ∈ TB := TB_of 37 (by decide +kernel) (by decide +kernel)
theorem tb_45 : Cond.selects "LieClock$Book" ⟨"LieClock$Book", "expand", "(LLieClock$Told;IIII)V"⟩ ⟨"LieClock$Book", "expand", "(LLieClock$Told;IIII)V"⟩ ∈ TB := TB_of 45 (by decide +kernel) (by decide +kernel)
theorem tb_117 : (Jvm.Cond.initialized "LieClock$Nodes") ∈ TB := TB_of 117 (by decide +kernel) (by decide +kernel)
theorem tb_120 : (Jvm.Cond.initialized "LieClock$Ahead") ∈ TB := TB_of 120 (by decide +kernel) (by decide +kernel)
theorem tb_181 : (Jvm.Cond.arrayClass Jvm.ClassFile.FieldType.long) ∈ TB := TB_of 181 (by decide +kernel) (by decide +kernel)
theorem tb_182 : (Jvm.Cond.arrayClass Jvm.ClassFile.FieldType.int) ∈ TB := TB_of 182 (by decide +kernel) (by decide +kernel)
theorem tb_492 : (Jvm.Cond.fieldLink "LieClock$Nodes" (11 : Nat) "LieClock$Nodes" "words" "[I") ∈ TB := TB_of 492 (by decide +kernel) (by decide +kernel)
theorem tb_495 : (Jvm.Cond.fieldLink "LieClock$Nodes" (15 : Nat) "LieClock$Nodes" "clocks" "[I") ∈ TB := TB_of 495 (by decide +kernel) (by decide +kernel)
theorem tb_497 : (Jvm.Cond.fieldLink "LieClock$Nodes" (18 : Nat) "LieClock$Nodes" "heards" "[I") ∈ TB := TB_of 497 (by decide +kernel) (by decide +kernel)
theorem tb_498 : (Jvm.Cond.fieldLink "LieClock$Nodes" (21 : Nat) "LieClock$Nodes" "from" "[I") ∈ TB := TB_of 498 (by decide +kernel) (by decide +kernel)
theorem tb_500 : (Jvm.Cond.fieldLink "LieClock$Nodes" (24 : Nat) "LieClock$Nodes" "rows" "[J") ∈ TB := TB_of 500 (by decide +kernel) (by decide +kernel)
theorem tb_592 : (Jvm.Cond.fieldLink "LieClock$Ahead" (14 : Nat) "LieClock$Ahead" "probe" "LLieClock$State;") ∈ TB := TB_of 592 (by decide +kernel) (by decide +kernel)
theorem tb_593 : (Jvm.Cond.fieldLink "LieClock$Ahead" (20 : Nat) "LieClock$Ahead" "path" "[I") ∈ TB := TB_of 593 (by decide +kernel) (by decide +kernel)
theorem tb_629 : (Jvm.Cond.fieldLink "LieClock$Book" (14 : Nat) "LieClock$Book" "probe" "LLieClock$State;") ∈ TB := TB_of 629 (by decide +kernel) (by decide +kernel)
theorem tb_1129 : (Jvm.Cond.methodLink "LieClock" (239 : Nat) ({ cls := "LieClock$Ahead", name := "find", desc := "(LLieClock$Told;LLieClock$State;II)V" } : Jvm.MethodName)) ∈ TB := TB_of 1129 (by decide +kernel) (by decide +kernel)
theorem tb_1130 : (Jvm.Cond.instanceMethod ({ cls := "LieClock$Ahead", name := "find", desc := "(LLieClock$Told;LLieClock$State;II)V" } : Jvm.MethodName)) ∈ TB := TB_of 1130 (by decide +kernel) (by decide +kernel)
theorem tb_1131 : (Jvm.Cond.selects "LieClock$Ahead" ({ cls := "LieClock$Ahead", name := "find", desc := "(LLieClock$Told;LLieClock$State;II)V" } : Jvm.MethodName) ({ cls := "LieClock$Ahead", name := "find", desc := "(LLieClock$Told;LLieClock$State;II)V" } : Jvm.MethodName)) ∈ TB := TB_of 1131 (by decide +kernel) (by decide +kernel)
theorem tb_1133 : (Jvm.Cond.methodLink "LieClock$Ahead" (45 : Nat) ({ cls := "LieClock$Nodes", name := "clear", desc := "()V" } : Jvm.MethodName)) ∈ TB := TB_of 1133 (by decide +kernel) (by decide +kernel)
theorem tb_1134 : (Jvm.Cond.instanceMethod ({ cls := "LieClock$Nodes", name := "clear", desc := "()V" } : Jvm.MethodName)) ∈ TB := TB_of 1134 (by decide +kernel) (by decide +kernel)
theorem tb_1135 : (Jvm.Cond.selects "LieClock$Nodes" ({ cls := "LieClock$Nodes", name := "clear", desc := "()V" } : Jvm.MethodName) ({ cls := "LieClock$Nodes", name := "clear", desc := "()V" } : Jvm.MethodName)) ∈ TB := TB_of 1135 (by decide +kernel) (by decide +kernel)
theorem tb_1137 : (Jvm.Cond.methodLink "LieClock$Nodes" (35 : Nat) ({ cls := "java/util/Arrays", name := "fill", desc := "([II)V" } : Jvm.MethodName)) ∈ TB := TB_of 1137 (by decide +kernel) (by decide +kernel)
theorem tb_1138 : (Jvm.Cond.methodLink "LieClock$Ahead" (50 : Nat) ({ cls := "LieClock$State", name := "copyMoment", desc := "(LLieClock$State;)V" } : Jvm.MethodName)) ∈ TB := TB_of 1138 (by decide +kernel) (by decide +kernel)
theorem tb_1139 : (Jvm.Cond.methodLink "LieClock$Ahead" (54 : Nat) ({ cls := "LieClock$Nodes", name := "add", desc := "(LLieClock$State;IJI)V" } : Jvm.MethodName)) ∈ TB := TB_of 1139 (by decide +kernel) (by decide +kernel)
theorem tb_1140 : (Jvm.Cond.instanceMethod ({ cls := "LieClock$Nodes", name := "add", desc := "(LLieClock$State;IJI)V" } : Jvm.MethodName)) ∈ TB := TB_of 1140 (by decide +kernel) (by decide +kernel)
theorem tb_1141 : (Jvm.Cond.selects "LieClock$Nodes" ({ cls := "LieClock$Nodes", name := "add", desc := "(LLieClock$State;IJI)V" } : Jvm.MethodName) ({ cls := "LieClock$Nodes", name := "add", desc := "(LLieClock$State;IJI)V" } : Jvm.MethodName)) ∈ TB := TB_of 1141 (by decide +kernel) (by decide +kernel)
theorem tb_1143 : (Jvm.Cond.methodLink "LieClock$Nodes" (56 : Nat) ({ cls := "LieClock$Nodes", name := "slotOf", desc := "(LLieClock$State;I)I" } : Jvm.MethodName)) ∈ TB := TB_of 1143 (by decide +kernel) (by decide +kernel)
theorem tb_1145 : (Jvm.Cond.instanceMethod ({ cls := "LieClock$Nodes", name := "slotOf", desc := "(LLieClock$State;I)I" } : Jvm.MethodName)) ∈ TB := TB_of 1145 (by decide +kernel) (by decide +kernel)
theorem tb_1147 : (Jvm.Cond.methodLink "LieClock$Nodes" (63 : Nat) ({ cls := "LieClock$Nodes", name := "packed", desc := "(LLieClock$State;)I" } : Jvm.MethodName)) ∈ TB := TB_of 1147 (by decide +kernel) (by decide +kernel)
theorem tb_1148 : (Jvm.Cond.static ({ cls := "LieClock$Nodes", name := "packed", desc := "(LLieClock$State;)I" } : Jvm.MethodName)) ∈ TB := TB_of 1148 (by decide +kernel) (by decide +kernel)
theorem tb_1150 : (Jvm.Cond.methodLink "LieClock$Nodes" (70 : Nat) ({ cls := "LieClock$Nodes", name := "hash", desc := "(III)I" } : Jvm.MethodName)) ∈ TB := TB_of 1150 (by decide +kernel) (by decide +kernel)
theorem tb_1151 : (Jvm.Cond.static ({ cls := "LieClock$Nodes", name := "hash", desc := "(III)I" } : Jvm.MethodName)) ∈ TB := TB_of 1151 (by decide +kernel) (by decide +kernel)
theorem tb_1153 : (Jvm.Cond.constant "LieClock$Nodes" (67 : Nat) (-1640531535 : Int32)) ∈ TB := TB_of 1153 (by decide +kernel) (by decide +kernel)
theorem tb_1154 : (Jvm.Cond.constant "LieClock$Nodes" (68 : Nat) (-2048144789 : Int32)) ∈ TB := TB_of 1154 (by decide +kernel) (by decide +kernel)
theorem tb_1155 : (Jvm.Cond.constant "LieClock$Nodes" (69 : Nat) (-1028477387 : Int32)) ∈ TB := TB_of 1155 (by decide +kernel) (by decide +kernel)
theorem tb_1156 : (Jvm.Cond.methodLink "LieClock$Nodes" (60 : Nat) ({ cls := "LieClock$Nodes", name := "grow", desc := "()V" } : Jvm.MethodName)) ∈ TB := TB_of 1156 (by decide +kernel) (by decide +kernel)
theorem tb_1158 : (Jvm.Cond.instanceMethod ({ cls := "LieClock$Nodes", name := "grow", desc := "()V" } : Jvm.MethodName)) ∈ TB := TB_of 1158 (by decide +kernel) (by decide +kernel)
theorem tb_1160 : (Jvm.Cond.constant "LieClock$Nodes" (74 : Nat) (131072 : Int32)) ∈ TB := TB_of 1160 (by decide +kernel) (by decide +kernel)
theorem tb_1161 : (Jvm.Cond.methodLink "LieClock$Nodes" (75 : Nat) ({ cls := "java/util/Arrays", name := "copyOf", desc := "([II)[I" } : Jvm.MethodName)) ∈ TB := TB_of 1161 (by decide +kernel) (by decide +kernel)
theorem tb_1162 : (Jvm.Cond.static ({ cls := "java/util/Arrays", name := "copyOf", desc := "([II)[I" } : Jvm.MethodName)) ∈ TB := TB_of 1162 (by decide +kernel) (by decide +kernel)
theorem tb_1171 : (Jvm.Cond.methodLink "java/util/Arrays" (304 : Nat) ({ cls := "java/lang/Math", name := "min", desc := "(II)I" } : Jvm.MethodName)) ∈ TB := TB_of 1171 (by decide +kernel) (by decide +kernel)
theorem tb_1172 : (Jvm.Cond.methodLink "java/util/Arrays" (150 : Nat) ({ cls := "java/lang/System", name := "arraycopy", desc := "(Ljava/lang/Object;ILjava/lang/Object;II)V" } : Jvm.MethodName)) ∈ TB := TB_of 1172 (by decide +kernel) (by decide +kernel)
theorem tb_1173 : (Jvm.Cond.methodLink "LieClock$Nodes" (79 : Nat) ({ cls := "java/util/Arrays", name := "copyOf", desc := "([JI)[J" } : Jvm.MethodName)) ∈ TB := TB_of 1173 (by decide +kernel) (by decide +kernel)
theorem tb_1174 : (Jvm.Cond.static ({ cls := "java/util/Arrays", name := "copyOf", desc := "([JI)[J" } : Jvm.MethodName)) ∈ TB := TB_of 1174 (by decide +kernel) (by decide +kernel)
theorem tb_1181 : (Jvm.Cond.methodLink "LieClock$Nodes" (82 : Nat) ({ cls := "LieClock$Nodes", name := "freeSlot", desc := "(I)I" } : Jvm.MethodName)) ∈ TB := TB_of 1181 (by decide +kernel) (by decide +kernel)
theorem tb_1183 : (Jvm.Cond.instanceMethod ({ cls := "LieClock$Nodes", name := "freeSlot", desc := "(I)I" } : Jvm.MethodName)) ∈ TB := TB_of 1183 (by decide +kernel) (by decide +kernel)
theorem tb_1185 : (Jvm.Cond.methodLink "LieClock$Ahead" (69 : Nat) ({ cls := "LieClock$Ahead", name := "canCome", desc := "(II)Z" } : Jvm.MethodName)) ∈ TB := TB_of 1185 (by decide +kernel) (by decide +kernel)
theorem tb_1186 : (Jvm.Cond.static ({ cls := "LieClock$Ahead", name := "canCome", desc := "(II)Z" } : Jvm.MethodName)) ∈ TB := TB_of 1186 (by decide +kernel) (by decide +kernel)
theorem tb_1188 : (Jvm.Cond.methodLink "LieClock$Ahead" (73 : Nat) ({ cls := "LieClock$Ahead", name := "expand", desc := "(LLieClock$Told;II)V" } : Jvm.MethodName)) ∈ TB := TB_of 1188 (by decide +kernel) (by decide +kernel)
theorem tb_1190 : (Jvm.Cond.instanceMethod ({ cls := "LieClock$Ahead", name := "expand", desc := "(LLieClock$Told;II)V" } : Jvm.MethodName)) ∈ TB := TB_of 1190 (by decide +kernel) (by decide +kernel)
theorem tb_1192 : (Jvm.Cond.constant "LieClock$Ahead" (80 : Nat) (65535 : Int32)) ∈ TB := TB_of 1192 (by decide +kernel) (by decide +kernel)
theorem tb_1193 : (Jvm.Cond.methodLink "LieClock$Ahead" (83 : Nat) ({ cls := "LieClock$Nodes", name := "load", desc := "(ILLieClock$State;)V" } : Jvm.MethodName)) ∈ TB := TB_of 1193 (by decide +kernel) (by decide +kernel)
theorem tb_1194 : (Jvm.Cond.instanceMethod ({ cls := "LieClock$Nodes", name := "load", desc := "(ILLieClock$State;)V" } : Jvm.MethodName)) ∈ TB := TB_of 1194 (by decide +kernel) (by decide +kernel)
theorem tb_1195 : (Jvm.Cond.selects "LieClock$Nodes" ({ cls := "LieClock$Nodes", name := "load", desc := "(ILLieClock$State;)V" } : Jvm.MethodName) ({ cls := "LieClock$Nodes", name := "load", desc := "(ILLieClock$State;)V" } : Jvm.MethodName)) ∈ TB := TB_of 1195 (by decide +kernel) (by decide +kernel)
theorem tb_1197 : (Jvm.Cond.constant "LieClock$Nodes" (46 : Nat) (65535 : Int32)) ∈ TB := TB_of 1197 (by decide +kernel) (by decide +kernel)
theorem tb_1198 : (Jvm.Cond.methodLink "LieClock$Ahead" (90 : Nat) ({ cls := "LieClock$State", name := "utter", desc := "(LLieClock$Told;I)I" } : Jvm.MethodName)) ∈ TB := TB_of 1198 (by decide +kernel) (by decide +kernel)
theorem tb_1199 : (Jvm.Cond.methodLink "LieClock$Ahead" (94 : Nat) ({ cls := "LieClock$Ahead", name := "keepPath", desc := "(LLieClock$Told;III)V" } : Jvm.MethodName)) ∈ TB := TB_of 1199 (by decide +kernel) (by decide +kernel)
theorem tb_1201 : (Jvm.Cond.instanceMethod ({ cls := "LieClock$Ahead", name := "keepPath", desc := "(LLieClock$Told;III)V" } : Jvm.MethodName)) ∈ TB := TB_of 1201 (by decide +kernel) (by decide +kernel)
theorem tb_1313 : (Jvm.Cond.methodLink "LieClock" (295 : Nat) ({ cls := "LieClock$Book", name := "find", desc := "(LLieClock$Told;I)V" } : Jvm.MethodName)) ∈ TB := TB_of 1313 (by decide +kernel) (by decide +kernel)
theorem tb_1314 : (Jvm.Cond.instanceMethod ({ cls := "LieClock$Book", name := "find", desc := "(LLieClock$Told;I)V" } : Jvm.MethodName)) ∈ TB := TB_of 1314 (by decide +kernel) (by decide +kernel)
theorem tb_1315 : (Jvm.Cond.selects "LieClock$Book" ({ cls := "LieClock$Book", name := "find", desc := "(LLieClock$Told;I)V" } : Jvm.MethodName) ({ cls := "LieClock$Book", name := "find", desc := "(LLieClock$Told;I)V" } : Jvm.MethodName)) ∈ TB := TB_of 1315 (by decide +kernel) (by decide +kernel)
theorem tb_1317 : (Jvm.Cond.methodLink "LieClock$Book" (54 : Nat) ({ cls := "LieClock$Nodes", name := "clear", desc := "()V" } : Jvm.MethodName)) ∈ TB := TB_of 1317 (by decide +kernel) (by decide +kernel)
theorem tb_1318 : (Jvm.Cond.methodLink "LieClock$Book" (59 : Nat) ({ cls := "LieClock$State", name := "begin", desc := "(LLieClock$Told;)V" } : Jvm.MethodName)) ∈ TB := TB_of 1318 (by decide +kernel) (by decide +kernel)
theorem tb_1319 : (Jvm.Cond.methodLink "LieClock$Book" (63 : Nat) ({ cls := "LieClock$Nodes", name := "add", desc := "(LLieClock$State;IJI)V" } : Jvm.MethodName)) ∈ TB := TB_of 1319 (by decide +kernel) (by decide +kernel)
theorem tb_1320 : (Jvm.Cond.methodLink "LieClock$Book" (68 : Nat) ({ cls := "LieClock$Book", name := "expand", desc := "(LLieClock$Told;IIII)V" } : Jvm.MethodName)) ∈ TB := TB_of 1320 (by decide +kernel) (by decide +kernel)
theorem tb_1322 : (Jvm.Cond.instanceMethod ({ cls := "LieClock$Book", name := "expand", desc := "(LLieClock$Told;IIII)V" } : Jvm.MethodName)) ∈ TB := TB_of 1322 (by decide +kernel) (by decide +kernel)
theorem tb_1324 : (Jvm.Cond.constant "LieClock$Book" (74 : Nat) (65535 : Int32)) ∈ TB := TB_of 1324 (by decide +kernel) (by decide +kernel)
theorem tb_1325 : (Jvm.Cond.methodLink "LieClock$Book" (76 : Nat) ({ cls := "LieClock$Nodes", name := "load", desc := "(ILLieClock$State;)V" } : Jvm.MethodName)) ∈ TB := TB_of 1325 (by decide +kernel) (by decide +kernel)
theorem tb_1326 : (Jvm.Cond.methodLink "LieClock$Book" (80 : Nat) ({ cls := "LieClock$State", name := "utter", desc := "(LLieClock$Told;I)I" } : Jvm.MethodName)) ∈ TB := TB_of 1326 (by decide +kernel) (by decide +kernel)
theorem tb_1327 : (Jvm.Cond.methodLink "LieClock$Book" (87 : Nat) ({ cls := "java/lang/Integer", name := "bitCount", desc := "(I)I" } : Jvm.MethodName)) ∈ TB := TB_of 1327 (by decide +kernel) (by decide +kernel)
theorem tb_1328 : (Jvm.Cond.methodLink "LieClock$Book" (99 : Nat) ({ cls := "LieClock$Told", name := "liarsBy", desc := "(I)I" } : Jvm.MethodName)) ∈ TB := TB_of 1328 (by decide +kernel) (by decide +kernel)
theorem tb_1329 : (Jvm.Cond.instanceMethod ({ cls := "LieClock$Told", name := "liarsBy", desc := "(I)I" } : Jvm.MethodName)) ∈ TB := TB_of 1329 (by decide +kernel) (by decide +kernel)
theorem tb_1330 : (Jvm.Cond.selects "LieClock$Told" ({ cls := "LieClock$Told", name := "liarsBy", desc := "(I)I" } : Jvm.MethodName) ({ cls := "LieClock$Told", name := "liarsBy", desc := "(I)I" } : Jvm.MethodName)) ∈ TB := TB_of 1330 (by decide +kernel) (by decide +kernel)
theorem nw_96 : (Jvm.Cond.fieldLinkNest "LieClock$Ahead" (81 : Nat) "LieClock$Told" "words" "I" "LieClock") ∈ NWs := NW_of 96 (by decide +kernel) rfl
theorem nw_105 : (Jvm.Cond.fieldLinkNest "LieClock$Ahead" (98 : Nat) "LieClock$Told" "trueWords" "I" "LieClock") ∈ NWs := NW_of 105 (by decide +kernel) rfl
theorem nw_131 : (Jvm.Cond.fieldLinkNest "LieClock$Ahead" (61 : Nat) "LieClock$Told" "due" "[I" "LieClock") ∈ NWs := NW_of 131 (by decide +kernel) rfl
theorem nw_308 : (Jvm.Cond.fieldLinkNest "LieClock$Nodes" (41 : Nat) "LieClock$State" "clock" "I" "LieClock") ∈ NWs := NW_of 308 (by decide +kernel) rfl
theorem nw_310 : (Jvm.Cond.fieldLinkNest "LieClock$Book" (84 : Nat) "LieClock$State" "clock" "I" "LieClock") ∈ NWs := NW_of 310 (by decide +kernel) rfl
theorem nw_313 : (Jvm.Cond.fieldLinkNest "LieClock$Nodes" (47 : Nat) "LieClock$State" "said" "I" "LieClock") ∈ NWs := NW_of 313 (by decide +kernel) rfl
theorem nw_314 : (Jvm.Cond.fieldLinkNest "LieClock$Book" (93 : Nat) "LieClock$State" "said" "I" "LieClock") ∈ NWs := NW_of 314 (by decide +kernel) rfl
theorem nw_317 : (Jvm.Cond.fieldLinkNest "LieClock$Nodes" (50 : Nat) "LieClock$State" "caught" "I" "LieClock") ∈ NWs := NW_of 317 (by decide +kernel) rfl
theorem nw_318 : (Jvm.Cond.fieldLinkNest "LieClock$Book" (96 : Nat) "LieClock$State" "caught" "I" "LieClock") ∈ NWs := NW_of 318 (by decide +kernel) rfl
theorem nw_323 : (Jvm.Cond.fieldLinkNest "LieClock$Nodes" (53 : Nat) "LieClock$State" "heard" "I" "LieClock") ∈ NWs := NW_of 323 (by decide +kernel) rfl
theorem nw_327 : (Jvm.Cond.fieldLinkNest "LieClock$Ahead" (87 : Nat) "LieClock$State" "met" "I" "LieClock") ∈ NWs := NW_of 327 (by decide +kernel) rfl
theorem nw_389 : (Jvm.Cond.fieldLinkNest "LieClock$Ahead" (77 : Nat) "LieClock$Nodes" "words" "[I" "LieClock") ∈ NWs := NW_of 389 (by decide +kernel) rfl
theorem nw_392 : (Jvm.Cond.fieldLinkNest "LieClock$Ahead" (66 : Nat) "LieClock$Nodes" "clocks" "[I" "LieClock") ∈ NWs := NW_of 392 (by decide +kernel) rfl
theorem nw_395 : (Jvm.Cond.fieldLinkNest "LieClock$Ahead" (101 : Nat) "LieClock$Nodes" "from" "[I" "LieClock") ∈ NWs := NW_of 395 (by decide +kernel) rfl
theorem nw_397 : (Jvm.Cond.fieldLinkNest "LieClock$Book" (75 : Nat) "LieClock$Nodes" "rows" "[J" "LieClock") ∈ NWs := NW_of 397 (by decide +kernel) rfl
theorem nw_400 : (Jvm.Cond.fieldLinkNest "LieClock$Ahead" (58 : Nat) "LieClock$Nodes" "size" "I" "LieClock") ∈ NWs := NW_of 400 (by decide +kernel) rfl
theorem nw_401 : (Jvm.Cond.fieldLinkNest "LieClock$Book" (67 : Nat) "LieClock$Nodes" "size" "I" "LieClock") ∈ NWs := NW_of 401 (by decide +kernel) rfl
theorem nw_490 : (Jvm.Cond.fieldLinkNest "LieClock" (247 : Nat) "LieClock$Ahead" "path" "[I" "LieClock") ∈ NWs := NW_of 490 (by decide +kernel) rfl
theorem nw_492 : (Jvm.Cond.fieldLinkNest "LieClock" (243 : Nat) "LieClock$Ahead" "length" "I" "LieClock") ∈ NWs := NW_of 492 (by decide +kernel) rfl
theorem nw_494 : (Jvm.Cond.fieldLinkNest "LieClock" (244 : Nat) "LieClock$Ahead" "lies" "I" "LieClock") ∈ NWs := NW_of 494 (by decide +kernel) rfl
theorem nw_531 : (Jvm.Cond.fieldLinkNest "LieClock" (297 : Nat) "LieClock$Book" "rows" "[J" "LieClock") ∈ NWs := NW_of 531 (by decide +kernel) rfl
theorem nw_533 : (Jvm.Cond.fieldLinkNest "LieClock" (300 : Nat) "LieClock$Book" "sure" "[I" "LieClock") ∈ NWs := NW_of 533 (by decide +kernel) rfl
theorem nw_535 : (Jvm.Cond.fieldLinkNest "LieClock" (303 : Nat) "LieClock$Book" "liarsIn" "[I" "LieClock") ∈ NWs := NW_of 535 (by decide +kernel) rfl
