theorem tb_33 : Cond.selects "LieClock$Nodes" ⟨"LieClock$Nodes", "slotOf", "(LLieClock$State;I)I"⟩ ⟨"LieClock$Nodes", "slotOf", "(LLieClock$State;I)I"⟩ ∈ TB := TB_of 33 (by decide +kernel) (by decide +kernel)
theorem tb_34 : Cond.selects "LieClock$Nodes" ⟨"LieClock$Nodes", "grow", "()V"⟩ ⟨"LieClock$Nodes", "grow", "()V"⟩ ∈ TB := TB_of 34 (by decide +kernel) (by decide +kernel)
theorem tb_117 : (Jvm.Cond.initialized "LieClock$Nodes") ∈ TB := TB_of 117 (by decide +kernel) (by decide +kernel)
theorem tb_492 : (Jvm.Cond.fieldLink "LieClock$Nodes" (11 : Nat) "LieClock$Nodes" "words" "[I") ∈ TB := TB_of 492 (by decide +kernel) (by decide +kernel)
theorem tb_495 : (Jvm.Cond.fieldLink "LieClock$Nodes" (15 : Nat) "LieClock$Nodes" "clocks" "[I") ∈ TB := TB_of 495 (by decide +kernel) (by decide +kernel)
theorem tb_497 : (Jvm.Cond.fieldLink "LieClock$Nodes" (18 : Nat) "LieClock$Nodes" "heards" "[I") ∈ TB := TB_of 497 (by decide +kernel) (by decide +kernel)
theorem tb_498 : (Jvm.Cond.fieldLink "LieClock$Nodes" (21 : Nat) "LieClock$Nodes" "from" "[I") ∈ TB := TB_of 498 (by decide +kernel) (by decide +kernel)
theorem tb_500 : (Jvm.Cond.fieldLink "LieClock$Nodes" (24 : Nat) "LieClock$Nodes" "rows" "[J") ∈ TB := TB_of 500 (by decide +kernel) (by decide +kernel)
theorem tb_593 : (Jvm.Cond.fieldLink "LieClock$Ahead" (20 : Nat) "LieClock$Ahead" "path" "[I") ∈ TB := TB_of 593 (by decide +kernel) (by decide +kernel)
theorem tb_1137 : (Jvm.Cond.methodLink "LieClock$Nodes" (35 : Nat) ({ cls := "java/util/Arrays", name := "fill", desc := "([II)V" } : Jvm.MethodName)) ∈ TB := TB_of 1137 (by decide +kernel) (by decide +kernel)
theorem tb_1143 : (Jvm.Cond.methodLink "LieClock$Nodes" (56 : Nat) ({ cls := "LieClock$Nodes", name := "slotOf", desc := "(LLieClock$State;I)I" } : Jvm.MethodName)) ∈ TB := TB_of 1143 (by decide +kernel) (by decide +kernel)
theorem tb_1145 : (Jvm.Cond.instanceMethod ({ cls := "LieClock$Nodes", name := "slotOf", desc := "(LLieClock$State;I)I" } : Jvm.MethodName)) ∈ TB := TB_of 1145 (by decide +kernel) (by decide +kernel)
theorem tb_1147 : (Jvm.Cond.methodLink "LieClock$Nodes" (63 : Nat) ({ cls := "LieClock$Nodes", name := "packed", desc := "(LLieClock$State;)I" } : Jvm.MethodName)) ∈ TB := TB_of 1147 (by decide +kernel) (by decide +kernel)
theorem tb_1148 : (Jvm.Cond.static ({ cls := "LieClock$Nodes", name := "packed", desc := "(LLieClock$State;)I" } : Jvm.MethodName)) ∈ TB := TB_of 1148 (by decide +kernel) (by decide +kernel)
theorem tb_1150 : (Jvm.Cond.methodLink "LieClock$Nodes" (70 : Nat) ({ cls := "LieClock$Nodes", name := "hash", desc := "(III)I" } : Jvm.MethodName)) ∈ TB := TB_of 1150 (by decide +kernel) (by decide +kernel)
theorem tb_1151 : (Jvm.Cond.static ({ cls := "LieClock$Nodes", name := "hash", desc := "(III)I" } : Jvm.MethodName)) ∈ TB := TB_of 1151 (by decide +kernel) (by decide +kernel)
theorem tb_1153 : (Jvm.Cond.constant "LieClock$Nodes" (67 : Nat) (-1640531535 : Int32)) ∈ TB := TB_of 1153 (by decide +kernel) (by decide +kernel)
theorem tb_1154 : (Jvm.Cond.constant "LieClock$Nodes" (68 : Nat) (-2048144789 : Int32)) ∈ TB := TB_of 1154 (by decide +kernel) (by decide +kernel)
theorem tb_1155 : (Jvm.Cond.constant "LieClock$Nodes" (69 : Nat) (-1028477387 : Int32)) ∈ TB := TB_of 1155 (by decide +kernel) (by decide +kernel)
theorem tb_1156 : (Jvm.Cond.methodLink "LieClock$Nodes" (60 : Nat) ({ cls := "LieClock$Nodes", name := "grow", desc := "()V" } : Jvm.MethodName)) ∈ TB := TB_of 1156 (by decide +kernel) (by decide +kernel)
theorem tb_1158 : (Jvm.Cond.instanceMethod ({ cls := "LieClock$Nodes", name := "grow", desc := "()V" } : Jvm.MethodName)) ∈ TB := TB_of 1158 (by decide +kernel) (by decide +kernel)
theorem tb_1160 : (Jvm.Cond.constant "LieClock$Nodes" (74 : Nat) (131072 : Int32)) ∈ TB := TB_of 1160 (by decide +kernel) (by decide +kernel)
theorem tb_1197 : (Jvm.Cond.constant "LieClock$Nodes" (46 : Nat) (65535 : Int32)) ∈ TB := TB_of 1197 (by decide +kernel) (by decide +kernel)
theorem nw_105 : (Jvm.Cond.fieldLinkNest "LieClock$Ahead" (98 : Nat) "LieClock$Told" "trueWords" "I" "LieClock") ∈ NWs := NW_of 105 (by decide +kernel) rfl
theorem nw_308 : (Jvm.Cond.fieldLinkNest "LieClock$Nodes" (41 : Nat) "LieClock$State" "clock" "I" "LieClock") ∈ NWs := NW_of 308 (by decide +kernel) rfl
theorem nw_313 : (Jvm.Cond.fieldLinkNest "LieClock$Nodes" (47 : Nat) "LieClock$State" "said" "I" "LieClock") ∈ NWs := NW_of 313 (by decide +kernel) rfl
theorem nw_317 : (Jvm.Cond.fieldLinkNest "LieClock$Nodes" (50 : Nat) "LieClock$State" "caught" "I" "LieClock") ∈ NWs := NW_of 317 (by decide +kernel) rfl
theorem nw_323 : (Jvm.Cond.fieldLinkNest "LieClock$Nodes" (53 : Nat) "LieClock$State" "heard" "I" "LieClock") ∈ NWs := NW_of 323 (by decide +kernel) rfl
theorem nw_395 : (Jvm.Cond.fieldLinkNest "LieClock$Ahead" (101 : Nat) "LieClock$Nodes" "from" "[I" "LieClock") ∈ NWs := NW_of 395 (by decide +kernel) rfl
theorem nw_400 : (Jvm.Cond.fieldLinkNest "LieClock$Ahead" (58 : Nat) "LieClock$Nodes" "size" "I" "LieClock") ∈ NWs := NW_of 400 (by decide +kernel) rfl
