theorem mem_by (ws : List Cond) (ps : List Nat) (hp : ws = ps.filterMap (fun i => lw_tbl[i]?)) (hg : ws.all goodWord = true) : ∀ w ∈ ws, w ∈ TB := by
  intro w hw
  have h1 := List.all_eq_true.mp hg w hw
  rw [hp] at hw
  obtain ⟨i, -, hi⟩ := List.mem_filterMap.mp hw
  exact TB_of i hi h1
set_option maxRecDepth 20000 in
theorem iw_X0 : ∀ w ∈ u_ws RX0 TX0 8, w ∈ TB := mem_by _ [603, 605, 607, 609, 611, 613, 615, 617] (by decide +kernel) (by decide +kernel)
theorem nf_X0 : ∀ j, j < 8 → defaultValue (tyX0 j) = vp_V [.null, .null, .null, .int 0, .int 0, .int 0, .int 0, .int 0] j := by
  intro j hj
  match j, hj with
  | 0, _ => rfl
  | 1, _ => rfl
  | 2, _ => rfl
  | 3, _ => rfl
  | 4, _ => rfl
  | 5, _ => rfl
  | 6, _ => rfl
  | 7, _ => rfl
  | j + 8, h => exact absurd h (by omega)
set_option maxRecDepth 20000 in
theorem iw_X1 : ∀ w ∈ u_ws RX1 TX1 8, w ∈ TB := mem_by _ [640, 642, 644, 646, 648, 650, 652, 654] (by decide +kernel) (by decide +kernel)
theorem nf_X1 : ∀ j, j < 8 → defaultValue (tyX1 j) = vp_V [.null, .null, .null, .int 0, .null, .null, .null, .null] j := by
  intro j hj
  match j, hj with
  | 0, _ => rfl
  | 1, _ => rfl
  | 2, _ => rfl
  | 3, _ => rfl
  | 4, _ => rfl
  | 5, _ => rfl
  | 6, _ => rfl
  | 7, _ => rfl
  | j + 8, h => exact absurd h (by omega)
set_option maxRecDepth 20000 in
theorem iw_X2 : ∀ w ∈ u_ws RX2 TX2 5, w ∈ TB := mem_by _ [170, 172, 174, 176, 178] (by decide +kernel) (by decide +kernel)
theorem nf_X2 : ∀ j, j < 5 → defaultValue (tyX2 j) = vp_V [.null, .null, .int 0, .int 0, .int 0] j := by
  intro j hj
  match j, hj with
  | 0, _ => rfl
  | 1, _ => rfl
  | 2, _ => rfl
  | 3, _ => rfl
  | 4, _ => rfl
  | j + 5, h => exact absurd h (by omega)
set_option maxRecDepth 20000 in
theorem iw_X3 : ∀ w ∈ u_ws RX3 TX3 7, w ∈ TB := mem_by _ [506, 508, 510, 512, 514, 516, 518] (by decide +kernel) (by decide +kernel)
theorem nf_X3 : ∀ j, j < 7 → defaultValue (tyX3 j) = vp_V [.null, .null, .null, .null, .null, .null, .int 0] j := by
  intro j hj
  match j, hj with
  | 0, _ => rfl
  | 1, _ => rfl
  | 2, _ => rfl
  | 3, _ => rfl
  | 4, _ => rfl
  | 5, _ => rfl
  | 6, _ => rfl
  | j + 7, h => exact absurd h (by omega)
set_option maxRecDepth 20000 in
theorem iw_X4 : ∀ w ∈ u_ws RX4 TX4 8, w ∈ TB := mem_by _ [566, 568, 570, 572, 574, 576, 578, 580] (by decide +kernel) (by decide +kernel)
theorem nf_X4 : ∀ j, j < 8 → defaultValue (tyX4 j) = vp_V [.null, .null, .null, .int 0, .int 0, .int 0, .int 0, .int 0] j := by
  intro j hj
  match j, hj with
  | 0, _ => rfl
  | 1, _ => rfl
  | 2, _ => rfl
  | 3, _ => rfl
  | 4, _ => rfl
  | 5, _ => rfl
  | 6, _ => rfl
  | 7, _ => rfl
  | j + 8, h => exact absurd h (by omega)
set_option maxRecDepth 20000 in
theorem iw_X5 : ∀ w ∈ u_ws RX5 TX5 7, w ∈ TB := mem_by _ [378, 380, 382, 384, 386, 388, 390] (by decide +kernel) (by decide +kernel)
theorem nf_X5 : ∀ j, j < 7 → defaultValue (tyX5 j) = vp_V [.null, .null, .int 0, .int 0, .int 0, .int 0, .int 0] j := by
  intro j hj
  match j, hj with
  | 0, _ => rfl
  | 1, _ => rfl
  | 2, _ => rfl
  | 3, _ => rfl
  | 4, _ => rfl
  | 5, _ => rfl
  | 6, _ => rfl
  | j + 7, h => exact absurd h (by omega)
set_option maxRecDepth 20000 in
theorem iw_X6 : ∀ w ∈ u_ws RX6 TX6 6, w ∈ TB := mem_by _ [534, 536, 538, 540, 542, 544] (by decide +kernel) (by decide +kernel)
theorem nf_X6 : ∀ j, j < 6 → defaultValue (tyX6 j) = vp_V [.null, .null, .null, .int 0, .long 0, .long 0] j := by
  intro j hj
  match j, hj with
  | 0, _ => rfl
  | 1, _ => rfl
  | 2, _ => rfl
  | 3, _ => rfl
  | 4, _ => rfl
  | 5, _ => rfl
  | j + 6, h => exact absurd h (by omega)
set_option maxRecDepth 20000 in
theorem iw_X7 : ∀ w ∈ u_ws RX7 TX7 13, w ∈ TB := mem_by _ [444, 446, 448, 450, 452, 454, 456, 458, 460, 462, 464, 466, 468] (by decide +kernel) (by decide +kernel)
theorem nf_X7 : ∀ j, j < 13 → defaultValue (tyX7 j) = vp_V [.int 0, .int 0, .int 0, .int 0, .int 0, .long 0, .int 0, .int 0, .int 0, .int 0, .null, .null, .null] j := by
  intro j hj
  match j, hj with
  | 0, _ => rfl
  | 1, _ => rfl
  | 2, _ => rfl
  | 3, _ => rfl
  | 4, _ => rfl
  | 5, _ => rfl
  | 6, _ => rfl
  | 7, _ => rfl
  | 8, _ => rfl
  | 9, _ => rfl
  | 10, _ => rfl
  | 11, _ => rfl
  | 12, _ => rfl
  | j + 13, h => exact absurd h (by omega)
set_option maxRecDepth 20000 in
theorem iw_X8 : ∀ w ∈ u_ws RX8 TX8 2, w ∈ TB := mem_by _ [146, 148] (by decide +kernel) (by decide +kernel)
theorem nf_X8 : ∀ j, j < 2 → defaultValue (tyX8 j) = vp_V [.null, .int 0] j := by
  intro j hj
  match j, hj with
  | 0, _ => rfl
  | 1, _ => rfl
  | j + 2, h => exact absurd h (by omega)
set_option maxRecDepth 20000 in
theorem iw_X9 : ∀ w ∈ u_ws RX9 TX9 5, w ∈ TB := mem_by _ [360, 362, 364, 366, 368] (by decide +kernel) (by decide +kernel)
theorem nf_X9 : ∀ j, j < 5 → defaultValue (tyX9 j) = vp_V [.null, .null, .null, .null, .int 0] j := by
  intro j hj
  match j, hj with
  | 0, _ => rfl
  | 1, _ => rfl
  | 2, _ => rfl
  | 3, _ => rfl
  | 4, _ => rfl
  | j + 5, h => exact absurd h (by omega)
set_option maxRecDepth 20000 in
theorem iw_X10 : ∀ w ∈ u_ws RX10 TX10 20, w ∈ TB := mem_by _ [247, 249, 251, 253, 255, 257, 259, 261, 263, 265, 267, 269, 271, 273, 275, 277, 279, 281, 283, 285] (by decide +kernel) (by decide +kernel)
theorem nf_X10 : ∀ j, j < 20 → defaultValue (tyX10 j) = vp_V [.int 0, .int 0, .int 0, .int 0, .int 0, .int 0, .int 0, .int 0, .int 0, .long 0, .null, .null, .null, .null, .null, .null, .null, .null, .null, .null] j := by
  intro j hj
  match j, hj with
  | 0, _ => rfl
  | 1, _ => rfl
  | 2, _ => rfl
  | 3, _ => rfl
  | 4, _ => rfl
  | 5, _ => rfl
  | 6, _ => rfl
  | 7, _ => rfl
  | 8, _ => rfl
  | 9, _ => rfl
  | 10, _ => rfl
  | 11, _ => rfl
  | 12, _ => rfl
  | 13, _ => rfl
  | 14, _ => rfl
  | 15, _ => rfl
  | 16, _ => rfl
  | 17, _ => rfl
  | 18, _ => rfl
  | 19, _ => rfl
  | j + 20, h => exact absurd h (by omega)
set_option maxRecDepth 20000 in
theorem iw_X11 : ∀ w ∈ u_ws RX11 TX11 17, w ∈ TB := mem_by _ [674, 676, 678, 680, 682, 684, 686, 688, 690, 692, 694, 696, 698, 700, 702, 704, 706] (by decide +kernel) (by decide +kernel)
theorem nf_X11 : ∀ j, j < 17 → defaultValue (tyX11 j) = vp_V [.null, .int 0, .null, .null, .null, .null, .null, .null, .int 0, .int 0, .null, .null, .null, .null, .null, .null, .null] j := by
  intro j hj
  match j, hj with
  | 0, _ => rfl
  | 1, _ => rfl
  | 2, _ => rfl
  | 3, _ => rfl
  | 4, _ => rfl
  | 5, _ => rfl
  | 6, _ => rfl
  | 7, _ => rfl
  | 8, _ => rfl
  | 9, _ => rfl
  | 10, _ => rfl
  | 11, _ => rfl
  | 12, _ => rfl
  | 13, _ => rfl
  | 14, _ => rfl
  | 15, _ => rfl
  | 16, _ => rfl
  | j + 17, h => exact absurd h (by omega)
set_option maxRecDepth 20000 in
theorem iw_X12 : ∀ w ∈ u_ws RX12 TX12 69, w ∈ TB := mem_by _ [1443, 1445, 1447, 1449, 1451, 1453, 1455, 1457, 1459, 1461, 1463, 1465, 1467, 1469, 1471, 1473, 1475, 1477, 1479, 1481, 1483, 1485, 1487, 1489, 1491, 1493, 1495, 1497, 1499, 1501, 1503, 1505, 1507, 1509, 1511, 1513, 1515, 1517, 1519, 1521, 1523, 1525, 1527, 1529, 1531, 1533, 1535, 1537, 1539, 1541, 1543, 1545, 1547, 1549, 1551, 1553, 1555, 1557, 1559, 1561, 1563, 1565, 1567, 1569, 1571, 1573, 1575, 1577, 1579] (by decide +kernel) (by decide +kernel)
theorem nf_X12 : ∀ j, j < 69 → defaultValue (tyX12 j) = vp_V [.int 0, .null, .int 0, .null, .int 0, .null, .null, .null, .null, .null, .int 0, .int 0, .int 0, .int 0, .int 0, .int 0, .int 0, .int 0, .int 0, .int 0, .int 0, .null, .null, .null, .null, .null, .null, .null, .null, .null, .null, .null, .null, .null, .null, .null, .null, .null, .int 0, .null, .null, .null, .null, .null, .null, .int 0, .null, .null, .int 0, .null, .null, .int 0, .int 0, .int 0, .null, .int 0, .null, .int 0, .null, .null, .null, .int 0, .null, .long 0, .int 0, .int 0, .null, .null, .null] j := by
  intro j hj
  match j, hj with
  | 0, _ => rfl
  | 1, _ => rfl
  | 2, _ => rfl
  | 3, _ => rfl
  | 4, _ => rfl
  | 5, _ => rfl
  | 6, _ => rfl
  | 7, _ => rfl
  | 8, _ => rfl
  | 9, _ => rfl
  | 10, _ => rfl
  | 11, _ => rfl
  | 12, _ => rfl
  | 13, _ => rfl
  | 14, _ => rfl
  | 15, _ => rfl
  | 16, _ => rfl
  | 17, _ => rfl
  | 18, _ => rfl
  | 19, _ => rfl
  | 20, _ => rfl
  | 21, _ => rfl
  | 22, _ => rfl
  | 23, _ => rfl
  | 24, _ => rfl
  | 25, _ => rfl
  | 26, _ => rfl
  | 27, _ => rfl
  | 28, _ => rfl
  | 29, _ => rfl
  | 30, _ => rfl
  | 31, _ => rfl
  | 32, _ => rfl
  | 33, _ => rfl
  | 34, _ => rfl
  | 35, _ => rfl
  | 36, _ => rfl
  | 37, _ => rfl
  | 38, _ => rfl
  | 39, _ => rfl
  | 40, _ => rfl
  | 41, _ => rfl
  | 42, _ => rfl
  | 43, _ => rfl
  | 44, _ => rfl
  | 45, _ => rfl
  | 46, _ => rfl
  | 47, _ => rfl
  | 48, _ => rfl
  | 49, _ => rfl
  | 50, _ => rfl
  | 51, _ => rfl
  | 52, _ => rfl
  | 53, _ => rfl
  | 54, _ => rfl
  | 55, _ => rfl
  | 56, _ => rfl
  | 57, _ => rfl
  | 58, _ => rfl
  | 59, _ => rfl
  | 60, _ => rfl
  | 61, _ => rfl
  | 62, _ => rfl
  | 63, _ => rfl
  | 64, _ => rfl
  | 65, _ => rfl
  | 66, _ => rfl
  | 67, _ => rfl
  | 68, _ => rfl
  | j + 69, h => exact absurd h (by omega)
theorem tb_108 : (Jvm.Cond.initialized "LieClock$Law") ∈ TB := TB_of 108 (by decide +kernel) (by decide +kernel)
theorem tb_134 : (Jvm.Cond.instanceMethod ({ cls := "java/lang/Object", name := "<init>", desc := "()V" } : Jvm.MethodName)) ∈ TB := TB_of 134 (by decide +kernel) (by decide +kernel)
theorem tb_135 : (Jvm.Cond.code ({ cls := "java/lang/Object", name := "<init>", desc := "()V" } : Jvm.MethodName) object_method_1_code (1 : Nat) (Option.none : Option Jvm.ClassFile.FieldType)) ∈ TB := TB_of 135 (by decide +kernel) (by decide +kernel)
theorem tb_141 : (Jvm.Cond.methodLink "LieClock$Tape" (3 : Nat) ({ cls := "java/lang/Object", name := "<init>", desc := "()V" } : Jvm.MethodName)) ∈ TB := TB_of 141 (by decide +kernel) (by decide +kernel)
theorem tb_142 : (Jvm.Cond.fieldLink "LieClock$Tape" (9 : Nat) "LieClock$Tape" "bytes" "[B") ∈ TB := TB_of 142 (by decide +kernel) (by decide +kernel)
theorem tb_151 : (Jvm.Cond.arrayClass Jvm.ClassFile.FieldType.byte) ∈ TB := TB_of 151 (by decide +kernel) (by decide +kernel)
theorem tb_157 : (Jvm.Cond.methodLink "LieClock$Told" (3 : Nat) ({ cls := "java/lang/Object", name := "<init>", desc := "()V" } : Jvm.MethodName)) ∈ TB := TB_of 157 (by decide +kernel) (by decide +kernel)
theorem tb_158 : (Jvm.Cond.classLink "LieClock$Told" (37 : Nat) "LieClock$Law") ∈ TB := TB_of 158 (by decide +kernel) (by decide +kernel)
theorem tb_159 : (Jvm.Cond.instantiable "LieClock$Law" (5 : Nat)) ∈ TB := TB_of 159 (by decide +kernel) (by decide +kernel)
theorem tb_161 : (Jvm.Cond.instanceMethod ({ cls := "LieClock$Law", name := "<init>", desc := "()V" } : Jvm.MethodName)) ∈ TB := TB_of 161 (by decide +kernel) (by decide +kernel)
theorem tb_162 : (Jvm.Cond.code ({ cls := "LieClock$Law", name := "<init>", desc := "()V" } : Jvm.MethodName) prog_4_method_1_code (1 : Nat) (Option.none : Option Jvm.ClassFile.FieldType)) ∈ TB := TB_of 162 (by decide +kernel) (by decide +kernel)
theorem tb_163 : (Jvm.Cond.methodLink "LieClock$Law" (3 : Nat) ({ cls := "java/lang/Object", name := "<init>", desc := "()V" } : Jvm.MethodName)) ∈ TB := TB_of 163 (by decide +kernel) (by decide +kernel)
theorem tb_164 : (Jvm.Cond.fieldLink "LieClock$Law" (9 : Nat) "LieClock$Law" "code" "[I") ∈ TB := TB_of 164 (by decide +kernel) (by decide +kernel)
theorem tb_165 : (Jvm.Cond.fieldLink "LieClock$Law" (15 : Nat) "LieClock$Law" "stack" "[I") ∈ TB := TB_of 165 (by decide +kernel) (by decide +kernel)
theorem tb_181 : (Jvm.Cond.arrayClass Jvm.ClassFile.FieldType.long) ∈ TB := TB_of 181 (by decide +kernel) (by decide +kernel)
theorem tb_182 : (Jvm.Cond.arrayClass Jvm.ClassFile.FieldType.int) ∈ TB := TB_of 182 (by decide +kernel) (by decide +kernel)
theorem tb_222 : (Jvm.Cond.fieldLink "LieClock$Told" (9 : Nat) "LieClock$Told" "factNames" "[J") ∈ TB := TB_of 222 (by decide +kernel) (by decide +kernel)
theorem tb_223 : (Jvm.Cond.fieldLink "LieClock$Told" (15 : Nat) "LieClock$Told" "witnessNames" "[J") ∈ TB := TB_of 223 (by decide +kernel) (by decide +kernel)
theorem tb_224 : (Jvm.Cond.fieldLink "LieClock$Told" (18 : Nat) "LieClock$Told" "wordsOf" "[I") ∈ TB := TB_of 224 (by decide +kernel) (by decide +kernel)
theorem tb_227 : (Jvm.Cond.fieldLink "LieClock$Told" (22 : Nat) "LieClock$Told" "teller" "[I") ∈ TB := TB_of 227 (by decide +kernel) (by decide +kernel)
theorem tb_230 : (Jvm.Cond.fieldLink "LieClock$Told" (25 : Nat) "LieClock$Told" "holds" "[J") ∈ TB := TB_of 230 (by decide +kernel) (by decide +kernel)
theorem tb_233 : (Jvm.Cond.fieldLink "LieClock$Told" (28 : Nat) "LieClock$Told" "caseNames" "[J") ∈ TB := TB_of 233 (by decide +kernel) (by decide +kernel)
theorem tb_234 : (Jvm.Cond.fieldLink "LieClock$Told" (31 : Nat) "LieClock$Told" "due" "[I") ∈ TB := TB_of 234 (by decide +kernel) (by decide +kernel)
theorem tb_238 : (Jvm.Cond.fieldLink "LieClock$Told" (34 : Nat) "LieClock$Told" "guilt" "[J") ∈ TB := TB_of 238 (by decide +kernel) (by decide +kernel)
theorem tb_241 : (Jvm.Cond.fieldLink "LieClock$Told" (40 : Nat) "LieClock$Told" "back" "LLieClock$Law;") ∈ TB := TB_of 241 (by decide +kernel) (by decide +kernel)
theorem tb_244 : (Jvm.Cond.fieldLink "LieClock$Told" (44 : Nat) "LieClock$Told" "forth" "LLieClock$Law;") ∈ TB := TB_of 244 (by decide +kernel) (by decide +kernel)
theorem tb_410 : (Jvm.Cond.methodLink "LieClock$State" (3 : Nat) ({ cls := "java/lang/Object", name := "<init>", desc := "()V" } : Jvm.MethodName)) ∈ TB := TB_of 410 (by decide +kernel) (by decide +kernel)
theorem tb_437 : (Jvm.Cond.fieldLink "LieClock$State" (21 : Nat) "LieClock$State" "records" "Z") ∈ TB := TB_of 437 (by decide +kernel) (by decide +kernel)
theorem tb_438 : (Jvm.Cond.fieldLink "LieClock$State" (9 : Nat) "LieClock$State" "times" "[I") ∈ TB := TB_of 438 (by decide +kernel) (by decide +kernel)
theorem tb_440 : (Jvm.Cond.fieldLink "LieClock$State" (15 : Nat) "LieClock$State" "verdicts" "[I") ∈ TB := TB_of 440 (by decide +kernel) (by decide +kernel)
theorem tb_442 : (Jvm.Cond.fieldLink "LieClock$State" (18 : Nat) "LieClock$State" "shares" "[I") ∈ TB := TB_of 442 (by decide +kernel) (by decide +kernel)
theorem tb_491 : (Jvm.Cond.methodLink "LieClock$Nodes" (3 : Nat) ({ cls := "java/lang/Object", name := "<init>", desc := "()V" } : Jvm.MethodName)) ∈ TB := TB_of 491 (by decide +kernel) (by decide +kernel)
theorem tb_492 : (Jvm.Cond.fieldLink "LieClock$Nodes" (11 : Nat) "LieClock$Nodes" "words" "[I") ∈ TB := TB_of 492 (by decide +kernel) (by decide +kernel)
theorem tb_495 : (Jvm.Cond.fieldLink "LieClock$Nodes" (15 : Nat) "LieClock$Nodes" "clocks" "[I") ∈ TB := TB_of 495 (by decide +kernel) (by decide +kernel)
theorem tb_497 : (Jvm.Cond.fieldLink "LieClock$Nodes" (18 : Nat) "LieClock$Nodes" "heards" "[I") ∈ TB := TB_of 497 (by decide +kernel) (by decide +kernel)
theorem tb_498 : (Jvm.Cond.fieldLink "LieClock$Nodes" (21 : Nat) "LieClock$Nodes" "from" "[I") ∈ TB := TB_of 498 (by decide +kernel) (by decide +kernel)
theorem tb_500 : (Jvm.Cond.fieldLink "LieClock$Nodes" (24 : Nat) "LieClock$Nodes" "rows" "[J") ∈ TB := TB_of 500 (by decide +kernel) (by decide +kernel)
theorem tb_502 : (Jvm.Cond.fieldLink "LieClock$Nodes" (28 : Nat) "LieClock$Nodes" "table" "[I") ∈ TB := TB_of 502 (by decide +kernel) (by decide +kernel)
theorem tb_527 : (Jvm.Cond.methodLink "LieClock$Sets" (3 : Nat) ({ cls := "java/lang/Object", name := "<init>", desc := "()V" } : Jvm.MethodName)) ∈ TB := TB_of 527 (by decide +kernel) (by decide +kernel)
theorem tb_528 : (Jvm.Cond.fieldLink "LieClock$Sets" (9 : Nat) "LieClock$Sets" "leaves" "[J") ∈ TB := TB_of 528 (by decide +kernel) (by decide +kernel)
theorem tb_529 : (Jvm.Cond.fieldLink "LieClock$Sets" (15 : Nat) "LieClock$Sets" "numbers" "[I") ∈ TB := TB_of 529 (by decide +kernel) (by decide +kernel)
theorem tb_530 : (Jvm.Cond.fieldLink "LieClock$Sets" (19 : Nat) "LieClock$Sets" "below" "[J") ∈ TB := TB_of 530 (by decide +kernel) (by decide +kernel)
theorem nw_56 : (Jvm.Cond.methodLinkNest "LieClock$Told" (39 : Nat) ({ cls := "LieClock$Law", name := "<init>", desc := "()V" } : Jvm.MethodName) "LieClock") ∈ NWs := NW_of 56 (by decide +kernel) rfl
