theorem mem_by (ws : List Cond) (ps : List Nat) (hp : ws = ps.filterMap (fun i => lw_tbl[i]?)) (hg : ws.all goodWord = true) : ∀ w ∈ ws, w ∈ TB := by
  intro w hw
  have h1 := List.all_eq_true.mp hg w hw
  rw [hp] at hw
  obtain ⟨i, -, hi⟩ := List.mem_filterMap.mp hw
  exact TB_of i hi h1
set_option maxRecDepth 20000 in
theorem iw_X0 : ∀ w ∈ u_ws RX0 TX0 8, w ∈ TB := mem_by _ [603, 605, 607, 609, 611, 613, 615, 617] (by decide +kernel) (by decide +kernel)
theorem nf_X0 : ∀ j, j < 8 → defaultValue (tyX0 j) = vp_V [.null, .null, .null, .int 0, .int 0, .int 0, .int 0, .int 0] j := by
  intro j hj
  match j, hj with
  | 0, _ => rfl
  | 1, _ => rfl
  | 2, _ => rfl
  | 3, _ => rfl
  | 4, _ => rfl
  | 5, _ => rfl
  | 6, _ => rfl
  | 7, _ => rfl
  | j + 8, h => exact absurd h (by omega)
set_option maxRecDepth 20000 in
theorem iw_X1 : ∀ w ∈ u_ws RX1 TX1 8, w ∈ TB := mem_by _ [640, 642, 644, 646, 648, 650, 652, 654] (by decide +kernel) (by decide +kernel)
theorem nf_X1 : ∀ j, j < 8 → defaultValue (tyX1 j) = vp_V [.null, .null, .null, .int 0, .null, .null, .null, .null] j := by
  intro j hj
  match j, hj with
  | 0, _ => rfl
  | 1, _ => rfl
  | 2, _ => rfl
  | 3, _ => rfl
  | 4, _ => rfl
  | 5, _ => rfl
  | 6, _ => rfl
  | 7, _ => rfl
  | j + 8, h => exact absurd h (by omega)
set_option maxRecDepth 20000 in
theorem iw_X2 : ∀ w ∈ u_ws RX2 TX2 5, w ∈ TB := mem_by _ [170, 172, 174, 176, 178] (by decide +kernel) (by decide +kernel)
theorem nf_X2 : ∀ j, j < 5 → defaultValue (tyX2 j) = vp_V [.null, .null, .int 0, .int 0, .int 0] j := by
  intro j hj
  match j, hj with
  | 0, _ => rfl
  | 1, _ => rfl
  | 2, _ => rfl
  | 3, _ => rfl
  | 4, _ => rfl
  | j + 5, h => exact absurd h (by omega)
set_option maxRecDepth 20000 in
theorem iw_X3 : ∀ w ∈ u_ws RX3 TX3 7, w ∈ TB := mem_by _ [506, 508, 510, 512, 514, 516, 518] (by decide +kernel) (by decide +kernel)
theorem nf_X3 : ∀ j, j < 7 → defaultValue (tyX3 j) = vp_V [.null, .null, .null, .null, .null, .null, .int 0] j := by
  intro j hj
  match j, hj with
  | 0, _ => rfl
  | 1, _ => rfl
  | 2, _ => rfl
  | 3, _ => rfl
  | 4, _ => rfl
  | 5, _ => rfl
  | 6, _ => rfl
  | j + 7, h => exact absurd h (by omega)
set_option maxRecDepth 20000 in
theorem iw_X4 : ∀ w ∈ u_ws RX4 TX4 8, w ∈ TB := mem_by _ [566, 568, 570, 572, 574, 576, 578, 580] (by decide +kernel) (by decide +kernel)
theorem nf_X4 : ∀ j, j < 8 → defaultValue (tyX4 j) = vp_V [.null, .null, .null, .int 0, .int 0, .int 0, .int 0, .int 0] j := by
  intro j hj
  match j, hj with
  | 0, _ => rfl
  | 1, _ => rfl
  | 2, _ => rfl
  | 3, _ => rfl
  | 4, _ => rfl
  | 5, _ => rfl
  | 6, _ => rfl
  | 7, _ => rfl
  | j + 8, h => exact absurd h (by omega)
set_option maxRecDepth 20000 in
theorem iw_X5 : ∀ w ∈ u_ws RX5 TX5 7, w ∈ TB := mem_by _ [378, 380, 382, 384, 386, 388, 390] (by decide +kernel) (by decide +kernel)
theorem nf_X5 : ∀ j, j < 7 → defaultValue (tyX5 j) = vp_V [.null, .null, .int 0, .int 0, .int 0, .int 0, .int 0] j := by
  intro j hj
  match j, hj with
  | 0, _ => rfl
  | 1, _ => rfl
  | 2, _ => rfl
  | 3, _ => rfl
  | 4, _ => rfl
  | 5, _ => rfl
  | 6, _ => rfl
  | j + 7, h => exact absurd h (by omega)
set_option maxRecDepth 20000 in
theorem iw_X6 : ∀ w ∈ u_ws RX6 TX6 6, w ∈ TB := mem_by _ [534, 536, 538, 540, 542, 544] (by decide +kernel) (by decide +kernel)
theorem nf_X6 : ∀ j, j < 6 → defaultValue (tyX6 j) = vp_V [.null, .null, .null, .int 0, .long 0, .long 0] j := by
  intro j hj
  match j, hj with
  | 0, _ => rfl
  | 1, _ => rfl
  | 2, _ => rfl
  | 3, _ => rfl
  | 4, _ => rfl
  | 5, _ => rfl
  | j + 6, h => exact absurd h (by omega)
set_option maxRecDepth 20000 in
theorem iw_X7 : ∀ w ∈ u_ws RX7 TX7 13, w ∈ TB := mem_by _ [444, 446, 448, 450, 452, 454, 456, 458, 460, 462, 464, 466, 468] (by decide +kernel) (by decide +kernel)
theorem nf_X7 : ∀ j, j < 13 → defaultValue (tyX7 j) = vp_V [.int 0, .int 0, .int 0, .int 0, .int 0, .long 0, .int 0, .int 0, .int 0, .int 0, .null, .null, .null] j := by
  intro j hj
  match j, hj with
  | 0, _ => rfl
  | 1, _ => rfl
  | 2, _ => rfl
  | 3, _ => rfl
  | 4, _ => rfl
  | 5, _ => rfl
  | 6, _ => rfl
  | 7, _ => rfl
  | 8, _ => rfl
  | 9, _ => rfl
  | 10, _ => rfl
  | 11, _ => rfl
  | 12, _ => rfl
  | j + 13, h => exact absurd h (by omega)
set_option maxRecDepth 20000 in
theorem iw_X8 : ∀ w ∈ u_ws RX8 TX8 2, w ∈ TB := mem_by _ [146, 148] (by decide +kernel) (by decide +kernel)
theorem nf_X8 : ∀ j, j < 2 → defaultValue (tyX8 j) = vp_V [.null, .int 0] j := by
  intro j hj
  match j, hj with
  | 0, _ => rfl
  | 1, _ => rfl
  | j + 2, h => exact absurd h (by omega)
set_option maxRecDepth 20000 in
theorem iw_X9 : ∀ w ∈ u_ws RX9 TX9 5, w ∈ TB := mem_by _ [360, 362, 364, 366, 368] (by decide +kernel) (by decide +kernel)
theorem nf_X9 : ∀ j, j < 5 → defaultValue (tyX9 j) = vp_V [.null, .null, .null, .null, .int 0] j := by
  intro j hj
  match j, hj with
  | 0, _ => rfl
  | 1, _ => rfl
  | 2, _ => rfl
  | 3, _ => rfl
  | 4, _ => rfl
  | j + 5, h => exact absurd h (by omega)
set_option maxRecDepth 20000 in
theorem iw_X10 : ∀ w ∈ u_ws RX10 TX10 20, w ∈ TB := mem_by _ [247, 249, 251, 253, 255, 257, 259, 261, 263, 265, 267, 269, 271, 273, 275, 277, 279, 281, 283, 285] (by decide +kernel) (by decide +kernel)
theorem nf_X10 : ∀ j, j < 20 → defaultValue (tyX10 j) = vp_V [.int 0, .int 0, .int 0, .int 0, .int 0, .int 0, .int 0, .int 0, .int 0, .long 0, .null, .null, .null, .null, .null, .null, .null, .null, .null, .null] j := by
  intro j hj
  match j, hj with
  | 0, _ => rfl
  | 1, _ => rfl
  | 2, _ => rfl
  | 3, _ => rfl
  | 4, _ => rfl
  | 5, _ => rfl
  | 6, _ => rfl
  | 7, _ => rfl
  | 8, _ => rfl
  | 9, _ => rfl
  | 10, _ => rfl
  | 11, _ => rfl
  | 12, _ => rfl
  | 13, _ => rfl
  | 14, _ => rfl
  | 15, _ => rfl
  | 16, _ => rfl
  | 17, _ => rfl
  | 18, _ => rfl
  | 19, _ => rfl
  | j + 20, h => exact absurd h (by omega)
set_option maxRecDepth 20000 in
theorem iw_X11 : ∀ w ∈ u_ws RX11 TX11 17, w ∈ TB := mem_by _ [674, 676, 678, 680, 682, 684, 686, 688, 690, 692, 694, 696, 698, 700, 702, 704, 706] (by decide +kernel) (by decide +kernel)
theorem nf_X11 : ∀ j, j < 17 → defaultValue (tyX11 j) = vp_V [.null, .int 0, .null, .null, .null, .null, .null, .null, .int 0, .int 0, .null, .null, .null, .null, .null, .null, .null] j := by
  intro j hj
  match j, hj with
  | 0, _ => rfl
  | 1, _ => rfl
  | 2, _ => rfl
  | 3, _ => rfl
  | 4, _ => rfl
  | 5, _ => rfl
  | 6, _ => rfl
  | 7, _ => rfl
  | 8, _ => rfl
  | 9, _ => rfl
  | 10, _ => rfl
  | 11, _ => rfl
  | 12, _ => rfl
  | 13, _ => rfl
  | 14, _ => rfl
  | 15, _ => rfl
  | 16, _ => rfl
  | j + 17, h => exact absurd h (by omega)
set_option maxRecDepth 20000 in
theorem iw_X12 : ∀ w ∈ u_ws RX12 TX12 69, w ∈ TB := mem_by _ [1443, 1445, 1447, 1449, 1451, 1453, 1455, 1457, 1459, 1461, 1463, 1465, 1467, 1469, 1471, 1473, 1475, 1477, 1479, 1481, 1483, 1485, 1487, 1489, 1491, 1493, 1495, 1497, 1499, 1501, 1503, 1505, 1507, 1509, 1511, 1513, 1515, 1517, 1519, 1521, 1523, 1525, 1527, 1529, 1531, 1533, 1535, 1537, 1539, 1541, 1543, 1545, 1547, 1549, 1551, 1553, 1555, 1557, 1559, 1561, 1563, 1565, 1567, 1569, 1571, 1573, 1575, 1577, 1579] (by decide +kernel) (by decide +kernel)
theorem nf_X12 : ∀ j, j < 69 → defaultValue (tyX12 j) = vp_V (.int 0 :: .null :: .int 0 :: .null :: .int 0 :: .null :: .null :: .null :: .null :: .null :: .int 0 :: .int 0 :: .int 0 :: .int 0 :: .int 0 :: .int 0 :: .int 0 :: .int 0 :: .int 0 :: .int 0 :: .int 0 :: .null :: .null :: .null :: .null :: .null :: .null :: .null :: .null :: .null :: .null :: .null :: .null :: .null :: .null :: .null :: .null :: .null :: .int 0 :: [.null, .null, .null, .null, .null, .null, .int 0, .null, .null, .int 0, .null, .null, .int 0, .int 0, .int 0, .null, .int 0, .null, .int 0, .null, .null, .null, .int 0, .null, .long 0, .int 0, .int 0, .null, .null, .null]) j := by
  intro j hj
  match j, hj with
  | 0, _ => rfl
  | 1, _ => rfl
  | 2, _ => rfl
  | 3, _ => rfl
  | 4, _ => rfl
  | 5, _ => rfl
  | 6, _ => rfl
  | 7, _ => rfl
  | 8, _ => rfl
  | 9, _ => rfl
  | 10, _ => rfl
  | 11, _ => rfl
  | 12, _ => rfl
  | 13, _ => rfl
  | 14, _ => rfl
  | 15, _ => rfl
  | 16, _ => rfl
  | 17, _ => rfl
  | 18, _ => rfl
  | 19, _ => rfl
  | 20, _ => rfl
  | 21, _ => rfl
  | 22, _ => rfl
  | 23, _ => rfl
  | 24, _ => rfl
  | 25, _ => rfl
  | 26, _ => rfl
  | 27, _ => rfl
  | 28, _ => rfl
  | 29, _ => rfl
  | 30, _ => rfl
  | 31, _ => rfl
  | 32, _ => rfl
  | 33, _ => rfl
  | 34, _ => rfl
  | 35, _ => rfl
  | 36, _ => rfl
  | 37, _ => rfl
  | 38, _ => rfl
  | 39, _ => rfl
  | 40, _ => rfl
  | 41, _ => rfl
  | 42, _ => rfl
  | 43, _ => rfl
  | 44, _ => rfl
  | 45, _ => rfl
  | 46, _ => rfl
  | 47, _ => rfl
  | 48, _ => rfl
  | 49, _ => rfl
  | 50, _ => rfl
  | 51, _ => rfl
  | 52, _ => rfl
  | 53, _ => rfl
  | 54, _ => rfl
  | 55, _ => rfl
  | 56, _ => rfl
  | 57, _ => rfl
  | 58, _ => rfl
  | 59, _ => rfl
  | 60, _ => rfl
  | 61, _ => rfl
  | 62, _ => rfl
  | 63, _ => rfl
  | 64, _ => rfl
  | 65, _ => rfl
  | 66, _ => rfl
  | 67, _ => rfl
  | 68, _ => rfl
  | j + 69, h => exact absurd h (by omega)
theorem tb_106 : (Jvm.Cond.initialized "LieClock$Tape") ∈ TB := TB_of 106 (by decide +kernel) (by decide +kernel)
theorem tb_107 : (Jvm.Cond.initialized "LieClock$Told") ∈ TB := TB_of 107 (by decide +kernel) (by decide +kernel)
theorem tb_108 : (Jvm.Cond.initialized "LieClock$Law") ∈ TB := TB_of 108 (by decide +kernel) (by decide +kernel)
theorem tb_109 : (Jvm.Cond.initialized "LieClock$Parser") ∈ TB := TB_of 109 (by decide +kernel) (by decide +kernel)
theorem tb_110 : (Jvm.Cond.initialized "LieClock$Tokens") ∈ TB := TB_of 110 (by decide +kernel) (by decide +kernel)
theorem tb_111 : (Jvm.Cond.initialized "java/lang/String") ∈ TB := TB_of 111 (by decide +kernel) (by decide +kernel)
theorem tb_112 : (Jvm.Cond.initialized "java/lang/StringLatin1") ∈ TB := TB_of 112 (by decide +kernel) (by decide +kernel)
theorem tb_113 : (Jvm.Cond.initialized "jdk/internal/util/Preconditions") ∈ TB := TB_of 113 (by decide +kernel) (by decide +kernel)
theorem tb_115 : (Jvm.Cond.initialized "LieClock$State") ∈ TB := TB_of 115 (by decide +kernel) (by decide +kernel)
theorem tb_116 : (Jvm.Cond.initialized "java/util/Arrays") ∈ TB := TB_of 116 (by decide +kernel) (by decide +kernel)
theorem tb_117 : (Jvm.Cond.initialized "LieClock$Nodes") ∈ TB := TB_of 117 (by decide +kernel) (by decide +kernel)
theorem tb_118 : (Jvm.Cond.initialized "LieClock$Sets") ∈ TB := TB_of 118 (by decide +kernel) (by decide +kernel)
theorem tb_119 : (Jvm.Cond.initialized "LieClock$Orders") ∈ TB := TB_of 119 (by decide +kernel) (by decide +kernel)
theorem tb_120 : (Jvm.Cond.initialized "LieClock$Ahead") ∈ TB := TB_of 120 (by decide +kernel) (by decide +kernel)
theorem tb_121 : (Jvm.Cond.initialized "LieClock$Book") ∈ TB := TB_of 121 (by decide +kernel) (by decide +kernel)
theorem tb_122 : (Jvm.Cond.initialized "LieClockModel") ∈ TB := TB_of 122 (by decide +kernel) (by decide +kernel)
theorem tb_133 : (Jvm.Cond.methodLink "LieClock" (1 : Nat) ({ cls := "java/lang/Object", name := "<init>", desc := "()V" } : Jvm.MethodName)) ∈ TB := TB_of 133 (by decide +kernel) (by decide +kernel)
theorem tb_134 : (Jvm.Cond.instanceMethod ({ cls := "java/lang/Object", name := "<init>", desc := "()V" } : Jvm.MethodName)) ∈ TB := TB_of 134 (by decide +kernel) (by decide +kernel)
theorem tb_135 : (Jvm.Cond.code ({ cls := "java/lang/Object", name := "<init>", desc := "()V" } : Jvm.MethodName) object_method_1_code (1 : Nat) (Option.none : Option Jvm.ClassFile.FieldType)) ∈ TB := TB_of 135 (by decide +kernel) (by decide +kernel)
theorem tb_136 : (Jvm.Cond.classLink "LieClock" (13 : Nat) "LieClock$Tape") ∈ TB := TB_of 136 (by decide +kernel) (by decide +kernel)
theorem tb_137 : (Jvm.Cond.instantiable "LieClock$Tape" (2 : Nat)) ∈ TB := TB_of 137 (by decide +kernel) (by decide +kernel)
theorem tb_139 : (Jvm.Cond.instanceMethod ({ cls := "LieClock$Tape", name := "<init>", desc := "()V" } : Jvm.MethodName)) ∈ TB := TB_of 139 (by decide +kernel) (by decide +kernel)
theorem tb_140 : (Jvm.Cond.code ({ cls := "LieClock$Tape", name := "<init>", desc := "()V" } : Jvm.MethodName) prog_10_method_1_code (1 : Nat) (Option.none : Option Jvm.ClassFile.FieldType)) ∈ TB := TB_of 140 (by decide +kernel) (by decide +kernel)
theorem tb_141 : (Jvm.Cond.methodLink "LieClock$Tape" (3 : Nat) ({ cls := "java/lang/Object", name := "<init>", desc := "()V" } : Jvm.MethodName)) ∈ TB := TB_of 141 (by decide +kernel) (by decide +kernel)
theorem tb_142 : (Jvm.Cond.fieldLink "LieClock$Tape" (9 : Nat) "LieClock$Tape" "bytes" "[B") ∈ TB := TB_of 142 (by decide +kernel) (by decide +kernel)
theorem tb_151 : (Jvm.Cond.arrayClass Jvm.ClassFile.FieldType.byte) ∈ TB := TB_of 151 (by decide +kernel) (by decide +kernel)
theorem tb_152 : (Jvm.Cond.classLink "LieClock" (20 : Nat) "LieClock$Told") ∈ TB := TB_of 152 (by decide +kernel) (by decide +kernel)
theorem tb_153 : (Jvm.Cond.instantiable "LieClock$Told" (20 : Nat)) ∈ TB := TB_of 153 (by decide +kernel) (by decide +kernel)
theorem tb_155 : (Jvm.Cond.instanceMethod ({ cls := "LieClock$Told", name := "<init>", desc := "()V" } : Jvm.MethodName)) ∈ TB := TB_of 155 (by decide +kernel) (by decide +kernel)
theorem tb_156 : (Jvm.Cond.code ({ cls := "LieClock$Told", name := "<init>", desc := "()V" } : Jvm.MethodName) prog_12_method_1_code (1 : Nat) (Option.none : Option Jvm.ClassFile.FieldType)) ∈ TB := TB_of 156 (by decide +kernel) (by decide +kernel)
theorem tb_157 : (Jvm.Cond.methodLink "LieClock$Told" (3 : Nat) ({ cls := "java/lang/Object", name := "<init>", desc := "()V" } : Jvm.MethodName)) ∈ TB := TB_of 157 (by decide +kernel) (by decide +kernel)
theorem tb_158 : (Jvm.Cond.classLink "LieClock$Told" (37 : Nat) "LieClock$Law") ∈ TB := TB_of 158 (by decide +kernel) (by decide +kernel)
theorem tb_159 : (Jvm.Cond.instantiable "LieClock$Law" (5 : Nat)) ∈ TB := TB_of 159 (by decide +kernel) (by decide +kernel)
theorem tb_161 : (Jvm.Cond.instanceMethod ({ cls := "LieClock$Law", name := "<init>", desc := "()V" } : Jvm.MethodName)) ∈ TB := TB_of 161 (by decide +kernel) (by decide +kernel)
theorem tb_162 : (Jvm.Cond.code ({ cls := "LieClock$Law", name := "<init>", desc := "()V" } : Jvm.MethodName) prog_4_method_1_code (1 : Nat) (Option.none : Option Jvm.ClassFile.FieldType)) ∈ TB := TB_of 162 (by decide +kernel) (by decide +kernel)
theorem tb_163 : (Jvm.Cond.methodLink "LieClock$Law" (3 : Nat) ({ cls := "java/lang/Object", name := "<init>", desc := "()V" } : Jvm.MethodName)) ∈ TB := TB_of 163 (by decide +kernel) (by decide +kernel)
theorem tb_164 : (Jvm.Cond.fieldLink "LieClock$Law" (9 : Nat) "LieClock$Law" "code" "[I") ∈ TB := TB_of 164 (by decide +kernel) (by decide +kernel)
theorem tb_165 : (Jvm.Cond.fieldLink "LieClock$Law" (15 : Nat) "LieClock$Law" "stack" "[I") ∈ TB := TB_of 165 (by decide +kernel) (by decide +kernel)
theorem tb_166 : (Jvm.Cond.fieldLink "LieClock$Law" (18 : Nat) "LieClock$Law" "length" "I") ∈ TB := TB_of 166 (by decide +kernel) (by decide +kernel)
theorem tb_181 : (Jvm.Cond.arrayClass Jvm.ClassFile.FieldType.long) ∈ TB := TB_of 181 (by decide +kernel) (by decide +kernel)
theorem tb_182 : (Jvm.Cond.arrayClass Jvm.ClassFile.FieldType.int) ∈ TB := TB_of 182 (by decide +kernel) (by decide +kernel)
theorem tb_183 : (Jvm.Cond.fieldLink "LieClock$Told" (47 : Nat) "LieClock$Told" "facts" "I") ∈ TB := TB_of 183 (by decide +kernel) (by decide +kernel)
theorem tb_198 : (Jvm.Cond.fieldLink "LieClock$Told" (60 : Nat) "LieClock$Told" "words" "I") ∈ TB := TB_of 198 (by decide +kernel) (by decide +kernel)
theorem tb_220 : (Jvm.Cond.fieldLink "LieClock$Told" (80 : Nat) "LieClock$Told" "everything" "J") ∈ TB := TB_of 220 (by decide +kernel) (by decide +kernel)
theorem tb_222 : (Jvm.Cond.fieldLink "LieClock$Told" (9 : Nat) "LieClock$Told" "factNames" "[J") ∈ TB := TB_of 222 (by decide +kernel) (by decide +kernel)
theorem tb_223 : (Jvm.Cond.fieldLink "LieClock$Told" (15 : Nat) "LieClock$Told" "witnessNames" "[J") ∈ TB := TB_of 223 (by decide +kernel) (by decide +kernel)
theorem tb_224 : (Jvm.Cond.fieldLink "LieClock$Told" (18 : Nat) "LieClock$Told" "wordsOf" "[I") ∈ TB := TB_of 224 (by decide +kernel) (by decide +kernel)
theorem tb_227 : (Jvm.Cond.fieldLink "LieClock$Told" (22 : Nat) "LieClock$Told" "teller" "[I") ∈ TB := TB_of 227 (by decide +kernel) (by decide +kernel)
theorem tb_230 : (Jvm.Cond.fieldLink "LieClock$Told" (25 : Nat) "LieClock$Told" "holds" "[J") ∈ TB := TB_of 230 (by decide +kernel) (by decide +kernel)
theorem tb_233 : (Jvm.Cond.fieldLink "LieClock$Told" (28 : Nat) "LieClock$Told" "caseNames" "[J") ∈ TB := TB_of 233 (by decide +kernel) (by decide +kernel)
theorem tb_234 : (Jvm.Cond.fieldLink "LieClock$Told" (31 : Nat) "LieClock$Told" "due" "[I") ∈ TB := TB_of 234 (by decide +kernel) (by decide +kernel)
theorem tb_238 : (Jvm.Cond.fieldLink "LieClock$Told" (34 : Nat) "LieClock$Told" "guilt" "[J") ∈ TB := TB_of 238 (by decide +kernel) (by decide +kernel)
theorem tb_241 : (Jvm.Cond.fieldLink "LieClock$Told" (40 : Nat) "LieClock$Told" "back" "LLieClock$Law;") ∈ TB := TB_of 241 (by decide +kernel) (by decide +kernel)
theorem tb_244 : (Jvm.Cond.fieldLink "LieClock$Told" (44 : Nat) "LieClock$Told" "forth" "LLieClock$Law;") ∈ TB := TB_of 244 (by decide +kernel) (by decide +kernel)
theorem tb_288 : (Jvm.Cond.classLink "LieClock" (30 : Nat) "LieClock$Parser") ∈ TB := TB_of 288 (by decide +kernel) (by decide +kernel)
theorem tb_289 : (Jvm.Cond.instantiable "LieClock$Parser" (7 : Nat)) ∈ TB := TB_of 289 (by decide +kernel) (by decide +kernel)
theorem tb_290 : (Jvm.Cond.methodLink "LieClock" (32 : Nat) ({ cls := "LieClock$Parser", name := "<init>", desc := "(LLieClock$Told;)V" } : Jvm.MethodName)) ∈ TB := TB_of 290 (by decide +kernel) (by decide +kernel)
theorem tb_291 : (Jvm.Cond.instanceMethod ({ cls := "LieClock$Parser", name := "<init>", desc := "(LLieClock$Told;)V" } : Jvm.MethodName)) ∈ TB := TB_of 291 (by decide +kernel) (by decide +kernel)
theorem tb_292 : (Jvm.Cond.code ({ cls := "LieClock$Parser", name := "<init>", desc := "(LLieClock$Told;)V" } : Jvm.MethodName) prog_7_method_1_code (2 : Nat) (Option.none : Option Jvm.ClassFile.FieldType)) ∈ TB := TB_of 292 (by decide +kernel) (by decide +kernel)
theorem tb_293 : (Jvm.Cond.methodLink "LieClock$Parser" (3 : Nat) ({ cls := "java/lang/Object", name := "<init>", desc := "()V" } : Jvm.MethodName)) ∈ TB := TB_of 293 (by decide +kernel) (by decide +kernel)
theorem tb_294 : (Jvm.Cond.classLink "LieClock$Parser" (9 : Nat) "LieClock$Tokens") ∈ TB := TB_of 294 (by decide +kernel) (by decide +kernel)
theorem tb_295 : (Jvm.Cond.instantiable "LieClock$Tokens" (5 : Nat)) ∈ TB := TB_of 295 (by decide +kernel) (by decide +kernel)
theorem tb_296 : (Jvm.Cond.methodLink "LieClock$Parser" (11 : Nat) ({ cls := "LieClock$Tokens", name := "<init>", desc := "()V" } : Jvm.MethodName)) ∈ TB := TB_of 296 (by decide +kernel) (by decide +kernel)
theorem tb_297 : (Jvm.Cond.instanceMethod ({ cls := "LieClock$Tokens", name := "<init>", desc := "()V" } : Jvm.MethodName)) ∈ TB := TB_of 297 (by decide +kernel) (by decide +kernel)
theorem tb_298 : (Jvm.Cond.code ({ cls := "LieClock$Tokens", name := "<init>", desc := "()V" } : Jvm.MethodName) prog_11_method_1_code (6 : Nat) (Option.none : Option Jvm.ClassFile.FieldType)) ∈ TB := TB_of 298 (by decide +kernel) (by decide +kernel)
theorem tb_299 : (Jvm.Cond.methodLink "LieClock$Tokens" (3 : Nat) ({ cls := "java/lang/Object", name := "<init>", desc := "()V" } : Jvm.MethodName)) ∈ TB := TB_of 299 (by decide +kernel) (by decide +kernel)
theorem tb_301 : (Jvm.Cond.methodLink "LieClock$Tokens" (27 : Nat) ({ cls := "java/lang/String", name := "length", desc := "()I" } : Jvm.MethodName)) ∈ TB := TB_of 301 (by decide +kernel) (by decide +kernel)
theorem tb_302 : (Jvm.Cond.instanceMethod ({ cls := "java/lang/String", name := "length", desc := "()I" } : Jvm.MethodName)) ∈ TB := TB_of 302 (by decide +kernel) (by decide +kernel)
theorem tb_303 : (Jvm.Cond.selects "java/lang/String" ({ cls := "java/lang/String", name := "length", desc := "()I" } : Jvm.MethodName) ({ cls := "java/lang/String", name := "length", desc := "()I" } : Jvm.MethodName)) ∈ TB := TB_of 303 (by decide +kernel) (by decide +kernel)
theorem tb_304 : (Jvm.Cond.code ({ cls := "java/lang/String", name := "length", desc := "()I" } : Jvm.MethodName) prog_20_method_54_code (1 : Nat) (Option.some Jvm.ClassFile.FieldType.int)) ∈ TB := TB_of 304 (by decide +kernel) (by decide +kernel)
theorem tb_305 : (Jvm.Cond.methodLink "java/lang/String" (335 : Nat) ({ cls := "java/lang/String", name := "coder", desc := "()B" } : Jvm.MethodName)) ∈ TB := TB_of 305 (by decide +kernel) (by decide +kernel)
theorem tb_306 : (Jvm.Cond.instanceMethod ({ cls := "java/lang/String", name := "coder", desc := "()B" } : Jvm.MethodName)) ∈ TB := TB_of 306 (by decide +kernel) (by decide +kernel)
theorem tb_307 : (Jvm.Cond.selects "java/lang/String" ({ cls := "java/lang/String", name := "coder", desc := "()B" } : Jvm.MethodName) ({ cls := "java/lang/String", name := "coder", desc := "()B" } : Jvm.MethodName)) ∈ TB := TB_of 307 (by decide +kernel) (by decide +kernel)
theorem tb_308 : (Jvm.Cond.code ({ cls := "java/lang/String", name := "coder", desc := "()B" } : Jvm.MethodName) prog_20_method_152_code (1 : Nat) (Option.some Jvm.ClassFile.FieldType.byte)) ∈ TB := TB_of 308 (by decide +kernel) (by decide +kernel)
theorem tb_309 : (Jvm.Cond.fieldLink "java/lang/String" (38 : Nat) "java/lang/String" "COMPACT_STRINGS" "Z") ∈ TB := TB_of 309 (by decide +kernel) (by decide +kernel)
theorem tb_311 : (Jvm.Cond.methodLink "LieClock$Tokens" (33 : Nat) ({ cls := "java/lang/String", name := "charAt", desc := "(I)C" } : Jvm.MethodName)) ∈ TB := TB_of 311 (by decide +kernel) (by decide +kernel)
theorem tb_312 : (Jvm.Cond.instanceMethod ({ cls := "java/lang/String", name := "charAt", desc := "(I)C" } : Jvm.MethodName)) ∈ TB := TB_of 312 (by decide +kernel) (by decide +kernel)
theorem tb_313 : (Jvm.Cond.selects "java/lang/String" ({ cls := "java/lang/String", name := "charAt", desc := "(I)C" } : Jvm.MethodName) ({ cls := "java/lang/String", name := "charAt", desc := "(I)C" } : Jvm.MethodName)) ∈ TB := TB_of 313 (by decide +kernel) (by decide +kernel)
theorem tb_314 : (Jvm.Cond.code ({ cls := "java/lang/String", name := "charAt", desc := "(I)C" } : Jvm.MethodName) prog_20_method_56_code (2 : Nat) (Option.some Jvm.ClassFile.FieldType.char)) ∈ TB := TB_of 314 (by decide +kernel) (by decide +kernel)
theorem tb_315 : (Jvm.Cond.methodLink "java/lang/String" (492 : Nat) ({ cls := "java/lang/String", name := "isLatin1", desc := "()Z" } : Jvm.MethodName)) ∈ TB := TB_of 315 (by decide +kernel) (by decide +kernel)
theorem tb_316 : (Jvm.Cond.instanceMethod ({ cls := "java/lang/String", name := "isLatin1", desc := "()Z" } : Jvm.MethodName)) ∈ TB := TB_of 316 (by decide +kernel) (by decide +kernel)
theorem tb_317 : (Jvm.Cond.selects "java/lang/String" ({ cls := "java/lang/String", name := "isLatin1", desc := "()Z" } : Jvm.MethodName) ({ cls := "java/lang/String", name := "isLatin1", desc := "()Z" } : Jvm.MethodName)) ∈ TB := TB_of 317 (by decide +kernel) (by decide +kernel)
theorem tb_318 : (Jvm.Cond.code ({ cls := "java/lang/String", name := "isLatin1", desc := "()Z" } : Jvm.MethodName) prog_20_method_154_code (1 : Nat) (Option.some Jvm.ClassFile.FieldType.boolean)) ∈ TB := TB_of 318 (by decide +kernel) (by decide +kernel)
theorem tb_319 : (Jvm.Cond.methodLink "java/lang/String" (495 : Nat) ({ cls := "java/lang/StringLatin1", name := "charAt", desc := "([BI)C" } : Jvm.MethodName)) ∈ TB := TB_of 319 (by decide +kernel) (by decide +kernel)
theorem tb_320 : (Jvm.Cond.static ({ cls := "java/lang/StringLatin1", name := "charAt", desc := "([BI)C" } : Jvm.MethodName)) ∈ TB := TB_of 320 (by decide +kernel) (by decide +kernel)
theorem tb_321 : (Jvm.Cond.code ({ cls := "java/lang/StringLatin1", name := "charAt", desc := "([BI)C" } : Jvm.MethodName) prog_21_method_2_code (2 : Nat) (Option.some Jvm.ClassFile.FieldType.char)) ∈ TB := TB_of 321 (by decide +kernel) (by decide +kernel)
theorem tb_322 : (Jvm.Cond.methodLink "java/lang/StringLatin1" (9 : Nat) ({ cls := "java/lang/String", name := "checkIndex", desc := "(II)V" } : Jvm.MethodName)) ∈ TB := TB_of 322 (by decide +kernel) (by decide +kernel)
theorem tb_323 : (Jvm.Cond.static ({ cls := "java/lang/String", name := "checkIndex", desc := "(II)V" } : Jvm.MethodName)) ∈ TB := TB_of 323 (by decide +kernel) (by decide +kernel)
theorem tb_324 : (Jvm.Cond.code ({ cls := "java/lang/String", name := "checkIndex", desc := "(II)V" } : Jvm.MethodName) prog_20_method_155_code (2 : Nat) (Option.none : Option Jvm.ClassFile.FieldType)) ∈ TB := TB_of 324 (by decide +kernel) (by decide +kernel)
theorem tb_325 : (Jvm.Cond.fieldLink "java/lang/String" (1053 : Nat) "jdk/internal/util/Preconditions" "SIOOBE_FORMATTER" "Ljava/util/function/BiFunction;") ∈ TB := TB_of 325 (by decide +kernel) (by decide +kernel)
theorem tb_327 : (Jvm.Cond.methodLink "java/lang/String" (1059 : Nat) ({ cls := "jdk/internal/util/Preconditions", name := "checkIndex", desc := "(IILjava/util/function/BiFunction;)I" } : Jvm.MethodName)) ∈ TB := TB_of 327 (by decide +kernel) (by decide +kernel)
theorem tb_328 : (Jvm.Cond.static ({ cls := "jdk/internal/util/Preconditions", name := "checkIndex", desc := "(IILjava/util/function/BiFunction;)I" } : Jvm.MethodName)) ∈ TB := TB_of 328 (by decide +kernel) (by decide +kernel)
theorem tb_329 : (Jvm.Cond.code ({ cls := "jdk/internal/util/Preconditions", name := "checkIndex", desc := "(IILjava/util/function/BiFunction;)I" } : Jvm.MethodName) prog_25_method_11_code (3 : Nat) (Option.some Jvm.ClassFile.FieldType.int)) ∈ TB := TB_of 329 (by decide +kernel) (by decide +kernel)
theorem tb_349 : (Jvm.Cond.methodLink "LieClock$Tokens" (37 : Nat) ({ cls := "LieClock$Tokens", name := "withLetter", desc := "(JI)J" } : Jvm.MethodName)) ∈ TB := TB_of 349 (by decide +kernel) (by decide +kernel)
theorem tb_350 : (Jvm.Cond.static ({ cls := "LieClock$Tokens", name := "withLetter", desc := "(JI)J" } : Jvm.MethodName)) ∈ TB := TB_of 350 (by decide +kernel) (by decide +kernel)
theorem tb_351 : (Jvm.Cond.code ({ cls := "LieClock$Tokens", name := "withLetter", desc := "(JI)J" } : Jvm.MethodName) prog_11_method_10_code (3 : Nat) (Option.some Jvm.ClassFile.FieldType.long)) ∈ TB := TB_of 351 (by decide +kernel) (by decide +kernel)
theorem tb_352 : (Jvm.Cond.constantLong "LieClock$Tokens" (93 : Nat) (32 : Int64)) ∈ TB := TB_of 352 (by decide +kernel) (by decide +kernel)
theorem tb_353 : (Jvm.Cond.fieldLink "LieClock$Tokens" (9 : Nat) "LieClock$Tokens" "kinds" "[I") ∈ TB := TB_of 353 (by decide +kernel) (by decide +kernel)
theorem tb_355 : (Jvm.Cond.fieldLink "LieClock$Tokens" (15 : Nat) "LieClock$Tokens" "places" "[I") ∈ TB := TB_of 355 (by decide +kernel) (by decide +kernel)
theorem tb_356 : (Jvm.Cond.fieldLink "LieClock$Tokens" (18 : Nat) "LieClock$Tokens" "values" "[J") ∈ TB := TB_of 356 (by decide +kernel) (by decide +kernel)
theorem tb_358 : (Jvm.Cond.fieldLink "LieClock$Tokens" (22 : Nat) "LieClock$Tokens" "keys" "[J") ∈ TB := TB_of 358 (by decide +kernel) (by decide +kernel)
theorem tb_371 : (Jvm.Cond.fieldLink "LieClock$Parser" (12 : Nat) "LieClock$Parser" "tokens" "LLieClock$Tokens;") ∈ TB := TB_of 371 (by decide +kernel) (by decide +kernel)
theorem tb_372 : (Jvm.Cond.fieldLink "LieClock$Parser" (18 : Nat) "LieClock$Parser" "into" "LLieClock$Told;") ∈ TB := TB_of 372 (by decide +kernel) (by decide +kernel)
theorem tb_393 : (Jvm.Cond.methodLink "LieClock" (39 : Nat) ({ cls := "LieClock$Told", name := "finish", desc := "()V" } : Jvm.MethodName)) ∈ TB := TB_of 393 (by decide +kernel) (by decide +kernel)
theorem tb_394 : (Jvm.Cond.instanceMethod ({ cls := "LieClock$Told", name := "finish", desc := "()V" } : Jvm.MethodName)) ∈ TB := TB_of 394 (by decide +kernel) (by decide +kernel)
theorem tb_395 : (Jvm.Cond.selects "LieClock$Told" ({ cls := "LieClock$Told", name := "finish", desc := "()V" } : Jvm.MethodName) ({ cls := "LieClock$Told", name := "finish", desc := "()V" } : Jvm.MethodName)) ∈ TB := TB_of 395 (by decide +kernel) (by decide +kernel)
theorem tb_396 : (Jvm.Cond.code ({ cls := "LieClock$Told", name := "finish", desc := "()V" } : Jvm.MethodName) prog_12_method_3_code (2 : Nat) (Option.none : Option Jvm.ClassFile.FieldType)) ∈ TB := TB_of 396 (by decide +kernel) (by decide +kernel)
theorem tb_398 : (Jvm.Cond.methodLink "LieClock$Told" (84 : Nat) ({ cls := "LieClock$Told", name := "tellOnce", desc := "(LLieClock$Law;)V" } : Jvm.MethodName)) ∈ TB := TB_of 398 (by decide +kernel) (by decide +kernel)
theorem tb_399 : (Jvm.Cond.static ({ cls := "LieClock$Told", name := "tellOnce", desc := "(LLieClock$Law;)V" } : Jvm.MethodName)) ∈ TB := TB_of 399 (by decide +kernel) (by decide +kernel)
theorem tb_400 : (Jvm.Cond.code ({ cls := "LieClock$Told", name := "tellOnce", desc := "(LLieClock$Law;)V" } : Jvm.MethodName) prog_12_method_4_code (1 : Nat) (Option.none : Option Jvm.ClassFile.FieldType)) ∈ TB := TB_of 400 (by decide +kernel) (by decide +kernel)
theorem tb_401 : (Jvm.Cond.methodLink "LieClock$Told" (91 : Nat) ({ cls := "LieClock$Law", name := "add", desc := "(I)V" } : Jvm.MethodName)) ∈ TB := TB_of 401 (by decide +kernel) (by decide +kernel)
theorem tb_402 : (Jvm.Cond.instanceMethod ({ cls := "LieClock$Law", name := "add", desc := "(I)V" } : Jvm.MethodName)) ∈ TB := TB_of 402 (by decide +kernel) (by decide +kernel)
theorem tb_403 : (Jvm.Cond.selects "LieClock$Law" ({ cls := "LieClock$Law", name := "add", desc := "(I)V" } : Jvm.MethodName) ({ cls := "LieClock$Law", name := "add", desc := "(I)V" } : Jvm.MethodName)) ∈ TB := TB_of 403 (by decide +kernel) (by decide +kernel)
theorem tb_404 : (Jvm.Cond.code ({ cls := "LieClock$Law", name := "add", desc := "(I)V" } : Jvm.MethodName) prog_4_method_3_code (2 : Nat) (Option.none : Option Jvm.ClassFile.FieldType)) ∈ TB := TB_of 404 (by decide +kernel) (by decide +kernel)
theorem tb_405 : (Jvm.Cond.classLink "LieClock" (42 : Nat) "LieClock$State") ∈ TB := TB_of 405 (by decide +kernel) (by decide +kernel)
theorem tb_406 : (Jvm.Cond.instantiable "LieClock$State" (13 : Nat)) ∈ TB := TB_of 406 (by decide +kernel) (by decide +kernel)
theorem tb_407 : (Jvm.Cond.methodLink "LieClock" (44 : Nat) ({ cls := "LieClock$State", name := "<init>", desc := "(Z)V" } : Jvm.MethodName)) ∈ TB := TB_of 407 (by decide +kernel) (by decide +kernel)
theorem tb_408 : (Jvm.Cond.instanceMethod ({ cls := "LieClock$State", name := "<init>", desc := "(Z)V" } : Jvm.MethodName)) ∈ TB := TB_of 408 (by decide +kernel) (by decide +kernel)
theorem tb_409 : (Jvm.Cond.code ({ cls := "LieClock$State", name := "<init>", desc := "(Z)V" } : Jvm.MethodName) prog_9_method_1_code (2 : Nat) (Option.none : Option Jvm.ClassFile.FieldType)) ∈ TB := TB_of 409 (by decide +kernel) (by decide +kernel)
theorem tb_410 : (Jvm.Cond.methodLink "LieClock$State" (3 : Nat) ({ cls := "java/lang/Object", name := "<init>", desc := "()V" } : Jvm.MethodName)) ∈ TB := TB_of 410 (by decide +kernel) (by decide +kernel)
theorem tb_411 : (Jvm.Cond.fieldLink "LieClock$State" (31 : Nat) "LieClock$State" "clock" "I") ∈ TB := TB_of 411 (by decide +kernel) (by decide +kernel)
theorem tb_416 : (Jvm.Cond.fieldLink "LieClock$State" (34 : Nat) "LieClock$State" "said" "I") ∈ TB := TB_of 416 (by decide +kernel) (by decide +kernel)
theorem tb_420 : (Jvm.Cond.fieldLink "LieClock$State" (37 : Nat) "LieClock$State" "caught" "I") ∈ TB := TB_of 420 (by decide +kernel) (by decide +kernel)
theorem tb_424 : (Jvm.Cond.fieldLink "LieClock$State" (43 : Nat) "LieClock$State" "open" "I") ∈ TB := TB_of 424 (by decide +kernel) (by decide +kernel)
theorem tb_426 : (Jvm.Cond.fieldLink "LieClock$State" (46 : Nat) "LieClock$State" "heard" "I") ∈ TB := TB_of 426 (by decide +kernel) (by decide +kernel)
theorem tb_429 : (Jvm.Cond.fieldLink "LieClock$State" (53 : Nat) "LieClock$State" "may" "J") ∈ TB := TB_of 429 (by decide +kernel) (by decide +kernel)
theorem tb_437 : (Jvm.Cond.fieldLink "LieClock$State" (21 : Nat) "LieClock$State" "records" "Z") ∈ TB := TB_of 437 (by decide +kernel) (by decide +kernel)
theorem tb_438 : (Jvm.Cond.fieldLink "LieClock$State" (9 : Nat) "LieClock$State" "times" "[I") ∈ TB := TB_of 438 (by decide +kernel) (by decide +kernel)
theorem tb_440 : (Jvm.Cond.fieldLink "LieClock$State" (15 : Nat) "LieClock$State" "verdicts" "[I") ∈ TB := TB_of 440 (by decide +kernel) (by decide +kernel)
theorem tb_442 : (Jvm.Cond.fieldLink "LieClock$State" (18 : Nat) "LieClock$State" "shares" "[I") ∈ TB := TB_of 442 (by decide +kernel) (by decide +kernel)
theorem tb_471 : (Jvm.Cond.methodLink "LieClock" (51 : Nat) ({ cls := "LieClock$State", name := "begin", desc := "(LLieClock$Told;)V" } : Jvm.MethodName)) ∈ TB := TB_of 471 (by decide +kernel) (by decide +kernel)
theorem tb_472 : (Jvm.Cond.instanceMethod ({ cls := "LieClock$State", name := "begin", desc := "(LLieClock$Told;)V" } : Jvm.MethodName)) ∈ TB := TB_of 472 (by decide +kernel) (by decide +kernel)
theorem tb_473 : (Jvm.Cond.selects "LieClock$State" ({ cls := "LieClock$State", name := "begin", desc := "(LLieClock$Told;)V" } : Jvm.MethodName) ({ cls := "LieClock$State", name := "begin", desc := "(LLieClock$Told;)V" } : Jvm.MethodName)) ∈ TB := TB_of 473 (by decide +kernel) (by decide +kernel)
theorem tb_474 : (Jvm.Cond.code ({ cls := "LieClock$State", name := "begin", desc := "(LLieClock$Told;)V" } : Jvm.MethodName) prog_9_method_2_code (3 : Nat) (Option.none : Option Jvm.ClassFile.FieldType)) ∈ TB := TB_of 474 (by decide +kernel) (by decide +kernel)
theorem tb_481 : (Jvm.Cond.methodLink "LieClock$State" (63 : Nat) ({ cls := "java/util/Arrays", name := "fill", desc := "([II)V" } : Jvm.MethodName)) ∈ TB := TB_of 481 (by decide +kernel) (by decide +kernel)
theorem tb_482 : (Jvm.Cond.static ({ cls := "java/util/Arrays", name := "fill", desc := "([II)V" } : Jvm.MethodName)) ∈ TB := TB_of 482 (by decide +kernel) (by decide +kernel)
theorem tb_483 : (Jvm.Cond.code ({ cls := "java/util/Arrays", name := "fill", desc := "([II)V" } : Jvm.MethodName) prog_24_method_103_code (4 : Nat) (Option.none : Option Jvm.ClassFile.FieldType)) ∈ TB := TB_of 483 (by decide +kernel) (by decide +kernel)
theorem tb_486 : (Jvm.Cond.classLink "LieClock" (72 : Nat) "LieClock$Nodes") ∈ TB := TB_of 486 (by decide +kernel) (by decide +kernel)
theorem tb_487 : (Jvm.Cond.instantiable "LieClock$Nodes" (7 : Nat)) ∈ TB := TB_of 487 (by decide +kernel) (by decide +kernel)
theorem tb_489 : (Jvm.Cond.instanceMethod ({ cls := "LieClock$Nodes", name := "<init>", desc := "()V" } : Jvm.MethodName)) ∈ TB := TB_of 489 (by decide +kernel) (by decide +kernel)
theorem tb_490 : (Jvm.Cond.code ({ cls := "LieClock$Nodes", name := "<init>", desc := "()V" } : Jvm.MethodName) prog_5_method_1_code (1 : Nat) (Option.none : Option Jvm.ClassFile.FieldType)) ∈ TB := TB_of 490 (by decide +kernel) (by decide +kernel)
theorem tb_491 : (Jvm.Cond.methodLink "LieClock$Nodes" (3 : Nat) ({ cls := "java/lang/Object", name := "<init>", desc := "()V" } : Jvm.MethodName)) ∈ TB := TB_of 491 (by decide +kernel) (by decide +kernel)
theorem tb_492 : (Jvm.Cond.fieldLink "LieClock$Nodes" (11 : Nat) "LieClock$Nodes" "words" "[I") ∈ TB := TB_of 492 (by decide +kernel) (by decide +kernel)
theorem tb_495 : (Jvm.Cond.fieldLink "LieClock$Nodes" (15 : Nat) "LieClock$Nodes" "clocks" "[I") ∈ TB := TB_of 495 (by decide +kernel) (by decide +kernel)
theorem tb_497 : (Jvm.Cond.fieldLink "LieClock$Nodes" (18 : Nat) "LieClock$Nodes" "heards" "[I") ∈ TB := TB_of 497 (by decide +kernel) (by decide +kernel)
theorem tb_498 : (Jvm.Cond.fieldLink "LieClock$Nodes" (21 : Nat) "LieClock$Nodes" "from" "[I") ∈ TB := TB_of 498 (by decide +kernel) (by decide +kernel)
theorem tb_500 : (Jvm.Cond.fieldLink "LieClock$Nodes" (24 : Nat) "LieClock$Nodes" "rows" "[J") ∈ TB := TB_of 500 (by decide +kernel) (by decide +kernel)
theorem tb_502 : (Jvm.Cond.fieldLink "LieClock$Nodes" (28 : Nat) "LieClock$Nodes" "table" "[I") ∈ TB := TB_of 502 (by decide +kernel) (by decide +kernel)
theorem tb_521 : (Jvm.Cond.arrayClass Jvm.ClassFile.FieldType.boolean) ∈ TB := TB_of 521 (by decide +kernel) (by decide +kernel)
theorem tb_522 : (Jvm.Cond.classLink "LieClock" (75 : Nat) "LieClock$Sets") ∈ TB := TB_of 522 (by decide +kernel) (by decide +kernel)
theorem tb_523 : (Jvm.Cond.instantiable "LieClock$Sets" (6 : Nat)) ∈ TB := TB_of 523 (by decide +kernel) (by decide +kernel)
theorem tb_525 : (Jvm.Cond.instanceMethod ({ cls := "LieClock$Sets", name := "<init>", desc := "()V" } : Jvm.MethodName)) ∈ TB := TB_of 525 (by decide +kernel) (by decide +kernel)
theorem tb_526 : (Jvm.Cond.code ({ cls := "LieClock$Sets", name := "<init>", desc := "()V" } : Jvm.MethodName) prog_8_method_1_code (1 : Nat) (Option.none : Option Jvm.ClassFile.FieldType)) ∈ TB := TB_of 526 (by decide +kernel) (by decide +kernel)
theorem tb_527 : (Jvm.Cond.methodLink "LieClock$Sets" (3 : Nat) ({ cls := "java/lang/Object", name := "<init>", desc := "()V" } : Jvm.MethodName)) ∈ TB := TB_of 527 (by decide +kernel) (by decide +kernel)
theorem tb_528 : (Jvm.Cond.fieldLink "LieClock$Sets" (9 : Nat) "LieClock$Sets" "leaves" "[J") ∈ TB := TB_of 528 (by decide +kernel) (by decide +kernel)
theorem tb_529 : (Jvm.Cond.fieldLink "LieClock$Sets" (15 : Nat) "LieClock$Sets" "numbers" "[I") ∈ TB := TB_of 529 (by decide +kernel) (by decide +kernel)
theorem tb_530 : (Jvm.Cond.fieldLink "LieClock$Sets" (19 : Nat) "LieClock$Sets" "below" "[J") ∈ TB := TB_of 530 (by decide +kernel) (by decide +kernel)
theorem tb_547 : (Jvm.Cond.classLink "LieClock" (82 : Nat) "LieClock$Orders") ∈ TB := TB_of 547 (by decide +kernel) (by decide +kernel)
theorem tb_548 : (Jvm.Cond.instantiable "LieClock$Orders" (8 : Nat)) ∈ TB := TB_of 548 (by decide +kernel) (by decide +kernel)
theorem tb_549 : (Jvm.Cond.methodLink "LieClock" (84 : Nat) ({ cls := "LieClock$Orders", name := "<init>", desc := "()V" } : Jvm.MethodName)) ∈ TB := TB_of 549 (by decide +kernel) (by decide +kernel)
theorem tb_550 : (Jvm.Cond.instanceMethod ({ cls := "LieClock$Orders", name := "<init>", desc := "()V" } : Jvm.MethodName)) ∈ TB := TB_of 550 (by decide +kernel) (by decide +kernel)
theorem tb_551 : (Jvm.Cond.code ({ cls := "LieClock$Orders", name := "<init>", desc := "()V" } : Jvm.MethodName) prog_6_method_1_code (2 : Nat) (Option.none : Option Jvm.ClassFile.FieldType)) ∈ TB := TB_of 551 (by decide +kernel) (by decide +kernel)
theorem tb_552 : (Jvm.Cond.methodLink "LieClock$Orders" (3 : Nat) ({ cls := "java/lang/Object", name := "<init>", desc := "()V" } : Jvm.MethodName)) ∈ TB := TB_of 552 (by decide +kernel) (by decide +kernel)
theorem tb_553 : (Jvm.Cond.classLink "LieClock$Orders" (9 : Nat) "LieClock$State") ∈ TB := TB_of 553 (by decide +kernel) (by decide +kernel)
theorem tb_554 : (Jvm.Cond.methodLink "LieClock$Orders" (24 : Nat) ({ cls := "LieClock$State", name := "<init>", desc := "(Z)V" } : Jvm.MethodName)) ∈ TB := TB_of 554 (by decide +kernel) (by decide +kernel)
theorem tb_555 : (Jvm.Cond.fieldLink "LieClock$Orders" (11 : Nat) "LieClock$Orders" "frames" "[LLieClock$State;") ∈ TB := TB_of 555 (by decide +kernel) (by decide +kernel)
theorem tb_556 : (Jvm.Cond.fieldLink "LieClock$Orders" (17 : Nat) "LieClock$Orders" "path" "[I") ∈ TB := TB_of 556 (by decide +kernel) (by decide +kernel)
theorem tb_557 : (Jvm.Cond.fieldLink "LieClock$Orders" (21 : Nat) "LieClock$Orders" "best" "[I") ∈ TB := TB_of 557 (by decide +kernel) (by decide +kernel)
theorem tb_583 : (Jvm.Cond.classLink "LieClock" (89 : Nat) "LieClock$Ahead") ∈ TB := TB_of 583 (by decide +kernel) (by decide +kernel)
theorem tb_584 : (Jvm.Cond.instantiable "LieClock$Ahead" (8 : Nat)) ∈ TB := TB_of 584 (by decide +kernel) (by decide +kernel)
theorem tb_585 : (Jvm.Cond.methodLink "LieClock" (91 : Nat) ({ cls := "LieClock$Ahead", name := "<init>", desc := "(LLieClock$Nodes;)V" } : Jvm.MethodName)) ∈ TB := TB_of 585 (by decide +kernel) (by decide +kernel)
theorem tb_586 : (Jvm.Cond.instanceMethod ({ cls := "LieClock$Ahead", name := "<init>", desc := "(LLieClock$Nodes;)V" } : Jvm.MethodName)) ∈ TB := TB_of 586 (by decide +kernel) (by decide +kernel)
theorem tb_587 : (Jvm.Cond.code ({ cls := "LieClock$Ahead", name := "<init>", desc := "(LLieClock$Nodes;)V" } : Jvm.MethodName) prog_2_method_1_code (2 : Nat) (Option.none : Option Jvm.ClassFile.FieldType)) ∈ TB := TB_of 587 (by decide +kernel) (by decide +kernel)
theorem tb_588 : (Jvm.Cond.methodLink "LieClock$Ahead" (3 : Nat) ({ cls := "java/lang/Object", name := "<init>", desc := "()V" } : Jvm.MethodName)) ∈ TB := TB_of 588 (by decide +kernel) (by decide +kernel)
theorem tb_589 : (Jvm.Cond.classLink "LieClock$Ahead" (9 : Nat) "LieClock$State") ∈ TB := TB_of 589 (by decide +kernel) (by decide +kernel)
theorem tb_590 : (Jvm.Cond.methodLink "LieClock$Ahead" (11 : Nat) ({ cls := "LieClock$State", name := "<init>", desc := "(Z)V" } : Jvm.MethodName)) ∈ TB := TB_of 590 (by decide +kernel) (by decide +kernel)
theorem tb_591 : (Jvm.Cond.fieldLink "LieClock$Ahead" (24 : Nat) "LieClock$Ahead" "nodes" "LLieClock$Nodes;") ∈ TB := TB_of 591 (by decide +kernel) (by decide +kernel)
theorem tb_592 : (Jvm.Cond.fieldLink "LieClock$Ahead" (14 : Nat) "LieClock$Ahead" "probe" "LLieClock$State;") ∈ TB := TB_of 592 (by decide +kernel) (by decide +kernel)
theorem tb_593 : (Jvm.Cond.fieldLink "LieClock$Ahead" (20 : Nat) "LieClock$Ahead" "path" "[I") ∈ TB := TB_of 593 (by decide +kernel) (by decide +kernel)
theorem tb_620 : (Jvm.Cond.classLink "LieClock" (98 : Nat) "LieClock$Book") ∈ TB := TB_of 620 (by decide +kernel) (by decide +kernel)
theorem tb_621 : (Jvm.Cond.instantiable "LieClock$Book" (8 : Nat)) ∈ TB := TB_of 621 (by decide +kernel) (by decide +kernel)
theorem tb_622 : (Jvm.Cond.methodLink "LieClock" (100 : Nat) ({ cls := "LieClock$Book", name := "<init>", desc := "(LLieClock$Nodes;)V" } : Jvm.MethodName)) ∈ TB := TB_of 622 (by decide +kernel) (by decide +kernel)
theorem tb_623 : (Jvm.Cond.instanceMethod ({ cls := "LieClock$Book", name := "<init>", desc := "(LLieClock$Nodes;)V" } : Jvm.MethodName)) ∈ TB := TB_of 623 (by decide +kernel) (by decide +kernel)
theorem tb_624 : (Jvm.Cond.code ({ cls := "LieClock$Book", name := "<init>", desc := "(LLieClock$Nodes;)V" } : Jvm.MethodName) prog_3_method_1_code (2 : Nat) (Option.none : Option Jvm.ClassFile.FieldType)) ∈ TB := TB_of 624 (by decide +kernel) (by decide +kernel)
theorem tb_625 : (Jvm.Cond.methodLink "LieClock$Book" (3 : Nat) ({ cls := "java/lang/Object", name := "<init>", desc := "()V" } : Jvm.MethodName)) ∈ TB := TB_of 625 (by decide +kernel) (by decide +kernel)
theorem tb_626 : (Jvm.Cond.classLink "LieClock$Book" (9 : Nat) "LieClock$State") ∈ TB := TB_of 626 (by decide +kernel) (by decide +kernel)
theorem tb_627 : (Jvm.Cond.methodLink "LieClock$Book" (11 : Nat) ({ cls := "LieClock$State", name := "<init>", desc := "(Z)V" } : Jvm.MethodName)) ∈ TB := TB_of 627 (by decide +kernel) (by decide +kernel)
theorem tb_628 : (Jvm.Cond.fieldLink "LieClock$Book" (38 : Nat) "LieClock$Book" "nodes" "LLieClock$Nodes;") ∈ TB := TB_of 628 (by decide +kernel) (by decide +kernel)
theorem tb_629 : (Jvm.Cond.fieldLink "LieClock$Book" (14 : Nat) "LieClock$Book" "probe" "LLieClock$State;") ∈ TB := TB_of 629 (by decide +kernel) (by decide +kernel)
theorem tb_630 : (Jvm.Cond.fieldLink "LieClock$Book" (20 : Nat) "LieClock$Book" "readings" "[I") ∈ TB := TB_of 630 (by decide +kernel) (by decide +kernel)
theorem tb_633 : (Jvm.Cond.fieldLink "LieClock$Book" (24 : Nat) "LieClock$Book" "known" "[Z") ∈ TB := TB_of 633 (by decide +kernel) (by decide +kernel)
theorem tb_634 : (Jvm.Cond.fieldLink "LieClock$Book" (28 : Nat) "LieClock$Book" "rows" "[J") ∈ TB := TB_of 634 (by decide +kernel) (by decide +kernel)
theorem tb_636 : (Jvm.Cond.fieldLink "LieClock$Book" (32 : Nat) "LieClock$Book" "sure" "[I") ∈ TB := TB_of 636 (by decide +kernel) (by decide +kernel)
theorem tb_638 : (Jvm.Cond.fieldLink "LieClock$Book" (35 : Nat) "LieClock$Book" "liarsIn" "[I") ∈ TB := TB_of 638 (by decide +kernel) (by decide +kernel)
theorem tb_657 : (Jvm.Cond.fieldLink "LieClock" (16 : Nat) "LieClock" "tape" "LLieClock$Tape;") ∈ TB := TB_of 657 (by decide +kernel) (by decide +kernel)
theorem tb_658 : (Jvm.Cond.fieldLink "LieClock" (9 : Nat) "LieClock" "faultPlace" "I") ∈ TB := TB_of 658 (by decide +kernel) (by decide +kernel)
theorem tb_659 : (Jvm.Cond.fieldLink "LieClock" (35 : Nat) "LieClock" "parser" "LLieClock$Parser;") ∈ TB := TB_of 659 (by decide +kernel) (by decide +kernel)
theorem tb_660 : (Jvm.Cond.fieldLink "LieClock" (23 : Nat) "LieClock" "told" "LLieClock$Told;") ∈ TB := TB_of 660 (by decide +kernel) (by decide +kernel)
theorem tb_661 : (Jvm.Cond.fieldLink "LieClock" (27 : Nat) "LieClock" "spare" "LLieClock$Told;") ∈ TB := TB_of 661 (by decide +kernel) (by decide +kernel)
theorem tb_662 : (Jvm.Cond.fieldLink "LieClock" (47 : Nat) "LieClock" "now" "LLieClock$State;") ∈ TB := TB_of 662 (by decide +kernel) (by decide +kernel)
theorem tb_663 : (Jvm.Cond.fieldLink "LieClock" (54 : Nat) "LieClock" "probe" "LLieClock$State;") ∈ TB := TB_of 663 (by decide +kernel) (by decide +kernel)
theorem tb_664 : (Jvm.Cond.fieldLink "LieClock" (57 : Nat) "LieClock" "past" "[LLieClock$State;") ∈ TB := TB_of 664 (by decide +kernel) (by decide +kernel)
theorem tb_667 : (Jvm.Cond.fieldLink "LieClock" (61 : Nat) "LieClock" "slots" "[LLieClock$State;") ∈ TB := TB_of 667 (by decide +kernel) (by decide +kernel)
theorem tb_668 : (Jvm.Cond.fieldLink "LieClock" (64 : Nat) "LieClock" "slotTapes" "[LLieClock$Tape;") ∈ TB := TB_of 668 (by decide +kernel) (by decide +kernel)
theorem tb_669 : (Jvm.Cond.fieldLink "LieClock" (68 : Nat) "LieClock" "held" "[Z") ∈ TB := TB_of 669 (by decide +kernel) (by decide +kernel)
theorem tb_670 : (Jvm.Cond.fieldLink "LieClock" (78 : Nat) "LieClock" "sets" "LLieClock$Sets;") ∈ TB := TB_of 670 (by decide +kernel) (by decide +kernel)
theorem tb_671 : (Jvm.Cond.fieldLink "LieClock" (85 : Nat) "LieClock" "orders" "LLieClock$Orders;") ∈ TB := TB_of 671 (by decide +kernel) (by decide +kernel)
theorem tb_672 : (Jvm.Cond.fieldLink "LieClock" (94 : Nat) "LieClock" "aheads" "LLieClock$Ahead;") ∈ TB := TB_of 672 (by decide +kernel) (by decide +kernel)
theorem tb_673 : (Jvm.Cond.fieldLink "LieClock" (101 : Nat) "LieClock" "book" "LLieClock$Book;") ∈ TB := TB_of 673 (by decide +kernel) (by decide +kernel)
theorem tb_1366 : (Jvm.Cond.methodLink "LieClockModel" (7 : Nat) ({ cls := "java/lang/Object", name := "<init>", desc := "()V" } : Jvm.MethodName)) ∈ TB := TB_of 1366 (by decide +kernel) (by decide +kernel)
theorem tb_1367 : (Jvm.Cond.constant "LieClockModel" (134 : Nat) (65536 : Int32)) ∈ TB := TB_of 1367 (by decide +kernel) (by decide +kernel)
theorem tb_1368 : (Jvm.Cond.methodLink "LieClockModel" (150 : Nat) ({ cls := "LieClockModel", name := "word", desc := "(IIIIIII)J" } : Jvm.MethodName)) ∈ TB := TB_of 1368 (by decide +kernel) (by decide +kernel)
theorem tb_1369 : (Jvm.Cond.static ({ cls := "LieClockModel", name := "word", desc := "(IIIIIII)J" } : Jvm.MethodName)) ∈ TB := TB_of 1369 (by decide +kernel) (by decide +kernel)
theorem tb_1370 : (Jvm.Cond.code ({ cls := "LieClockModel", name := "word", desc := "(IIIIIII)J" } : Jvm.MethodName) prog_14_method_10_code (7 : Nat) (Option.some Jvm.ClassFile.FieldType.long)) ∈ TB := TB_of 1370 (by decide +kernel) (by decide +kernel)
theorem tb_1371 : (Jvm.Cond.methodLink "LieClockModel" (166 : Nat) ({ cls := "LieClockModel", name := "appends", desc := "(JI)J" } : Jvm.MethodName)) ∈ TB := TB_of 1371 (by decide +kernel) (by decide +kernel)
theorem tb_1372 : (Jvm.Cond.static ({ cls := "LieClockModel", name := "appends", desc := "(JI)J" } : Jvm.MethodName)) ∈ TB := TB_of 1372 (by decide +kernel) (by decide +kernel)
theorem tb_1373 : (Jvm.Cond.code ({ cls := "LieClockModel", name := "appends", desc := "(JI)J" } : Jvm.MethodName) prog_14_method_9_code (3 : Nat) (Option.some Jvm.ClassFile.FieldType.long)) ∈ TB := TB_of 1373 (by decide +kernel) (by decide +kernel)
theorem tb_1374 : (Jvm.Cond.constantLong "LieClockModel" (164 : Nat) (27 : Int64)) ∈ TB := TB_of 1374 (by decide +kernel) (by decide +kernel)
theorem tb_1375 : (Jvm.Cond.fieldLink "LieClockModel" (13 : Nat) "LieClockModel" "tape" "[B") ∈ TB := TB_of 1375 (by decide +kernel) (by decide +kernel)
theorem tb_1377 : (Jvm.Cond.fieldLink "LieClockModel" (17 : Nat) "LieClockModel" "text" "[B") ∈ TB := TB_of 1377 (by decide +kernel) (by decide +kernel)
theorem tb_1379 : (Jvm.Cond.fieldLink "LieClockModel" (20 : Nat) "LieClockModel" "tKind" "[I") ∈ TB := TB_of 1379 (by decide +kernel) (by decide +kernel)
theorem tb_1380 : (Jvm.Cond.fieldLink "LieClockModel" (24 : Nat) "LieClockModel" "tPlace" "[I") ∈ TB := TB_of 1380 (by decide +kernel) (by decide +kernel)
theorem tb_1381 : (Jvm.Cond.fieldLink "LieClockModel" (27 : Nat) "LieClockModel" "tValue" "[I") ∈ TB := TB_of 1381 (by decide +kernel) (by decide +kernel)
theorem tb_1382 : (Jvm.Cond.fieldLink "LieClockModel" (30 : Nat) "LieClockModel" "tName" "[J") ∈ TB := TB_of 1382 (by decide +kernel) (by decide +kernel)
theorem tb_1383 : (Jvm.Cond.fieldLink "LieClockModel" (34 : Nat) "LieClockModel" "keys" "[J") ∈ TB := TB_of 1383 (by decide +kernel) (by decide +kernel)
theorem tb_1391 : (Jvm.Cond.fieldLink "LieClockModel" (37 : Nat) "LieClockModel" "place" "I") ∈ TB := TB_of 1391 (by decide +kernel) (by decide +kernel)
theorem tb_1395 : (Jvm.Cond.fieldLink "LieClockModel" (40 : Nat) "LieClockModel" "nameOf" "[J") ∈ TB := TB_of 1395 (by decide +kernel) (by decide +kernel)
theorem tb_1396 : (Jvm.Cond.fieldLink "LieClockModel" (43 : Nat) "LieClockModel" "nameSort" "[I") ∈ TB := TB_of 1396 (by decide +kernel) (by decide +kernel)
theorem tb_1397 : (Jvm.Cond.fieldLink "LieClockModel" (46 : Nat) "LieClockModel" "nameAt" "[I") ∈ TB := TB_of 1397 (by decide +kernel) (by decide +kernel)
theorem tb_1398 : (Jvm.Cond.fieldLink "LieClockModel" (49 : Nat) "LieClockModel" "facts" "[I") ∈ TB := TB_of 1398 (by decide +kernel) (by decide +kernel)
theorem tb_1399 : (Jvm.Cond.fieldLink "LieClockModel" (52 : Nat) "LieClockModel" "truth" "[I") ∈ TB := TB_of 1399 (by decide +kernel) (by decide +kernel)
theorem tb_1400 : (Jvm.Cond.fieldLink "LieClockModel" (55 : Nat) "LieClockModel" "openTold" "[I") ∈ TB := TB_of 1400 (by decide +kernel) (by decide +kernel)
theorem tb_1401 : (Jvm.Cond.fieldLink "LieClockModel" (58 : Nat) "LieClockModel" "witnesses" "[I") ∈ TB := TB_of 1401 (by decide +kernel) (by decide +kernel)
theorem tb_1402 : (Jvm.Cond.fieldLink "LieClockModel" (61 : Nat) "LieClockModel" "words" "[I") ∈ TB := TB_of 1402 (by decide +kernel) (by decide +kernel)
theorem tb_1403 : (Jvm.Cond.fieldLink "LieClockModel" (64 : Nat) "LieClockModel" "wordOf" "[I") ∈ TB := TB_of 1403 (by decide +kernel) (by decide +kernel)
theorem tb_1404 : (Jvm.Cond.fieldLink "LieClockModel" (67 : Nat) "LieClockModel" "isSelf" "[Z") ∈ TB := TB_of 1404 (by decide +kernel) (by decide +kernel)
theorem tb_1405 : (Jvm.Cond.fieldLink "LieClockModel" (71 : Nat) "LieClockModel" "wordHolds" "[J") ∈ TB := TB_of 1405 (by decide +kernel) (by decide +kernel)
theorem tb_1406 : (Jvm.Cond.fieldLink "LieClockModel" (74 : Nat) "LieClockModel" "cases" "[I") ∈ TB := TB_of 1406 (by decide +kernel) (by decide +kernel)
theorem tb_1407 : (Jvm.Cond.fieldLink "LieClockModel" (77 : Nat) "LieClockModel" "due" "[I") ∈ TB := TB_of 1407 (by decide +kernel) (by decide +kernel)
theorem tb_1408 : (Jvm.Cond.fieldLink "LieClockModel" (80 : Nat) "LieClockModel" "guilty" "[J") ∈ TB := TB_of 1408 (by decide +kernel) (by decide +kernel)
theorem tb_1409 : (Jvm.Cond.fieldLink "LieClockModel" (83 : Nat) "LieClockModel" "lawFrom" "[I") ∈ TB := TB_of 1409 (by decide +kernel) (by decide +kernel)
theorem tb_1410 : (Jvm.Cond.fieldLink "LieClockModel" (86 : Nat) "LieClockModel" "lawTo" "[I") ∈ TB := TB_of 1410 (by decide +kernel) (by decide +kernel)
theorem tb_1411 : (Jvm.Cond.fieldLink "LieClockModel" (89 : Nat) "LieClockModel" "clockTold" "[I") ∈ TB := TB_of 1411 (by decide +kernel) (by decide +kernel)
theorem tb_1413 : (Jvm.Cond.fieldLink "LieClockModel" (92 : Nat) "LieClockModel" "code" "[I") ∈ TB := TB_of 1413 (by decide +kernel) (by decide +kernel)
theorem tb_1414 : (Jvm.Cond.fieldLink "LieClockModel" (95 : Nat) "LieClockModel" "codeInt" "[I") ∈ TB := TB_of 1414 (by decide +kernel) (by decide +kernel)
theorem tb_1415 : (Jvm.Cond.fieldLink "LieClockModel" (98 : Nat) "LieClockModel" "orBits" "[J") ∈ TB := TB_of 1415 (by decide +kernel) (by decide +kernel)
theorem tb_1416 : (Jvm.Cond.fieldLink "LieClockModel" (101 : Nat) "LieClockModel" "andBits" "[J") ∈ TB := TB_of 1416 (by decide +kernel) (by decide +kernel)
theorem tb_1417 : (Jvm.Cond.fieldLink "LieClockModel" (104 : Nat) "LieClockModel" "isNot" "[Z") ∈ TB := TB_of 1417 (by decide +kernel) (by decide +kernel)
theorem tb_1418 : (Jvm.Cond.fieldLink "LieClockModel" (107 : Nat) "LieClockModel" "waits" "[I") ∈ TB := TB_of 1418 (by decide +kernel) (by decide +kernel)
theorem tb_1420 : (Jvm.Cond.fieldLink "LieClockModel" (110 : Nat) "LieClockModel" "variables" "[I") ∈ TB := TB_of 1420 (by decide +kernel) (by decide +kernel)
theorem tb_1421 : (Jvm.Cond.fieldLink "LieClockModel" (113 : Nat) "LieClockModel" "pile" "[I") ∈ TB := TB_of 1421 (by decide +kernel) (by decide +kernel)
theorem tb_1423 : (Jvm.Cond.fieldLink "LieClockModel" (116 : Nat) "LieClockModel" "now" "[I") ∈ TB := TB_of 1423 (by decide +kernel) (by decide +kernel)
theorem tb_1424 : (Jvm.Cond.fieldLink "LieClockModel" (119 : Nat) "LieClockModel" "row" "[I") ∈ TB := TB_of 1424 (by decide +kernel) (by decide +kernel)
theorem tb_1428 : (Jvm.Cond.fieldLink "LieClockModel" (122 : Nat) "LieClockModel" "history" "[I") ∈ TB := TB_of 1428 (by decide +kernel) (by decide +kernel)
theorem tb_1430 : (Jvm.Cond.fieldLink "LieClockModel" (125 : Nat) "LieClockModel" "said" "[I") ∈ TB := TB_of 1430 (by decide +kernel) (by decide +kernel)
theorem tb_1432 : (Jvm.Cond.fieldLink "LieClockModel" (128 : Nat) "LieClockModel" "order" "[I") ∈ TB := TB_of 1432 (by decide +kernel) (by decide +kernel)
theorem tb_1433 : (Jvm.Cond.fieldLink "LieClockModel" (131 : Nat) "LieClockModel" "bestOrder" "[I") ∈ TB := TB_of 1433 (by decide +kernel) (by decide +kernel)
theorem tb_1434 : (Jvm.Cond.fieldLink "LieClockModel" (135 : Nat) "LieClockModel" "holdsAll" "[J") ∈ TB := TB_of 1434 (by decide +kernel) (by decide +kernel)
theorem tb_1436 : (Jvm.Cond.fieldLink "LieClockModel" (138 : Nat) "LieClockModel" "reading" "[I") ∈ TB := TB_of 1436 (by decide +kernel) (by decide +kernel)
theorem tb_1440 : (Jvm.Cond.fieldLink "LieClockModel" (141 : Nat) "LieClockModel" "stood" "[I") ∈ TB := TB_of 1440 (by decide +kernel) (by decide +kernel)
theorem tb_1441 : (Jvm.Cond.fieldLink "LieClockModel" (144 : Nat) "LieClockModel" "isHeld" "[Z") ∈ TB := TB_of 1441 (by decide +kernel) (by decide +kernel)
theorem tb_1442 : (Jvm.Cond.fieldLink "LieClockModel" (147 : Nat) "LieClockModel" "held" "[I") ∈ TB := TB_of 1442 (by decide +kernel) (by decide +kernel)
theorem tb_1962 : (Jvm.Cond.fieldLink "java/lang/String" (9 : Nat) "java/lang/String" "value" "[B") ∈ TB := TB_of 1962 (by decide +kernel) (by decide +kernel)
theorem tb_1963 : (Jvm.Cond.fieldLink "java/lang/String" (15 : Nat) "java/lang/String" "coder" "B") ∈ TB := TB_of 1963 (by decide +kernel) (by decide +kernel)
theorem nw_34 : (Jvm.Cond.methodLinkNest "LieClock" (15 : Nat) ({ cls := "LieClock$Tape", name := "<init>", desc := "()V" } : Jvm.MethodName) "LieClock") ∈ NWs := NW_of 34 (by decide +kernel) rfl
theorem nw_50 : (Jvm.Cond.methodLinkNest "LieClock" (22 : Nat) ({ cls := "LieClock$Told", name := "<init>", desc := "()V" } : Jvm.MethodName) "LieClock") ∈ NWs := NW_of 50 (by decide +kernel) rfl
theorem nw_56 : (Jvm.Cond.methodLinkNest "LieClock$Told" (39 : Nat) ({ cls := "LieClock$Law", name := "<init>", desc := "()V" } : Jvm.MethodName) "LieClock") ∈ NWs := NW_of 56 (by decide +kernel) rfl
theorem nw_63 : (Jvm.Cond.fieldLinkNest "LieClock$Told" (88 : Nat) "LieClock$Law" "length" "I" "LieClock") ∈ NWs := NW_of 63 (by decide +kernel) rfl
theorem nw_80 : (Jvm.Cond.fieldLinkNest "LieClock$State" (56 : Nat) "LieClock$Told" "facts" "I" "LieClock") ∈ NWs := NW_of 80 (by decide +kernel) rfl
theorem nw_87 : (Jvm.Cond.fieldLinkNest "LieClock$State" (40 : Nat) "LieClock$Told" "opens" "I" "LieClock") ∈ NWs := NW_of 87 (by decide +kernel) rfl
theorem nw_112 : (Jvm.Cond.fieldLinkNest "LieClock$State" (25 : Nat) "LieClock$Told" "begin" "I" "LieClock") ∈ NWs := NW_of 112 (by decide +kernel) rfl
theorem nw_115 : (Jvm.Cond.fieldLinkNest "LieClock$State" (49 : Nat) "LieClock$Told" "everything" "J" "LieClock") ∈ NWs := NW_of 115 (by decide +kernel) rfl
theorem nw_380 : (Jvm.Cond.arrayOver (Jvm.ClassFile.FieldType.object "LieClock$State")) ∈ NWs := NW_of 380 (by decide +kernel) rfl
theorem nw_381 : (Jvm.Cond.arrayOver (Jvm.ClassFile.FieldType.object "LieClock$Tape")) ∈ NWs := NW_of 381 (by decide +kernel) rfl
theorem nw_384 : (Jvm.Cond.methodLinkNest "LieClock" (74 : Nat) ({ cls := "LieClock$Nodes", name := "<init>", desc := "()V" } : Jvm.MethodName) "LieClock") ∈ NWs := NW_of 384 (by decide +kernel) rfl
theorem nw_420 : (Jvm.Cond.methodLinkNest "LieClock" (77 : Nat) ({ cls := "LieClock$Sets", name := "<init>", desc := "()V" } : Jvm.MethodName) "LieClock") ∈ NWs := NW_of 420 (by decide +kernel) rfl
