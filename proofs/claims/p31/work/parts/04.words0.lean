theorem mem_by (ws : List Cond) (ps : List Nat) (hp : ws = ps.filterMap (fun i => lw_tbl[i]?)) (hg : ws.all goodWord = true) : ∀ w ∈ ws, w ∈ TB := by
  intro w hw
  have h1 := List.all_eq_true.mp hg w hw
  rw [hp] at hw
  obtain ⟨i, -, hi⟩ := List.mem_filterMap.mp hw
  exact TB_of i hi h1
set_option maxRecDepth 20000 in
theorem iw_X0 : ∀ w ∈ u_ws RX0 TX0 8, w ∈ TB := mem_by _ [603, 605, 607, 609, 611, 613, 615, 617] (by decide +kernel) (by decide +kernel)
theorem nf_X0 : ∀ j, j < 8 → defaultValue (tyX0 j) = vp_V [.null, .null, .null, .int 0, .int 0, .int 0, .int 0, .int 0] j := by
  intro j hj
  match j, hj with
  | 0, _ => rfl
  | 1, _ => rfl
  | 2, _ => rfl
  | 3, _ => rfl
  | 4, _ => rfl
  | 5, _ => rfl
  | 6, _ => rfl
  | 7, _ => rfl
  | j + 8, h => exact absurd h (by omega)
set_option maxRecDepth 20000 in
theorem iw_X1 : ∀ w ∈ u_ws RX1 TX1 8, w ∈ TB := mem_by _ [640, 642, 644, 646, 648, 650, 652, 654] (by decide +kernel) (by decide +kernel)
theorem nf_X1 : ∀ j, j < 8 → defaultValue (tyX1 j) = vp_V [.null, .null, .null, .int 0, .null, .null, .null, .null] j := by
  intro j hj
  match j, hj with
  | 0, _ => rfl
  | 1, _ => rfl
  | 2, _ => rfl
  | 3, _ => rfl
  | 4, _ => rfl
  | 5, _ => rfl
  | 6, _ => rfl
  | 7, _ => rfl
  | j + 8, h => exact absurd h (by omega)
set_option maxRecDepth 20000 in
theorem iw_X2 : ∀ w ∈ u_ws RX2 TX2 5, w ∈ TB := mem_by _ [170, 172, 174, 176, 178] (by decide +kernel) (by decide +kernel)
theorem nf_X2 : ∀ j, j < 5 → defaultValue (tyX2 j) = vp_V [.null, .null, .int 0, .int 0, .int 0] j := by
  intro j hj
  match j, hj with
  | 0, _ => rfl
  | 1, _ => rfl
  | 2, _ => rfl
  | 3, _ => rfl
  | 4, _ => rfl
  | j + 5, h => exact absurd h (by omega)
set_option maxRecDepth 20000 in
theorem iw_X3 : ∀ w ∈ u_ws RX3 TX3 7, w ∈ TB := mem_by _ [506, 508, 510, 512, 514, 516, 518] (by decide +kernel) (by decide +kernel)
theorem nf_X3 : ∀ j, j < 7 → defaultValue (tyX3 j) = vp_V [.null, .null, .null, .null, .null, .null, .int 0] j := by
  intro j hj
  match j, hj with
  | 0, _ => rfl
  | 1, _ => rfl
  | 2, _ => rfl
  | 3, _ => rfl
  | 4, _ => rfl
  | 5, _ => rfl
  | 6, _ => rfl
  | j + 7, h => exact absurd h (by omega)
set_option maxRecDepth 20000 in
theorem iw_X4 : ∀ w ∈ u_ws RX4 TX4 8, w ∈ TB := mem_by _ [566, 568, 570, 572, 574, 576, 578, 580] (by decide +kernel) (by decide +kernel)
theorem nf_X4 : ∀ j, j < 8 → defaultValue (tyX4 j) = vp_V [.null, .null, .null, .int 0, .int 0, .int 0, .int 0, .int 0] j := by
  intro j hj
  match j, hj with
  | 0, _ => rfl
  | 1, _ => rfl
  | 2, _ => rfl
  | 3, _ => rfl
  | 4, _ => rfl
  | 5, _ => rfl
  | 6, _ => rfl
  | 7, _ => rfl
  | j + 8, h => exact absurd h (by omega)
set_option maxRecDepth 20000 in
theorem iw_X5 : ∀ w ∈ u_ws RX5 TX5 7, w ∈ TB := mem_by _ [378, 380, 382, 384, 386, 388, 390] (by decide +kernel) (by decide +kernel)
theorem nf_X5 : ∀ j, j < 7 → defaultValue (tyX5 j) = vp_V [.null, .null, .int 0, .int 0, .int 0, .int 0, .int 0] j := by
  intro j hj
  match j, hj with
  | 0, _ => rfl
  | 1, _ => rfl
  | 2, _ => rfl
  | 3, _ => rfl
  | 4, _ => rfl
  | 5, _ => rfl
  | 6, _ => rfl
  | j + 7, h => exact absurd h (by omega)
set_option maxRecDepth 20000 in
theorem iw_X6 : ∀ w ∈ u_ws RX6 TX6 6, w ∈ TB := mem_by _ [534, 536, 538, 540, 542, 544] (by decide +kernel) (by decide +kernel)
theorem nf_X6 : ∀ j, j < 6 → defaultValue (tyX6 j) = vp_V [.null, .null, .null, .int 0, .long 0, .long 0] j := by
  intro j hj
  match j, hj with
  | 0, _ => rfl
  | 1, _ => rfl
  | 2, _ => rfl
  | 3, _ => rfl
  | 4, _ => rfl
  | 5, _ => rfl
  | j + 6, h => exact absurd h (by omega)
set_option maxRecDepth 20000 in
theorem iw_X7 : ∀ w ∈ u_ws RX7 TX7 13, w ∈ TB := mem_by _ [444, 446, 448, 450, 452, 454, 456, 458, 460, 462, 464, 466, 468] (by decide +kernel) (by decide +kernel)
theorem nf_X7 : ∀ j, j < 13 → defaultValue (tyX7 j) = vp_V [.int 0, .int 0, .int 0, .int 0, .int 0, .long 0, .int 0, .int 0, .int 0, .int 0, .null, .null, .null] j := by
  intro j hj
  match j, hj with
  | 0, _ => rfl
  | 1, _ => rfl
  | 2, _ => rfl
  | 3, _ => rfl
  | 4, _ => rfl
  | 5, _ => rfl
  | 6, _ => rfl
  | 7, _ => rfl
  | 8, _ => rfl
  | 9, _ => rfl
  | 10, _ => rfl
  | 11, _ => rfl
  | 12, _ => rfl
  | j + 13, h => exact absurd h (by omega)
set_option maxRecDepth 20000 in
theorem iw_X8 : ∀ w ∈ u_ws RX8 TX8 2, w ∈ TB := mem_by _ [146, 148] (by decide +kernel) (by decide +kernel)
theorem nf_X8 : ∀ j, j < 2 → defaultValue (tyX8 j) = vp_V [.null, .int 0] j := by
  intro j hj
  match j, hj with
  | 0, _ => rfl
  | 1, _ => rfl
  | j + 2, h => exact absurd h (by omega)
set_option maxRecDepth 20000 in
theorem iw_X9 : ∀ w ∈ u_ws RX9 TX9 5, w ∈ TB := mem_by _ [360, 362, 364, 366, 368] (by decide +kernel) (by decide +kernel)
theorem nf_X9 : ∀ j, j < 5 → defaultValue (tyX9 j) = vp_V [.null, .null, .null, .null, .int 0] j := by
  intro j hj
  match j, hj with
  | 0, _ => rfl
  | 1, _ => rfl
  | 2, _ => rfl
  | 3, _ => rfl
  | 4, _ => rfl
  | j + 5, h => exact absurd h (by omega)
set_option maxRecDepth 20000 in
theorem iw_X10 : ∀ w ∈ u_ws RX10 TX10 20, w ∈ TB := mem_by _ [247, 249, 251, 253, 255, 257, 259, 261, 263, 265, 267, 269, 271, 273, 275, 277, 279, 281, 283, 285] (by decide +kernel) (by decide +kernel)
theorem nf_X10 : ∀ j, j < 20 → defaultValue (tyX10 j) = vp_V [.int 0, .int 0, .int 0, .int 0, .int 0, .int 0, .int 0, .int 0, .int 0, .long 0, .null, .null, .null, .null, .null, .null, .null, .null, .null, .null] j := by
  intro j hj
  match j, hj with
  | 0, _ => rfl
  | 1, _ => rfl
  | 2, _ => rfl
  | 3, _ => rfl
  | 4, _ => rfl
  | 5, _ => rfl
  | 6, _ => rfl
  | 7, _ => rfl
  | 8, _ => rfl
  | 9, _ => rfl
  | 10, _ => rfl
  | 11, _ => rfl
  | 12, _ => rfl
  | 13, _ => rfl
  | 14, _ => rfl
  | 15, _ => rfl
  | 16, _ => rfl
  | 17, _ => rfl
  | 18, _ => rfl
  | 19, _ => rfl
  | j + 20, h => exact absurd h (by omega)
set_option maxRecDepth 20000 in
theorem iw_X11 : ∀ w ∈ u_ws RX11 TX11 17, w ∈ TB := mem_by _ [674, 676, 678, 680, 682, 684, 686, 688, 690, 692, 694, 696, 698, 700, 702, 704, 706] (by decide +kernel) (by decide +kernel)
theorem nf_X11 : ∀ j, j < 17 → defaultValue (tyX11 j) = vp_V [.null, .int 0, .null, .null, .null, .null, .null, .null, .int 0, .int 0, .null, .null, .null, .null, .null, .null, .null] j := by
  intro j hj
  match j, hj with
  | 0, _ => rfl
  | 1, _ => rfl
  | 2, _ => rfl
  | 3, _ => rfl
  | 4, _ => rfl
  | 5, _ => rfl
  | 6, _ => rfl
  | 7, _ => rfl
  | 8, _ => rfl
  | 9, _ => rfl
  | 10, _ => rfl
  | 11, _ => rfl
  | 12, _ => rfl
  | 13, _ => rfl
  | 14, _ => rfl
  | 15, _ => rfl
  | 16, _ => rfl
  | j + 17, h => exact absurd h (by omega)
set_option maxRecDepth 20000 in
theorem iw_X12 : ∀ w ∈ u_ws RX12 TX12 69, w ∈ TB := mem_by _ [1443, 1445, 1447, 1449, 1451, 1453, 1455, 1457, 1459, 1461, 1463, 1465, 1467, 1469, 1471, 1473, 1475, 1477, 1479, 1481, 1483, 1485, 1487, 1489, 1491, 1493, 1495, 1497, 1499, 1501, 1503, 1505, 1507, 1509, 1511, 1513, 1515, 1517, 1519, 1521, 1523, 1525, 1527, 1529, 1531, 1533, 1535, 1537, 1539, 1541, 1543, 1545, 1547, 1549, 1551, 1553, 1555, 1557, 1559, 1561, 1563, 1565, 1567, 1569, 1571, 1573, 1575, 1577, 1579] (by decide +kernel) (by decide +kernel)
theorem nf_X12 : ∀ j, j < 69 → defaultValue (tyX12 j) = vp_V (.int 0 :: .null :: .int 0 :: .null :: .int 0 :: .null :: .null :: .null :: .null :: .null :: .int 0 :: .int 0 :: .int 0 :: .int 0 :: .int 0 :: .int 0 :: .int 0 :: .int 0 :: .int 0 :: .int 0 :: .int 0 :: .null :: .null :: .null :: .null :: .null :: .null :: .null :: .null :: .null :: .null :: .null :: .null :: .null :: .null :: .null :: .null :: .null :: .int 0 :: [.null, .null, .null, .null, .null, .null, .int 0, .null, .null, .int 0, .null, .null, .int 0, .int 0, .int 0, .null, .int 0, .null, .int 0, .null, .null, .null, .int 0, .null, .long 0, .int 0, .int 0, .null, .null, .null]) j := by
  intro j hj
  match j, hj with
  | 0, _ => rfl
  | 1, _ => rfl
  | 2, _ => rfl
  | 3, _ => rfl
  | 4, _ => rfl
  | 5, _ => rfl
  | 6, _ => rfl
  | 7, _ => rfl
  | 8, _ => rfl
  | 9, _ => rfl
  | 10, _ => rfl
  | 11, _ => rfl
  | 12, _ => rfl
  | 13, _ => rfl
  | 14, _ => rfl
  | 15, _ => rfl
  | 16, _ => rfl
  | 17, _ => rfl
  | 18, _ => rfl
  | 19, _ => rfl
  | 20, _ => rfl
  | 21, _ => rfl
  | 22, _ => rfl
  | 23, _ => rfl
  | 24, _ => rfl
  | 25, _ => rfl
  | 26, _ => rfl
  | 27, _ => rfl
  | 28, _ => rfl
  | 29, _ => rfl
  | 30, _ => rfl
  | 31, _ => rfl
  | 32, _ => rfl
  | 33, _ => rfl
  | 34, _ => rfl
  | 35, _ => rfl
  | 36, _ => rfl
  | 37, _ => rfl
  | 38, _ => rfl
  | 39, _ => rfl
  | 40, _ => rfl
  | 41, _ => rfl
  | 42, _ => rfl
  | 43, _ => rfl
  | 44, _ => rfl
  | 45, _ => rfl
  | 46, _ => rfl
  | 47, _ => rfl
  | 48, _ => rfl
  | 49, _ => rfl
  | 50, _ => rfl
  | 51, _ => rfl
  | 52, _ => rfl
  | 53, _ => rfl
  | 54, _ => rfl
  | 55, _ => rfl
  | 56, _ => rfl
  | 57, _ => rfl
  | 58, _ => rfl
  | 59, _ => rfl
  | 60, _ => rfl
  | 61, _ => rfl
  | 62, _ => rfl
  | 63, _ => rfl
  | 64, _ => rfl
  | 65, _ => rfl
  | 66, _ => rfl
  | 67, _ => rfl
  | 68, _ => rfl
  | j + 69, h => exact absurd h (by omega)
theorem tb_0 : Cond.selects "LieClock$Tokens" ⟨"LieClock$Tokens", "cutOne", "(LLieClock$Tape;I)I"⟩ ⟨"LieClock$Tokens", "cutOne", "(LLieClock$Tape;I)I"⟩ ∈ TB := TB_of 0 (by decide +kernel) (by decide +kernel)
theorem tb_1 : Cond.selects "LieClock$Tokens" ⟨"LieClock$Tokens", "cutLetters", "(LLieClock$Tape;I)I"⟩ ⟨"LieClock$Tokens", "cutLetters", "(LLieClock$Tape;I)I"⟩ ∈ TB := TB_of 1 (by decide +kernel) (by decide +kernel)
theorem tb_2 : Cond.selects "LieClock$Tokens" ⟨"LieClock$Tokens", "kindOf", "(J)I"⟩ ⟨"LieClock$Tokens", "kindOf", "(J)I"⟩ ∈ TB := TB_of 2 (by decide +kernel) (by decide +kernel)
theorem tb_3 : Cond.selects "LieClock$Tokens" ⟨"LieClock$Tokens", "add", "(IIJ)V"⟩ ⟨"LieClock$Tokens", "add", "(IIJ)V"⟩ ∈ TB := TB_of 3 (by decide +kernel) (by decide +kernel)
theorem tb_4 : Cond.selects "LieClock$Tokens" ⟨"LieClock$Tokens", "cutDigits", "(LLieClock$Tape;I)I"⟩ ⟨"LieClock$Tokens", "cutDigits", "(LLieClock$Tape;I)I"⟩ ∈ TB := TB_of 4 (by decide +kernel) (by decide +kernel)
theorem tb_29 : Cond.selects "LieClock$Law" ⟨"LieClock$Law", "push", "(I)V"⟩ ⟨"LieClock$Law", "push", "(I)V"⟩ ∈ TB := TB_of 29 (by decide +kernel) (by decide +kernel)
theorem tb_30 : Cond.selects "LieClock$Law" ⟨"LieClock$Law", "operate", "(I)V"⟩ ⟨"LieClock$Law", "operate", "(I)V"⟩ ∈ TB := TB_of 30 (by decide +kernel) (by decide +kernel)
theorem tb_106 : (Jvm.Cond.initialized "LieClock$Tape") ∈ TB := TB_of 106 (by decide +kernel) (by decide +kernel)
theorem tb_107 : (Jvm.Cond.initialized "LieClock$Told") ∈ TB := TB_of 107 (by decide +kernel) (by decide +kernel)
theorem tb_108 : (Jvm.Cond.initialized "LieClock$Law") ∈ TB := TB_of 108 (by decide +kernel) (by decide +kernel)
theorem tb_110 : (Jvm.Cond.initialized "LieClock$Tokens") ∈ TB := TB_of 110 (by decide +kernel) (by decide +kernel)
theorem tb_111 : (Jvm.Cond.initialized "java/lang/String") ∈ TB := TB_of 111 (by decide +kernel) (by decide +kernel)
theorem tb_112 : (Jvm.Cond.initialized "java/lang/StringLatin1") ∈ TB := TB_of 112 (by decide +kernel) (by decide +kernel)
theorem tb_115 : (Jvm.Cond.initialized "LieClock$State") ∈ TB := TB_of 115 (by decide +kernel) (by decide +kernel)
theorem tb_123 : (Jvm.Cond.initialized "java/lang/Math") ∈ TB := TB_of 123 (by decide +kernel) (by decide +kernel)
theorem tb_126 : (Jvm.Cond.initialized "java/lang/Integer") ∈ TB := TB_of 126 (by decide +kernel) (by decide +kernel)
theorem tb_127 : (Jvm.Cond.initialized "java/lang/System") ∈ TB := TB_of 127 (by decide +kernel) (by decide +kernel)
theorem tb_142 : (Jvm.Cond.fieldLink "LieClock$Tape" (9 : Nat) "LieClock$Tape" "bytes" "[B") ∈ TB := TB_of 142 (by decide +kernel) (by decide +kernel)
theorem tb_144 : (Jvm.Cond.fieldLink "LieClock$Tape" (15 : Nat) "LieClock$Tape" "length" "I") ∈ TB := TB_of 144 (by decide +kernel) (by decide +kernel)
theorem tb_164 : (Jvm.Cond.fieldLink "LieClock$Law" (9 : Nat) "LieClock$Law" "code" "[I") ∈ TB := TB_of 164 (by decide +kernel) (by decide +kernel)
theorem tb_165 : (Jvm.Cond.fieldLink "LieClock$Law" (15 : Nat) "LieClock$Law" "stack" "[I") ∈ TB := TB_of 165 (by decide +kernel) (by decide +kernel)
theorem tb_166 : (Jvm.Cond.fieldLink "LieClock$Law" (18 : Nat) "LieClock$Law" "length" "I") ∈ TB := TB_of 166 (by decide +kernel) (by decide +kernel)
theorem tb_168 : (Jvm.Cond.fieldLink "LieClock$Law" (22 : Nat) "LieClock$Law" "top" "I") ∈ TB := TB_of 168 (by decide +kernel) (by decide +kernel)
theorem tb_169 : (Jvm.Cond.fieldLink "LieClock$Law" (25 : Nat) "LieClock$Law" "dividedByZero" "Z") ∈ TB := TB_of 169 (by decide +kernel) (by decide +kernel)
theorem tb_183 : (Jvm.Cond.fieldLink "LieClock$Told" (47 : Nat) "LieClock$Told" "facts" "I") ∈ TB := TB_of 183 (by decide +kernel) (by decide +kernel)
theorem tb_188 : (Jvm.Cond.fieldLink "LieClock$Told" (51 : Nat) "LieClock$Told" "truths" "I") ∈ TB := TB_of 188 (by decide +kernel) (by decide +kernel)
theorem tb_190 : (Jvm.Cond.fieldLink "LieClock$Told" (54 : Nat) "LieClock$Told" "opens" "I") ∈ TB := TB_of 190 (by decide +kernel) (by decide +kernel)
theorem tb_192 : (Jvm.Cond.fieldLink "LieClock$Told" (57 : Nat) "LieClock$Told" "witnesses" "I") ∈ TB := TB_of 192 (by decide +kernel) (by decide +kernel)
theorem tb_198 : (Jvm.Cond.fieldLink "LieClock$Told" (60 : Nat) "LieClock$Told" "words" "I") ∈ TB := TB_of 198 (by decide +kernel) (by decide +kernel)
theorem tb_205 : (Jvm.Cond.fieldLink "LieClock$Told" (63 : Nat) "LieClock$Told" "selfs" "I") ∈ TB := TB_of 205 (by decide +kernel) (by decide +kernel)
theorem tb_208 : (Jvm.Cond.fieldLink "LieClock$Told" (66 : Nat) "LieClock$Told" "trueWords" "I") ∈ TB := TB_of 208 (by decide +kernel) (by decide +kernel)
theorem tb_212 : (Jvm.Cond.fieldLink "LieClock$Told" (69 : Nat) "LieClock$Told" "cases" "I") ∈ TB := TB_of 212 (by decide +kernel) (by decide +kernel)
theorem tb_217 : (Jvm.Cond.fieldLink "LieClock$Told" (72 : Nat) "LieClock$Told" "begin" "I") ∈ TB := TB_of 217 (by decide +kernel) (by decide +kernel)
theorem tb_220 : (Jvm.Cond.fieldLink "LieClock$Told" (80 : Nat) "LieClock$Told" "everything" "J") ∈ TB := TB_of 220 (by decide +kernel) (by decide +kernel)
theorem tb_222 : (Jvm.Cond.fieldLink "LieClock$Told" (9 : Nat) "LieClock$Told" "factNames" "[J") ∈ TB := TB_of 222 (by decide +kernel) (by decide +kernel)
theorem tb_223 : (Jvm.Cond.fieldLink "LieClock$Told" (15 : Nat) "LieClock$Told" "witnessNames" "[J") ∈ TB := TB_of 223 (by decide +kernel) (by decide +kernel)
theorem tb_224 : (Jvm.Cond.fieldLink "LieClock$Told" (18 : Nat) "LieClock$Told" "wordsOf" "[I") ∈ TB := TB_of 224 (by decide +kernel) (by decide +kernel)
theorem tb_227 : (Jvm.Cond.fieldLink "LieClock$Told" (22 : Nat) "LieClock$Told" "teller" "[I") ∈ TB := TB_of 227 (by decide +kernel) (by decide +kernel)
theorem tb_230 : (Jvm.Cond.fieldLink "LieClock$Told" (25 : Nat) "LieClock$Told" "holds" "[J") ∈ TB := TB_of 230 (by decide +kernel) (by decide +kernel)
theorem tb_233 : (Jvm.Cond.fieldLink "LieClock$Told" (28 : Nat) "LieClock$Told" "caseNames" "[J") ∈ TB := TB_of 233 (by decide +kernel) (by decide +kernel)
theorem tb_234 : (Jvm.Cond.fieldLink "LieClock$Told" (31 : Nat) "LieClock$Told" "due" "[I") ∈ TB := TB_of 234 (by decide +kernel) (by decide +kernel)
theorem tb_238 : (Jvm.Cond.fieldLink "LieClock$Told" (34 : Nat) "LieClock$Told" "guilt" "[J") ∈ TB := TB_of 238 (by decide +kernel) (by decide +kernel)
theorem tb_241 : (Jvm.Cond.fieldLink "LieClock$Told" (40 : Nat) "LieClock$Told" "back" "LLieClock$Law;") ∈ TB := TB_of 241 (by decide +kernel) (by decide +kernel)
theorem tb_244 : (Jvm.Cond.fieldLink "LieClock$Told" (44 : Nat) "LieClock$Told" "forth" "LLieClock$Law;") ∈ TB := TB_of 244 (by decide +kernel) (by decide +kernel)
theorem tb_302 : (Jvm.Cond.instanceMethod ({ cls := "java/lang/String", name := "length", desc := "()I" } : Jvm.MethodName)) ∈ TB := TB_of 302 (by decide +kernel) (by decide +kernel)
theorem tb_303 : (Jvm.Cond.selects "java/lang/String" ({ cls := "java/lang/String", name := "length", desc := "()I" } : Jvm.MethodName) ({ cls := "java/lang/String", name := "length", desc := "()I" } : Jvm.MethodName)) ∈ TB := TB_of 303 (by decide +kernel) (by decide +kernel)
theorem tb_305 : (Jvm.Cond.methodLink "java/lang/String" (335 : Nat) ({ cls := "java/lang/String", name := "coder", desc := "()B" } : Jvm.MethodName)) ∈ TB := TB_of 305 (by decide +kernel) (by decide +kernel)
theorem tb_306 : (Jvm.Cond.instanceMethod ({ cls := "java/lang/String", name := "coder", desc := "()B" } : Jvm.MethodName)) ∈ TB := TB_of 306 (by decide +kernel) (by decide +kernel)
theorem tb_307 : (Jvm.Cond.selects "java/lang/String" ({ cls := "java/lang/String", name := "coder", desc := "()B" } : Jvm.MethodName) ({ cls := "java/lang/String", name := "coder", desc := "()B" } : Jvm.MethodName)) ∈ TB := TB_of 307 (by decide +kernel) (by decide +kernel)
theorem tb_309 : (Jvm.Cond.fieldLink "java/lang/String" (38 : Nat) "java/lang/String" "COMPACT_STRINGS" "Z") ∈ TB := TB_of 309 (by decide +kernel) (by decide +kernel)
theorem tb_315 : (Jvm.Cond.methodLink "java/lang/String" (492 : Nat) ({ cls := "java/lang/String", name := "isLatin1", desc := "()Z" } : Jvm.MethodName)) ∈ TB := TB_of 315 (by decide +kernel) (by decide +kernel)
theorem tb_316 : (Jvm.Cond.instanceMethod ({ cls := "java/lang/String", name := "isLatin1", desc := "()Z" } : Jvm.MethodName)) ∈ TB := TB_of 316 (by decide +kernel) (by decide +kernel)
theorem tb_317 : (Jvm.Cond.selects "java/lang/String" ({ cls := "java/lang/String", name := "isLatin1", desc := "()Z" } : Jvm.MethodName) ({ cls := "java/lang/String", name := "isLatin1", desc := "()Z" } : Jvm.MethodName)) ∈ TB := TB_of 317 (by decide +kernel) (by decide +kernel)
theorem tb_349 : (Jvm.Cond.methodLink "LieClock$Tokens" (37 : Nat) ({ cls := "LieClock$Tokens", name := "withLetter", desc := "(JI)J" } : Jvm.MethodName)) ∈ TB := TB_of 349 (by decide +kernel) (by decide +kernel)
theorem tb_350 : (Jvm.Cond.static ({ cls := "LieClock$Tokens", name := "withLetter", desc := "(JI)J" } : Jvm.MethodName)) ∈ TB := TB_of 350 (by decide +kernel) (by decide +kernel)
theorem tb_352 : (Jvm.Cond.constantLong "LieClock$Tokens" (93 : Nat) (32 : Int64)) ∈ TB := TB_of 352 (by decide +kernel) (by decide +kernel)
theorem tb_353 : (Jvm.Cond.fieldLink "LieClock$Tokens" (9 : Nat) "LieClock$Tokens" "kinds" "[I") ∈ TB := TB_of 353 (by decide +kernel) (by decide +kernel)
theorem tb_355 : (Jvm.Cond.fieldLink "LieClock$Tokens" (15 : Nat) "LieClock$Tokens" "places" "[I") ∈ TB := TB_of 355 (by decide +kernel) (by decide +kernel)
theorem tb_356 : (Jvm.Cond.fieldLink "LieClock$Tokens" (18 : Nat) "LieClock$Tokens" "values" "[J") ∈ TB := TB_of 356 (by decide +kernel) (by decide +kernel)
theorem tb_358 : (Jvm.Cond.fieldLink "LieClock$Tokens" (22 : Nat) "LieClock$Tokens" "keys" "[J") ∈ TB := TB_of 358 (by decide +kernel) (by decide +kernel)
theorem tb_359 : (Jvm.Cond.fieldLink "LieClock$Tokens" (41 : Nat) "LieClock$Tokens" "size" "I") ∈ TB := TB_of 359 (by decide +kernel) (by decide +kernel)
theorem tb_397 : (Jvm.Cond.constantLong "LieClock$Told" (78 : Nat) (-1 : Int64)) ∈ TB := TB_of 397 (by decide +kernel) (by decide +kernel)
theorem tb_398 : (Jvm.Cond.methodLink "LieClock$Told" (84 : Nat) ({ cls := "LieClock$Told", name := "tellOnce", desc := "(LLieClock$Law;)V" } : Jvm.MethodName)) ∈ TB := TB_of 398 (by decide +kernel) (by decide +kernel)
theorem tb_399 : (Jvm.Cond.static ({ cls := "LieClock$Told", name := "tellOnce", desc := "(LLieClock$Law;)V" } : Jvm.MethodName)) ∈ TB := TB_of 399 (by decide +kernel) (by decide +kernel)
theorem tb_401 : (Jvm.Cond.methodLink "LieClock$Told" (91 : Nat) ({ cls := "LieClock$Law", name := "add", desc := "(I)V" } : Jvm.MethodName)) ∈ TB := TB_of 401 (by decide +kernel) (by decide +kernel)
theorem tb_402 : (Jvm.Cond.instanceMethod ({ cls := "LieClock$Law", name := "add", desc := "(I)V" } : Jvm.MethodName)) ∈ TB := TB_of 402 (by decide +kernel) (by decide +kernel)
theorem tb_403 : (Jvm.Cond.selects "LieClock$Law" ({ cls := "LieClock$Law", name := "add", desc := "(I)V" } : Jvm.MethodName) ({ cls := "LieClock$Law", name := "add", desc := "(I)V" } : Jvm.MethodName)) ∈ TB := TB_of 403 (by decide +kernel) (by decide +kernel)
theorem tb_411 : (Jvm.Cond.fieldLink "LieClock$State" (31 : Nat) "LieClock$State" "clock" "I") ∈ TB := TB_of 411 (by decide +kernel) (by decide +kernel)
theorem tb_416 : (Jvm.Cond.fieldLink "LieClock$State" (34 : Nat) "LieClock$State" "said" "I") ∈ TB := TB_of 416 (by decide +kernel) (by decide +kernel)
theorem tb_420 : (Jvm.Cond.fieldLink "LieClock$State" (37 : Nat) "LieClock$State" "caught" "I") ∈ TB := TB_of 420 (by decide +kernel) (by decide +kernel)
theorem tb_424 : (Jvm.Cond.fieldLink "LieClock$State" (43 : Nat) "LieClock$State" "open" "I") ∈ TB := TB_of 424 (by decide +kernel) (by decide +kernel)
theorem tb_426 : (Jvm.Cond.fieldLink "LieClock$State" (46 : Nat) "LieClock$State" "heard" "I") ∈ TB := TB_of 426 (by decide +kernel) (by decide +kernel)
theorem tb_733 : (Jvm.Cond.methodLink "LieClock$Tokens" (45 : Nat) ({ cls := "LieClock$Tokens", name := "skipBlanks", desc := "(LLieClock$Tape;I)I" } : Jvm.MethodName)) ∈ TB := TB_of 733 (by decide +kernel) (by decide +kernel)
theorem tb_734 : (Jvm.Cond.static ({ cls := "LieClock$Tokens", name := "skipBlanks", desc := "(LLieClock$Tape;I)I" } : Jvm.MethodName)) ∈ TB := TB_of 734 (by decide +kernel) (by decide +kernel)
theorem tb_736 : (Jvm.Cond.methodLink "LieClock$Tokens" (56 : Nat) ({ cls := "LieClock$Tape", name := "at", desc := "(I)I" } : Jvm.MethodName)) ∈ TB := TB_of 736 (by decide +kernel) (by decide +kernel)
theorem tb_737 : (Jvm.Cond.instanceMethod ({ cls := "LieClock$Tape", name := "at", desc := "(I)I" } : Jvm.MethodName)) ∈ TB := TB_of 737 (by decide +kernel) (by decide +kernel)
theorem tb_738 : (Jvm.Cond.selects "LieClock$Tape" ({ cls := "LieClock$Tape", name := "at", desc := "(I)I" } : Jvm.MethodName) ({ cls := "LieClock$Tape", name := "at", desc := "(I)I" } : Jvm.MethodName)) ∈ TB := TB_of 738 (by decide +kernel) (by decide +kernel)
theorem tb_740 : (Jvm.Cond.methodLink "LieClock$Tokens" (60 : Nat) ({ cls := "LieClock$Tokens", name := "isBlank", desc := "(I)Z" } : Jvm.MethodName)) ∈ TB := TB_of 740 (by decide +kernel) (by decide +kernel)
theorem tb_741 : (Jvm.Cond.static ({ cls := "LieClock$Tokens", name := "isBlank", desc := "(I)Z" } : Jvm.MethodName)) ∈ TB := TB_of 741 (by decide +kernel) (by decide +kernel)
theorem tb_743 : (Jvm.Cond.methodLink "LieClock$Tokens" (49 : Nat) ({ cls := "LieClock$Tokens", name := "cutOne", desc := "(LLieClock$Tape;I)I" } : Jvm.MethodName)) ∈ TB := TB_of 743 (by decide +kernel) (by decide +kernel)
theorem tb_745 : (Jvm.Cond.instanceMethod ({ cls := "LieClock$Tokens", name := "cutOne", desc := "(LLieClock$Tape;I)I" } : Jvm.MethodName)) ∈ TB := TB_of 745 (by decide +kernel) (by decide +kernel)
theorem tb_747 : (Jvm.Cond.methodLink "LieClock$Tokens" (64 : Nat) ({ cls := "LieClock$Tokens", name := "isLetter", desc := "(I)Z" } : Jvm.MethodName)) ∈ TB := TB_of 747 (by decide +kernel) (by decide +kernel)
theorem tb_748 : (Jvm.Cond.static ({ cls := "LieClock$Tokens", name := "isLetter", desc := "(I)Z" } : Jvm.MethodName)) ∈ TB := TB_of 748 (by decide +kernel) (by decide +kernel)
theorem tb_750 : (Jvm.Cond.methodLink "LieClock$Tokens" (67 : Nat) ({ cls := "LieClock$Tokens", name := "cutLetters", desc := "(LLieClock$Tape;I)I" } : Jvm.MethodName)) ∈ TB := TB_of 750 (by decide +kernel) (by decide +kernel)
theorem tb_752 : (Jvm.Cond.instanceMethod ({ cls := "LieClock$Tokens", name := "cutLetters", desc := "(LLieClock$Tape;I)I" } : Jvm.MethodName)) ∈ TB := TB_of 752 (by decide +kernel) (by decide +kernel)
theorem tb_754 : (Jvm.Cond.methodLink "LieClock$Tokens" (85 : Nat) ({ cls := "LieClock$Tokens", name := "kindOf", desc := "(J)I" } : Jvm.MethodName)) ∈ TB := TB_of 754 (by decide +kernel) (by decide +kernel)
theorem tb_756 : (Jvm.Cond.instanceMethod ({ cls := "LieClock$Tokens", name := "kindOf", desc := "(J)I" } : Jvm.MethodName)) ∈ TB := TB_of 756 (by decide +kernel) (by decide +kernel)
theorem tb_758 : (Jvm.Cond.methodLink "LieClock$Tokens" (76 : Nat) ({ cls := "LieClock$Tokens", name := "add", desc := "(IIJ)V" } : Jvm.MethodName)) ∈ TB := TB_of 758 (by decide +kernel) (by decide +kernel)
theorem tb_760 : (Jvm.Cond.instanceMethod ({ cls := "LieClock$Tokens", name := "add", desc := "(IIJ)V" } : Jvm.MethodName)) ∈ TB := TB_of 760 (by decide +kernel) (by decide +kernel)
theorem tb_762 : (Jvm.Cond.methodLink "LieClock$Tokens" (70 : Nat) ({ cls := "LieClock$Tokens", name := "isDigit", desc := "(I)Z" } : Jvm.MethodName)) ∈ TB := TB_of 762 (by decide +kernel) (by decide +kernel)
theorem tb_763 : (Jvm.Cond.static ({ cls := "LieClock$Tokens", name := "isDigit", desc := "(I)Z" } : Jvm.MethodName)) ∈ TB := TB_of 763 (by decide +kernel) (by decide +kernel)
theorem tb_765 : (Jvm.Cond.methodLink "LieClock$Tokens" (73 : Nat) ({ cls := "LieClock$Tokens", name := "cutDigits", desc := "(LLieClock$Tape;I)I" } : Jvm.MethodName)) ∈ TB := TB_of 765 (by decide +kernel) (by decide +kernel)
theorem tb_767 : (Jvm.Cond.instanceMethod ({ cls := "LieClock$Tokens", name := "cutDigits", desc := "(LLieClock$Tape;I)I" } : Jvm.MethodName)) ∈ TB := TB_of 767 (by decide +kernel) (by decide +kernel)
theorem tb_769 : (Jvm.Cond.constantLong "LieClock$Tokens" (89 : Nat) (10 : Int64)) ∈ TB := TB_of 769 (by decide +kernel) (by decide +kernel)
theorem tb_770 : (Jvm.Cond.constantLong "LieClock$Tokens" (91 : Nat) (48 : Int64)) ∈ TB := TB_of 770 (by decide +kernel) (by decide +kernel)
theorem tb_772 : (Jvm.Cond.methodLink "LieClock$Tokens" (82 : Nat) ({ cls := "java/lang/String", name := "indexOf", desc := "(I)I" } : Jvm.MethodName)) ∈ TB := TB_of 772 (by decide +kernel) (by decide +kernel)
theorem tb_773 : (Jvm.Cond.instanceMethod ({ cls := "java/lang/String", name := "indexOf", desc := "(I)I" } : Jvm.MethodName)) ∈ TB := TB_of 773 (by decide +kernel) (by decide +kernel)
theorem tb_774 : (Jvm.Cond.selects "java/lang/String" ({ cls := "java/lang/String", name := "indexOf", desc := "(I)I" } : Jvm.MethodName) ({ cls := "java/lang/String", name := "indexOf", desc := "(I)I" } : Jvm.MethodName)) ∈ TB := TB_of 774 (by decide +kernel) (by decide +kernel)
theorem tb_776 : (Jvm.Cond.methodLink "java/lang/String" (633 : Nat) ({ cls := "java/lang/String", name := "indexOf", desc := "(II)I" } : Jvm.MethodName)) ∈ TB := TB_of 776 (by decide +kernel) (by decide +kernel)
theorem tb_777 : (Jvm.Cond.instanceMethod ({ cls := "java/lang/String", name := "indexOf", desc := "(II)I" } : Jvm.MethodName)) ∈ TB := TB_of 777 (by decide +kernel) (by decide +kernel)
theorem tb_778 : (Jvm.Cond.selects "java/lang/String" ({ cls := "java/lang/String", name := "indexOf", desc := "(II)I" } : Jvm.MethodName) ({ cls := "java/lang/String", name := "indexOf", desc := "(II)I" } : Jvm.MethodName)) ∈ TB := TB_of 778 (by decide +kernel) (by decide +kernel)
theorem tb_780 : (Jvm.Cond.methodLink "java/lang/String" (505 : Nat) ({ cls := "java/lang/String", name := "length", desc := "()I" } : Jvm.MethodName)) ∈ TB := TB_of 780 (by decide +kernel) (by decide +kernel)
theorem tb_781 : (Jvm.Cond.methodLink "java/lang/String" (637 : Nat) ({ cls := "java/lang/StringLatin1", name := "indexOf", desc := "([BIII)I" } : Jvm.MethodName)) ∈ TB := TB_of 781 (by decide +kernel) (by decide +kernel)
theorem tb_782 : (Jvm.Cond.static ({ cls := "java/lang/StringLatin1", name := "indexOf", desc := "([BIII)I" } : Jvm.MethodName)) ∈ TB := TB_of 782 (by decide +kernel) (by decide +kernel)
theorem tb_784 : (Jvm.Cond.methodLink "java/lang/StringLatin1" (88 : Nat) ({ cls := "java/lang/StringLatin1", name := "canEncode", desc := "(I)Z" } : Jvm.MethodName)) ∈ TB := TB_of 784 (by decide +kernel) (by decide +kernel)
theorem tb_785 : (Jvm.Cond.static ({ cls := "java/lang/StringLatin1", name := "canEncode", desc := "(I)Z" } : Jvm.MethodName)) ∈ TB := TB_of 785 (by decide +kernel) (by decide +kernel)
theorem tb_787 : (Jvm.Cond.methodLink "java/lang/StringLatin1" (92 : Nat) ({ cls := "java/lang/Math", name := "max", desc := "(II)I" } : Jvm.MethodName)) ∈ TB := TB_of 787 (by decide +kernel) (by decide +kernel)
theorem tb_788 : (Jvm.Cond.static ({ cls := "java/lang/Math", name := "max", desc := "(II)I" } : Jvm.MethodName)) ∈ TB := TB_of 788 (by decide +kernel) (by decide +kernel)
theorem tb_790 : (Jvm.Cond.methodLink "java/lang/StringLatin1" (38 : Nat) ({ cls := "java/lang/Math", name := "min", desc := "(II)I" } : Jvm.MethodName)) ∈ TB := TB_of 790 (by decide +kernel) (by decide +kernel)
theorem tb_791 : (Jvm.Cond.static ({ cls := "java/lang/Math", name := "min", desc := "(II)I" } : Jvm.MethodName)) ∈ TB := TB_of 791 (by decide +kernel) (by decide +kernel)
theorem tb_793 : (Jvm.Cond.methodLink "java/lang/StringLatin1" (95 : Nat) ({ cls := "java/lang/StringLatin1", name := "indexOfChar", desc := "([BIII)I" } : Jvm.MethodName)) ∈ TB := TB_of 793 (by decide +kernel) (by decide +kernel)
theorem tb_794 : (Jvm.Cond.static ({ cls := "java/lang/StringLatin1", name := "indexOfChar", desc := "([BIII)I" } : Jvm.MethodName)) ∈ TB := TB_of 794 (by decide +kernel) (by decide +kernel)
theorem tb_835 : (Jvm.Cond.methodLink "LieClock$Told" (75 : Nat) ({ cls := "LieClock$Law", name := "clear", desc := "()V" } : Jvm.MethodName)) ∈ TB := TB_of 835 (by decide +kernel) (by decide +kernel)
theorem tb_836 : (Jvm.Cond.instanceMethod ({ cls := "LieClock$Law", name := "clear", desc := "()V" } : Jvm.MethodName)) ∈ TB := TB_of 836 (by decide +kernel) (by decide +kernel)
theorem tb_837 : (Jvm.Cond.selects "LieClock$Law" ({ cls := "LieClock$Law", name := "clear", desc := "()V" } : Jvm.MethodName) ({ cls := "LieClock$Law", name := "clear", desc := "()V" } : Jvm.MethodName)) ∈ TB := TB_of 837 (by decide +kernel) (by decide +kernel)
theorem tb_867 : (Jvm.Cond.methodLink "LieClock$Told" (105 : Nat) ({ cls := "LieClock$Told", name := "factNamed", desc := "(J)I" } : Jvm.MethodName)) ∈ TB := TB_of 867 (by decide +kernel) (by decide +kernel)
theorem tb_868 : (Jvm.Cond.instanceMethod ({ cls := "LieClock$Told", name := "factNamed", desc := "(J)I" } : Jvm.MethodName)) ∈ TB := TB_of 868 (by decide +kernel) (by decide +kernel)
theorem tb_869 : (Jvm.Cond.selects "LieClock$Told" ({ cls := "LieClock$Told", name := "factNamed", desc := "(J)I" } : Jvm.MethodName) ({ cls := "LieClock$Told", name := "factNamed", desc := "(J)I" } : Jvm.MethodName)) ∈ TB := TB_of 869 (by decide +kernel) (by decide +kernel)
theorem tb_871 : (Jvm.Cond.methodLink "LieClock$Told" (101 : Nat) ({ cls := "LieClock$Told", name := "indexOf", desc := "([JIJ)I" } : Jvm.MethodName)) ∈ TB := TB_of 871 (by decide +kernel) (by decide +kernel)
theorem tb_872 : (Jvm.Cond.static ({ cls := "LieClock$Told", name := "indexOf", desc := "([JIJ)I" } : Jvm.MethodName)) ∈ TB := TB_of 872 (by decide +kernel) (by decide +kernel)
theorem tb_874 : (Jvm.Cond.methodLink "LieClock$Told" (109 : Nat) ({ cls := "LieClock$Told", name := "witnessNamed", desc := "(J)I" } : Jvm.MethodName)) ∈ TB := TB_of 874 (by decide +kernel) (by decide +kernel)
theorem tb_875 : (Jvm.Cond.instanceMethod ({ cls := "LieClock$Told", name := "witnessNamed", desc := "(J)I" } : Jvm.MethodName)) ∈ TB := TB_of 875 (by decide +kernel) (by decide +kernel)
theorem tb_876 : (Jvm.Cond.selects "LieClock$Told" ({ cls := "LieClock$Told", name := "witnessNamed", desc := "(J)I" } : Jvm.MethodName) ({ cls := "LieClock$Told", name := "witnessNamed", desc := "(J)I" } : Jvm.MethodName)) ∈ TB := TB_of 876 (by decide +kernel) (by decide +kernel)
theorem tb_930 : (Jvm.Cond.methodLink "LieClock$Told" (95 : Nat) ({ cls := "java/lang/Math", name := "min", desc := "(II)I" } : Jvm.MethodName)) ∈ TB := TB_of 930 (by decide +kernel) (by decide +kernel)
theorem tb_1009 : (Jvm.Cond.static ({ cls := "java/lang/Integer", name := "bitCount", desc := "(I)I" } : Jvm.MethodName)) ∈ TB := TB_of 1009 (by decide +kernel) (by decide +kernel)
theorem tb_1011 : (Jvm.Cond.constant "java/lang/Integer" (265 : Nat) (1431655765 : Int32)) ∈ TB := TB_of 1011 (by decide +kernel) (by decide +kernel)
theorem tb_1012 : (Jvm.Cond.constant "java/lang/Integer" (266 : Nat) (858993459 : Int32)) ∈ TB := TB_of 1012 (by decide +kernel) (by decide +kernel)
theorem tb_1013 : (Jvm.Cond.constant "java/lang/Integer" (267 : Nat) (252645135 : Int32)) ∈ TB := TB_of 1013 (by decide +kernel) (by decide +kernel)
theorem tb_1053 : (Jvm.Cond.static ({ cls := "java/lang/System", name := "arraycopy", desc := "(Ljava/lang/Object;ILjava/lang/Object;II)V" } : Jvm.MethodName)) ∈ TB := TB_of 1053 (by decide +kernel) (by decide +kernel)
theorem tb_1054 : (Jvm.Cond.native ({ cls := "java/lang/System", name := "arraycopy", desc := "(Ljava/lang/Object;ILjava/lang/Object;II)V" } : Jvm.MethodName)) ∈ TB := TB_of 1054 (by decide +kernel) (by decide +kernel)
theorem tb_1075 : (Jvm.Cond.methodLink "LieClock$Law" (29 : Nat) ({ cls := "LieClock$Law", name := "push", desc := "(I)V" } : Jvm.MethodName)) ∈ TB := TB_of 1075 (by decide +kernel) (by decide +kernel)
theorem tb_1077 : (Jvm.Cond.instanceMethod ({ cls := "LieClock$Law", name := "push", desc := "(I)V" } : Jvm.MethodName)) ∈ TB := TB_of 1077 (by decide +kernel) (by decide +kernel)
theorem tb_1079 : (Jvm.Cond.methodLink "LieClock$Law" (33 : Nat) ({ cls := "LieClock$Law", name := "operate", desc := "(I)V" } : Jvm.MethodName)) ∈ TB := TB_of 1079 (by decide +kernel) (by decide +kernel)
theorem tb_1081 : (Jvm.Cond.instanceMethod ({ cls := "LieClock$Law", name := "operate", desc := "(I)V" } : Jvm.MethodName)) ∈ TB := TB_of 1081 (by decide +kernel) (by decide +kernel)
theorem tb_1083 : (Jvm.Cond.methodLink "LieClock$Law" (36 : Nat) ({ cls := "LieClock$State", name := "valueOf", desc := "(II)I" } : Jvm.MethodName)) ∈ TB := TB_of 1083 (by decide +kernel) (by decide +kernel)
theorem tb_1084 : (Jvm.Cond.instanceMethod ({ cls := "LieClock$State", name := "valueOf", desc := "(II)I" } : Jvm.MethodName)) ∈ TB := TB_of 1084 (by decide +kernel) (by decide +kernel)
theorem tb_1085 : (Jvm.Cond.selects "LieClock$State" ({ cls := "LieClock$State", name := "valueOf", desc := "(II)I" } : Jvm.MethodName) ({ cls := "LieClock$State", name := "valueOf", desc := "(II)I" } : Jvm.MethodName)) ∈ TB := TB_of 1085 (by decide +kernel) (by decide +kernel)
theorem tb_1087 : (Jvm.Cond.methodLink "LieClock$State" (157 : Nat) ({ cls := "java/lang/Integer", name := "bitCount", desc := "(I)I" } : Jvm.MethodName)) ∈ TB := TB_of 1087 (by decide +kernel) (by decide +kernel)
theorem tb_1088 : (Jvm.Cond.methodLink "LieClock$State" (163 : Nat) ({ cls := "java/lang/Math", name := "floorMod", desc := "(II)I" } : Jvm.MethodName)) ∈ TB := TB_of 1088 (by decide +kernel) (by decide +kernel)
theorem tb_1089 : (Jvm.Cond.static ({ cls := "java/lang/Math", name := "floorMod", desc := "(II)I" } : Jvm.MethodName)) ∈ TB := TB_of 1089 (by decide +kernel) (by decide +kernel)
theorem tb_1091 : (Jvm.Cond.methodLink "LieClock$Law" (42 : Nat) ({ cls := "java/lang/Math", name := "min", desc := "(II)I" } : Jvm.MethodName)) ∈ TB := TB_of 1091 (by decide +kernel) (by decide +kernel)
theorem tb_1092 : (Jvm.Cond.methodLink "LieClock$Law" (47 : Nat) ({ cls := "java/lang/Math", name := "max", desc := "(II)I" } : Jvm.MethodName)) ∈ TB := TB_of 1092 (by decide +kernel) (by decide +kernel)
theorem tb_1348 : (Jvm.Cond.methodLink "LieClock$Tape" (19 : Nat) ({ cls := "java/lang/System", name := "arraycopy", desc := "(Ljava/lang/Object;ILjava/lang/Object;II)V" } : Jvm.MethodName)) ∈ TB := TB_of 1348 (by decide +kernel) (by decide +kernel)
theorem tb_1962 : (Jvm.Cond.fieldLink "java/lang/String" (9 : Nat) "java/lang/String" "value" "[B") ∈ TB := TB_of 1962 (by decide +kernel) (by decide +kernel)
theorem tb_1963 : (Jvm.Cond.fieldLink "java/lang/String" (15 : Nat) "java/lang/String" "coder" "B") ∈ TB := TB_of 1963 (by decide +kernel) (by decide +kernel)
theorem nw_41 : (Jvm.Cond.fieldLinkNest "LieClock$Tokens" (52 : Nat) "LieClock$Tape" "length" "I" "LieClock") ∈ NWs := NW_of 41 (by decide +kernel) rfl
theorem nw_63 : (Jvm.Cond.fieldLinkNest "LieClock$Told" (88 : Nat) "LieClock$Law" "length" "I" "LieClock") ∈ NWs := NW_of 63 (by decide +kernel) rfl
theorem nw_375 : (Jvm.Cond.fieldLinkNest "LieClock$Told" (112 : Nat) "LieClock" "WHERE_TRUE" "[J" "LieClock") ∈ NWs := NW_of 375 (by decide +kernel) rfl
