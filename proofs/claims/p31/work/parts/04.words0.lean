theorem mem_by (ws : List Cond) (ps : List Nat) (hp : ws = ps.filterMap (fun i => lw_tbl[i]?)) (hg : ws.all goodWord = true) : ∀ w ∈ ws, w ∈ TB := by
  intro w hw
  have h1 := List.all_eq_true.mp hg w hw
  rw [hp] at hw
  obtain ⟨i, -, hi⟩ := List.mem_filterMap.mp hw
  exact TB_of i hi h1
set_option maxRecDepth 20000 in
theorem iw_X0 : ∀ w ∈ u_ws RX0 TX0 8, w ∈ TB := mem_by _ [603, 605, 607, 609, 611, 613, 615, 617] (by decide +kernel) (by decide +kernel)
theorem nf_X0 : ∀ j, j < 8 → defaultValue (tyX0 j) = vp_V [.null, .null, .null, .int 0, .int 0, .int 0, .int 0, .int 0] j := by
  intro j hj
  match j, hj with
  | 0, _ => rfl
  | 1, _ => rfl
  | 2, _ => rfl
  | 3, _ => rfl
  | 4, _ => rfl
  | 5, _ => rfl
  | 6, _ => rfl
  | 7, _ => rfl
  | j + 8, h => exact absurd h (by omega)
set_option maxRecDepth 20000 in
theorem iw_X1 : ∀ w ∈ u_ws RX1 TX1 8, w ∈ TB := mem_by _ [640, 642, 644, 646, 648, 650, 652, 654] (by decide +kernel) (by decide +kernel)
theorem nf_X1 : ∀ j, j < 8 → defaultValue (tyX1 j) = vp_V [.null, .null, .null, .int 0, .null, .null, .null, .null] j := by
  intro j hj
  match j, hj with
  | 0, _ => rfl
  | 1, _ => rfl
  | 2, _ => rfl
  | 3, _ => rfl
  | 4, _ => rfl
  | 5, _ => rfl
  | 6, _ => rfl
  | 7, _ => rfl
  | j + 8, h => exact absurd h (by omega)
set_option maxRecDepth 20000 in
theorem iw_X2 : ∀ w ∈ u_ws RX2 TX2 5, w ∈ TB := mem_by _ [170, 172, 174, 176, 178] (by decide +kernel) (by decide +kernel)
theorem nf_X2 : ∀ j, j < 5 → defaultValue (tyX2 j) = vp_V [.null, .null, .int 0, .int 0, .int 0] j := by
  intro j hj
  match j, hj with
  | 0, _ => rfl
  | 1, _ => rfl
  | 2, _ => rfl
  | 3, _ => rfl
  | 4, _ => rfl
  | j + 5, h => exact absurd h (by omega)
set_option maxRecDepth 20000 in
theorem iw_X3 : ∀ w ∈ u_ws RX3 TX3 7, w ∈ TB := mem_by _ [506, 508, 510, 512, 514, 516, 518] (by decide +kernel) (by decide +kernel)
theorem nf_X3 : ∀ j, j < 7 → defaultValue (tyX3 j) = vp_V [.null, .null, .null, .null, .null, .null, .int 0] j := by
  intro j hj
  match j, hj with
  | 0, _ => rfl
  | 1, _ => rfl
  | 2, _ => rfl
  | 3, _ => rfl
  | 4, _ => rfl
  | 5, _ => rfl
  | 6, _ => rfl
  | j + 7, h => exact absurd h (by omega)
set_option maxRecDepth 20000 in
theorem iw_X4 : ∀ w ∈ u_ws RX4 TX4 8, w ∈ TB := mem_by _ [566, 568, 570, 572, 574, 576, 578, 580] (by decide +kernel) (by decide +kernel)
theorem nf_X4 : ∀ j, j < 8 → defaultValue (tyX4 j) = vp_V [.null, .null, .null, .int 0, .int 0, .int 0, .int 0, .int 0] j := by
  intro j hj
  match j, hj with
  | 0, _ => rfl
  | 1, _ => rfl
  | 2, _ => rfl
  | 3, _ => rfl
  | 4, _ => rfl
  | 5, _ => rfl
  | 6, _ => rfl
  | 7, _ => rfl
  | j + 8, h => exact absurd h (by omega)
set_option maxRecDepth 20000 in
theorem iw_X5 : ∀ w ∈ u_ws RX5 TX5 7, w ∈ TB := mem_by _ [378, 380, 382, 384, 386, 388, 390] (by decide +kernel) (by decide +kernel)
theorem nf_X5 : ∀ j, j < 7 → defaultValue (tyX5 j) = vp_V [.null, .null, .int 0, .int 0, .int 0, .int 0, .int 0] j := by
  intro j hj
  match j, hj with
  | 0, _ => rfl
  | 1, _ => rfl
  | 2, _ => rfl
  | 3, _ => rfl
  | 4, _ => rfl
  | 5, _ => rfl
  | 6, _ => rfl
  | j + 7, h => exact absurd h (by omega)
set_option maxRecDepth 20000 in
theorem iw_X6 : ∀ w ∈ u_ws RX6 TX6 6, w ∈ TB := mem_by _ [534, 536, 538, 540, 542, 544] (by decide +kernel) (by decide +kernel)
theorem nf_X6 : ∀ j, j < 6 → defaultValue (tyX6 j) = vp_V [.null, .null, .null, .int 0, .long 0, .long 0] j := by
  intro j hj
  match j, hj with
  | 0, _ => rfl
  | 1, _ => rfl
  | 2, _ => rfl
  | 3, _ => rfl
  | 4, _ => rfl
  | 5, _ => rfl
  | j + 6, h => exact absurd h (by omega)
set_option maxRecDepth 20000 in
theorem iw_X7 : ∀ w ∈ u_ws RX7 TX7 13, w ∈ TB := mem_by _ [444, 446, 448, 450, 452, 454, 456, 458, 460, 462, 464, 466, 468] (by decide +kernel) (by decide +kernel)
theorem nf_X7 : ∀ j, j < 13 → defaultValue (tyX7 j) = vp_V [.int 0, .int 0, .int 0, .int 0, .int 0, .long 0, .int 0, .int 0, .int 0, .int 0, .null, .null, .null] j := by
  intro j hj
  match j, hj with
  | 0, _ => rfl
  | 1, _ => rfl
  | 2, _ => rfl
  | 3, _ => rfl
  | 4, _ => rfl
  | 5, _ => rfl
  | 6, _ => rfl
  | 7, _ => rfl
  | 8, _ => rfl
  | 9, _ => rfl
  | 10, _ => rfl
  | 11, _ => rfl
  | 12, _ => rfl
  | j + 13, h => exact absurd h (by omega)
set_option maxRecDepth 20000 in
theorem iw_X8 : ∀ w ∈ u_ws RX8 TX8 2, w ∈ TB := mem_by _ [146, 148] (by decide +kernel) (by decide +kernel)
theorem nf_X8 : ∀ j, j < 2 → defaultValue (tyX8 j) = vp_V [.null, .int 0] j := by
  intro j hj
  match j, hj with
  | 0, _ => rfl
  | 1, _ => rfl
  | j + 2, h => exact absurd h (by omega)
set_option maxRecDepth 20000 in
theorem iw_X9 : ∀ w ∈ u_ws RX9 TX9 5, w ∈ TB := mem_by _ [360, 362, 364, 366, 368] (by decide +kernel) (by decide +kernel)
theorem nf_X9 : ∀ j, j < 5 → defaultValue (tyX9 j) = vp_V [.null, .null, .null, .null, .int 0] j := by
  intro j hj
  match j, hj with
  | 0, _ => rfl
  | 1, _ => rfl
  | 2, _ => rfl
  | 3, _ => rfl
  | 4, _ => rfl
  | j + 5, h => exact absurd h (by omega)
set_option maxRecDepth 20000 in
theorem iw_X10 : ∀ w ∈ u_ws RX10 TX10 20, w ∈ TB := mem_by _ [247, 249, 251, 253, 255, 257, 259, 261, 263, 265, 267, 269, 271, 273, 275, 277, 279, 281, 283, 285] (by decide +kernel) (by decide +kernel)
theorem nf_X10 : ∀ j, j < 20 → defaultValue (tyX10 j) = vp_V [.int 0, .int 0, .int 0, .int 0, .int 0, .int 0, .int 0, .int 0, .int 0, .long 0, .null, .null, .null, .null, .null, .null, .null, .null, .null, .null] j := by
  intro j hj
  match j, hj with
  | 0, _ => rfl
  | 1, _ => rfl
  | 2, _ => rfl
  | 3, _ => rfl
  | 4, _ => rfl
  | 5, _ => rfl
  | 6, _ => rfl
  | 7, _ => rfl
  | 8, _ => rfl
  | 9, _ => rfl
  | 10, _ => rfl
  | 11, _ => rfl
  | 12, _ => rfl
  | 13, _ => rfl
  | 14, _ => rfl
  | 15, _ => rfl
  | 16, _ => rfl
  | 17, _ => rfl
  | 18, _ => rfl
  | 19, _ => rfl
  | j + 20, h => exact absurd h (by omega)
set_option maxRecDepth 20000 in
theorem iw_X11 : ∀ w ∈ u_ws RX11 TX11 17, w ∈ TB := mem_by _ [674, 676, 678, 680, 682, 684, 686, 688, 690, 692, 694, 696, 698, 700, 702, 704, 706] (by decide +kernel) (by decide +kernel)
theorem nf_X11 : ∀ j, j < 17 → defaultValue (tyX11 j) = vp_V [.null, .int 0, .null, .null, .null, .null, .null, .null, .int 0, .int 0, .null, .null, .null, .null, .null, .null, .null] j := by
  intro j hj
  match j, hj with
  | 0, _ => rfl
  | 1, _ => rfl
  | 2, _ => rfl
  | 3, _ => rfl
  | 4, _ => rfl
  | 5, _ => rfl
  | 6, _ => rfl
  | 7, _ => rfl
  | 8, _ => rfl
  | 9, _ => rfl
  | 10, _ => rfl
  | 11, _ => rfl
  | 12, _ => rfl
  | 13, _ => rfl
  | 14, _ => rfl
  | 15, _ => rfl
  | 16, _ => rfl
  | j + 17, h => exact absurd h (by omega)
set_option maxRecDepth 20000 in
theorem iw_X12 : ∀ w ∈ u_ws RX12 TX12 69, w ∈ TB := mem_by _ [1443, 1445, 1447, 1449, 1451, 1453, 1455, 1457, 1459, 1461, 1463, 1465, 1467, 1469, 1471, 1473, 1475, 1477, 1479, 1481, 1483, 1485, 1487, 1489, 1491, 1493, 1495, 1497, 1499, 1501, 1503, 1505, 1507, 1509, 1511, 1513, 1515, 1517, 1519, 1521, 1523, 1525, 1527, 1529, 1531, 1533, 1535, 1537, 1539, 1541, 1543, 1545, 1547, 1549, 1551, 1553, 1555, 1557, 1559, 1561, 1563, 1565, 1567, 1569, 1571, 1573, 1575, 1577, 1579] (by decide +kernel) (by decide +kernel)
theorem nf_X12 : ∀ j, j < 69 → defaultValue (tyX12 j) = vp_V (.int 0 :: .null :: .int 0 :: .null :: .int 0 :: .null :: .null :: .null :: .null :: .null :: .int 0 :: .int 0 :: .int 0 :: .int 0 :: .int 0 :: .int 0 :: .int 0 :: .int 0 :: .int 0 :: .int 0 :: .int 0 :: .null :: .null :: .null :: .null :: .null :: .null :: .null :: .null :: .null :: .null :: .null :: .null :: .null :: .null :: .null :: .null :: .null :: .int 0 :: [.null, .null, .null, .null, .null, .null, .int 0, .null, .null, .int 0, .null, .null, .int 0, .int 0, .int 0, .null, .int 0, .null, .int 0, .null, .null, .null, .int 0, .null, .long 0, .int 0, .int 0, .null, .null, .null]) j := by
  intro j hj
  match j, hj with
  | 0, _ => rfl
  | 1, _ => rfl
  | 2, _ => rfl
  | 3, _ => rfl
  | 4, _ => rfl
  | 5, _ => rfl
  | 6, _ => rfl
  | 7, _ => rfl
  | 8, _ => rfl
  | 9, _ => rfl
  | 10, _ => rfl
  | 11, _ => rfl
  | 12, _ => rfl
  | 13, _ => rfl
  | 14, _ => rfl
  | 15, _ => rfl
  | 16, _ => rfl
  | 17, _ => rfl
  | 18, _ => rfl
  | 19, _ => rfl
  | 20, _ => rfl
  | 21, _ => rfl
  | 22, _ => rfl
  | 23, _ => rfl
  | 24, _ => rfl
  | 25, _ => rfl
  | 26, _ => rfl
  | 27, _ => rfl
  | 28, _ => rfl
  | 29, _ => rfl
  | 30, _ => rfl
  | 31, _ => rfl
  | 32, _ => rfl
  | 33, _ => rfl
  | 34, _ => rfl
  | 35, _ => rfl
  | 36, _ => rfl
  | 37, _ => rfl
  | 38, _ => rfl
  | 39, _ => rfl
  | 40, _ => rfl
  | 41, _ => rfl
  | 42, _ => rfl
  | 43, _ => rfl
  | 44, _ => rfl
  | 45, _ => rfl
  | 46, _ => rfl
  | 47, _ => rfl
  | 48, _ => rfl
  | 49, _ => rfl
  | 50, _ => rfl
  | 51, _ => rfl
  | 52, _ => rfl
  | 53, _ => rfl
  | 54, _ => rfl
  | 55, _ => rfl
  | 56, _ => rfl
  | 57, _ => rfl
  | 58, _ => rfl
  | 59, _ => rfl
  | 60, _ => rfl
  | 61, _ => rfl
  | 62, _ => rfl
  | 63, _ => rfl
  | 64, _ => rfl
  | 65, _ => rfl
  | 66, _ => rfl
  | 67, _ => rfl
  | 68, _ => rfl
  | j + 69, h => exact absurd h (by omega)
theorem tb_0 : Cond.selects "LieClock$Tokens" ⟨"LieClock$Tokens", "cutOne", "(LLieClock$Tape;I)I"⟩ ⟨"LieClock$Tokens", "cutOne", "(LLieClock$Tape;I)I"⟩ ∈ TB := TB_of 0 (by decide +kernel) (by decide +kernel)
theorem tb_1 : Cond.selects "LieClock$Tokens" ⟨"LieClock$Tokens", "cutLetters", "(LLieClock$Tape;I)I"⟩ ⟨"LieClock$Tokens", "cutLetters", "(LLieClock$Tape;I)I"⟩ ∈ TB := TB_of 1 (by decide +kernel) (by decide +kernel)
theorem tb_2 : Cond.selects "LieClock$Tokens" ⟨"LieClock$Tokens", "kindOf", "(J)I"⟩ ⟨"LieClock$Tokens", "kindOf", "(J)I"⟩ ∈ TB := TB_of 2 (by decide +kernel) (by decide +kernel)
theorem tb_3 : Cond.selects "LieClock$Tokens" ⟨"LieClock$Tokens", "add", "(IIJ)V"⟩ ⟨"LieClock$Tokens", "add", "(IIJ)V"⟩ ∈ TB := TB_of 3 (by decide +kernel) (by decide +kernel)
theorem tb_4 : Cond.selects "LieClock$Tokens" ⟨"LieClock$Tokens", "cutDigits", "(LLieClock$Tape;I)I"⟩ ⟨"LieClock$Tokens", "cutDigits", "(LLieClock$Tape;I)I"⟩ ∈ TB := TB_of 4 (by decide +kernel) (by decide +kernel)
theorem tb_5 : Cond.selects "LieClock$Parser" ⟨"LieClock$Parser", "tellFact", "()V"⟩ ⟨"LieClock$Parser", "tellFact", "()V"⟩ ∈ TB := TB_of 5 (by decide +kernel) (by decide +kernel)
theorem tb_6 : Cond.selects "LieClock$Parser" ⟨"LieClock$Parser", "begin", "(II)V"⟩ ⟨"LieClock$Parser", "begin", "(II)V"⟩ ∈ TB := TB_of 6 (by decide +kernel) (by decide +kernel)
theorem tb_7 : Cond.selects "LieClock$Parser" ⟨"LieClock$Parser", "fail", "(I)V"⟩ ⟨"LieClock$Parser", "fail", "(I)V"⟩ ∈ TB := TB_of 7 (by decide +kernel) (by decide +kernel)
theorem tb_8 : Cond.selects "LieClock$Parser" ⟨"LieClock$Parser", "accept", "(I)Z"⟩ ⟨"LieClock$Parser", "accept", "(I)Z"⟩ ∈ TB := TB_of 8 (by decide +kernel) (by decide +kernel)
theorem tb_9 : Cond.selects "LieClock$Parser" ⟨"LieClock$Parser", "takeNewName", "()J"⟩ ⟨"LieClock$Parser", "takeNewName", "()J"⟩ ∈ TB := TB_of 9 (by decide +kernel) (by decide +kernel)
theorem tb_10 : Cond.selects "LieClock$Parser" ⟨"LieClock$Parser", "take", "(I)J"⟩ ⟨"LieClock$Parser", "take", "(I)J"⟩ ∈ TB := TB_of 10 (by decide +kernel) (by decide +kernel)
theorem tb_11 : Cond.selects "LieClock$Parser" ⟨"LieClock$Parser", "failSoftly", "(I)V"⟩ ⟨"LieClock$Parser", "failSoftly", "(I)V"⟩ ∈ TB := TB_of 11 (by decide +kernel) (by decide +kernel)
theorem tb_12 : Cond.selects "LieClock$Parser" ⟨"LieClock$Parser", "expect", "(I)V"⟩ ⟨"LieClock$Parser", "expect", "(I)V"⟩ ∈ TB := TB_of 12 (by decide +kernel) (by decide +kernel)
theorem tb_13 : Cond.selects "LieClock$Parser" ⟨"LieClock$Parser", "tellWitness", "()V"⟩ ⟨"LieClock$Parser", "tellWitness", "()V"⟩ ∈ TB := TB_of 13 (by decide +kernel) (by decide +kernel)
theorem tb_14 : Cond.selects "LieClock$Parser" ⟨"LieClock$Parser", "tellWord", "()V"⟩ ⟨"LieClock$Parser", "tellWord", "()V"⟩ ∈ TB := TB_of 14 (by decide +kernel) (by decide +kernel)
theorem tb_15 : Cond.selects "LieClock$Parser" ⟨"LieClock$Parser", "cond", "(I)J"⟩ ⟨"LieClock$Parser", "cond", "(I)J"⟩ ∈ TB := TB_of 15 (by decide +kernel) (by decide +kernel)
theorem tb_16 : Cond.selects "LieClock$Parser" ⟨"LieClock$Parser", "all", "(I)J"⟩ ⟨"LieClock$Parser", "all", "(I)J"⟩ ∈ TB := TB_of 16 (by decide +kernel) (by decide +kernel)
theorem tb_17 : Cond.selects "LieClock$Parser" ⟨"LieClock$Parser", "literal", "(I)J"⟩ ⟨"LieClock$Parser", "literal", "(I)J"⟩ ∈ TB := TB_of 17 (by decide +kernel) (by decide +kernel)
theorem tb_18 : Cond.selects "LieClock$Parser" ⟨"LieClock$Parser", "enter", "(I)Z"⟩ ⟨"LieClock$Parser", "enter", "(I)Z"⟩ ∈ TB := TB_of 18 (by decide +kernel) (by decide +kernel)
theorem tb_19 : Cond.selects "LieClock$Parser" ⟨"LieClock$Parser", "tellCase", "()V"⟩ ⟨"LieClock$Parser", "tellCase", "()V"⟩ ∈ TB := TB_of 19 (by decide +kernel) (by decide +kernel)
theorem tb_20 : Cond.selects "LieClock$Parser" ⟨"LieClock$Parser", "takeMinute", "()I"⟩ ⟨"LieClock$Parser", "takeMinute", "()I"⟩ ∈ TB := TB_of 20 (by decide +kernel) (by decide +kernel)
theorem tb_21 : Cond.selects "LieClock$Parser" ⟨"LieClock$Parser", "tellLaw", "(LLieClock$Law;)V"⟩ ⟨"LieClock$Parser", "tellLaw", "(LLieClock$Law;)V"⟩ ∈ TB := TB_of 21 (by decide +kernel) (by decide +kernel)
theorem tb_22 : Cond.selects "LieClock$Parser" ⟨"LieClock$Parser", "sum", "(LLieClock$Law;I)V"⟩ ⟨"LieClock$Parser", "sum", "(LLieClock$Law;I)V"⟩ ∈ TB := TB_of 22 (by decide +kernel) (by decide +kernel)
theorem tb_23 : Cond.selects "LieClock$Parser" ⟨"LieClock$Parser", "product", "(LLieClock$Law;I)V"⟩ ⟨"LieClock$Parser", "product", "(LLieClock$Law;I)V"⟩ ∈ TB := TB_of 23 (by decide +kernel) (by decide +kernel)
theorem tb_24 : Cond.selects "LieClock$Parser" ⟨"LieClock$Parser", "unit", "(LLieClock$Law;I)V"⟩ ⟨"LieClock$Parser", "unit", "(LLieClock$Law;I)V"⟩ ∈ TB := TB_of 24 (by decide +kernel) (by decide +kernel)
theorem tb_25 : Cond.selects "LieClock$Parser" ⟨"LieClock$Parser", "tellClock", "()V"⟩ ⟨"LieClock$Parser", "tellClock", "()V"⟩ ∈ TB := TB_of 25 (by decide +kernel) (by decide +kernel)
theorem tb_26 : Cond.selects "LieClock" ⟨"LieClock", "forgetSearches", "()V"⟩ ⟨"LieClock", "forgetSearches", "()V"⟩ ∈ TB := TB_of 26 (by decide +kernel) (by decide +kernel)
theorem tb_27 : Cond.selects "LieClock" ⟨"LieClock", "keepForUndo", "()V"⟩ ⟨"LieClock", "keepForUndo", "()V"⟩ ∈ TB := TB_of 27 (by decide +kernel) (by decide +kernel)
theorem tb_28 : Cond.selects "LieClock$State" ⟨"LieClock$State", "hear", "(LLieClock$Told;I)V"⟩ ⟨"LieClock$State", "hear", "(LLieClock$Told;I)V"⟩ ∈ TB := TB_of 28 (by decide +kernel) (by decide +kernel)
theorem tb_29 : Cond.selects "LieClock$Law" ⟨"LieClock$Law", "push", "(I)V"⟩ ⟨"LieClock$Law", "push", "(I)V"⟩ ∈ TB := TB_of 29 (by decide +kernel) (by decide +kernel)
theorem tb_30 : Cond.selects "LieClock$Law" ⟨"LieClock$Law", "operate", "(I)V"⟩ ⟨"LieClock$Law", "operate", "(I)V"⟩ ∈ TB := TB_of 30 (by decide +kernel) (by decide +kernel)
theorem tb_31 : Cond.selects "LieClock$State" ⟨"LieClock$State", "examine", "(LLieClock$Told;I)I"⟩ ⟨"LieClock$State", "examine", "(LLieClock$Told;I)I"⟩ ∈ TB := TB_of 31 (by decide +kernel) (by decide +kernel)
theorem tb_32 : Cond.selects "LieClock" ⟨"LieClock", "areTwoCases", "(II)Z"⟩ ⟨"LieClock", "areTwoCases", "(II)Z"⟩ ∈ TB := TB_of 32 (by decide +kernel) (by decide +kernel)
theorem tb_38 : Cond.selects "LieClock" ⟨"LieClock", "canBeOrdered", "(I)Z"⟩ ⟨"LieClock", "canBeOrdered", "(I)Z"⟩ ∈ TB := TB_of 38 (by decide +kernel) (by decide +kernel)
theorem tb_39 : Cond.selects "LieClock$Orders" ⟨"LieClock$Orders", "extend", "(LLieClock$Told;II)V"⟩ ⟨"LieClock$Orders", "extend", "(LLieClock$Told;II)V"⟩ ∈ TB := TB_of 39 (by decide +kernel) (by decide +kernel)
theorem tb_40 : Cond.selects "LieClock$Orders" ⟨"LieClock$Orders", "judge", "(I)V"⟩ ⟨"LieClock$Orders", "judge", "(I)V"⟩ ∈ TB := TB_of 40 (by decide +kernel) (by decide +kernel)
theorem tb_41 : Cond.selects "LieClock$Orders" ⟨"LieClock$Orders", "avoids", "(LLieClock$Told;III)Z"⟩ ⟨"LieClock$Orders", "avoids", "(LLieClock$Told;III)Z"⟩ ∈ TB := TB_of 41 (by decide +kernel) (by decide +kernel)
theorem tb_42 : Cond.selects "LieClock$Sets" ⟨"LieClock$Sets", "add", "(IJ)V"⟩ ⟨"LieClock$Sets", "add", "(IJ)V"⟩ ∈ TB := TB_of 42 (by decide +kernel) (by decide +kernel)
theorem tb_43 : Cond.selects "LieClock$Sets" ⟨"LieClock$Sets", "isEnough", "(J)Z"⟩ ⟨"LieClock$Sets", "isEnough", "(J)Z"⟩ ∈ TB := TB_of 43 (by decide +kernel) (by decide +kernel)
theorem tb_44 : Cond.selects "LieClock$Sets" ⟨"LieClock$Sets", "pick", "(IIJ)I"⟩ ⟨"LieClock$Sets", "pick", "(IIJ)I"⟩ ∈ TB := TB_of 44 (by decide +kernel) (by decide +kernel)
theorem tb_46 : Cond.selects "LieClock" ⟨"LieClock", "heldSlots", "()I"⟩ ⟨"LieClock", "heldSlots", "()I"⟩ ∈ TB := TB_of 46 (by decide +kernel) (by decide +kernel)
theorem tb_105 : (Jvm.Cond.initialized "LieClock") ∈ TB := TB_of 105 (by decide +kernel) (by decide +kernel)
theorem tb_106 : (Jvm.Cond.initialized "LieClock$Tape") ∈ TB := TB_of 106 (by decide +kernel) (by decide +kernel)
theorem tb_107 : (Jvm.Cond.initialized "LieClock$Told") ∈ TB := TB_of 107 (by decide +kernel) (by decide +kernel)
theorem tb_108 : (Jvm.Cond.initialized "LieClock$Law") ∈ TB := TB_of 108 (by decide +kernel) (by decide +kernel)
theorem tb_109 : (Jvm.Cond.initialized "LieClock$Parser") ∈ TB := TB_of 109 (by decide +kernel) (by decide +kernel)
theorem tb_110 : (Jvm.Cond.initialized "LieClock$Tokens") ∈ TB := TB_of 110 (by decide +kernel) (by decide +kernel)
theorem tb_111 : (Jvm.Cond.initialized "java/lang/String") ∈ TB := TB_of 111 (by decide +kernel) (by decide +kernel)
theorem tb_112 : (Jvm.Cond.initialized "java/lang/StringLatin1") ∈ TB := TB_of 112 (by decide +kernel) (by decide +kernel)
theorem tb_115 : (Jvm.Cond.initialized "LieClock$State") ∈ TB := TB_of 115 (by decide +kernel) (by decide +kernel)
theorem tb_116 : (Jvm.Cond.initialized "java/util/Arrays") ∈ TB := TB_of 116 (by decide +kernel) (by decide +kernel)
theorem tb_118 : (Jvm.Cond.initialized "LieClock$Sets") ∈ TB := TB_of 118 (by decide +kernel) (by decide +kernel)
theorem tb_119 : (Jvm.Cond.initialized "LieClock$Orders") ∈ TB := TB_of 119 (by decide +kernel) (by decide +kernel)
theorem tb_121 : (Jvm.Cond.initialized "LieClock$Book") ∈ TB := TB_of 121 (by decide +kernel) (by decide +kernel)
theorem tb_123 : (Jvm.Cond.initialized "java/lang/Math") ∈ TB := TB_of 123 (by decide +kernel) (by decide +kernel)
theorem tb_125 : (Jvm.Cond.initialized "java/lang/Long") ∈ TB := TB_of 125 (by decide +kernel) (by decide +kernel)
theorem tb_126 : (Jvm.Cond.initialized "java/lang/Integer") ∈ TB := TB_of 126 (by decide +kernel) (by decide +kernel)
theorem tb_127 : (Jvm.Cond.initialized "java/lang/System") ∈ TB := TB_of 127 (by decide +kernel) (by decide +kernel)
theorem tb_142 : (Jvm.Cond.fieldLink "LieClock$Tape" (9 : Nat) "LieClock$Tape" "bytes" "[B") ∈ TB := TB_of 142 (by decide +kernel) (by decide +kernel)
theorem tb_144 : (Jvm.Cond.fieldLink "LieClock$Tape" (15 : Nat) "LieClock$Tape" "length" "I") ∈ TB := TB_of 144 (by decide +kernel) (by decide +kernel)
theorem tb_164 : (Jvm.Cond.fieldLink "LieClock$Law" (9 : Nat) "LieClock$Law" "code" "[I") ∈ TB := TB_of 164 (by decide +kernel) (by decide +kernel)
theorem tb_165 : (Jvm.Cond.fieldLink "LieClock$Law" (15 : Nat) "LieClock$Law" "stack" "[I") ∈ TB := TB_of 165 (by decide +kernel) (by decide +kernel)
theorem tb_166 : (Jvm.Cond.fieldLink "LieClock$Law" (18 : Nat) "LieClock$Law" "length" "I") ∈ TB := TB_of 166 (by decide +kernel) (by decide +kernel)
theorem tb_168 : (Jvm.Cond.fieldLink "LieClock$Law" (22 : Nat) "LieClock$Law" "top" "I") ∈ TB := TB_of 168 (by decide +kernel) (by decide +kernel)
theorem tb_169 : (Jvm.Cond.fieldLink "LieClock$Law" (25 : Nat) "LieClock$Law" "dividedByZero" "Z") ∈ TB := TB_of 169 (by decide +kernel) (by decide +kernel)
theorem tb_183 : (Jvm.Cond.fieldLink "LieClock$Told" (47 : Nat) "LieClock$Told" "facts" "I") ∈ TB := TB_of 183 (by decide +kernel) (by decide +kernel)
theorem tb_188 : (Jvm.Cond.fieldLink "LieClock$Told" (51 : Nat) "LieClock$Told" "truths" "I") ∈ TB := TB_of 188 (by decide +kernel) (by decide +kernel)
theorem tb_190 : (Jvm.Cond.fieldLink "LieClock$Told" (54 : Nat) "LieClock$Told" "opens" "I") ∈ TB := TB_of 190 (by decide +kernel) (by decide +kernel)
theorem tb_192 : (Jvm.Cond.fieldLink "LieClock$Told" (57 : Nat) "LieClock$Told" "witnesses" "I") ∈ TB := TB_of 192 (by decide +kernel) (by decide +kernel)
theorem tb_198 : (Jvm.Cond.fieldLink "LieClock$Told" (60 : Nat) "LieClock$Told" "words" "I") ∈ TB := TB_of 198 (by decide +kernel) (by decide +kernel)
theorem tb_205 : (Jvm.Cond.fieldLink "LieClock$Told" (63 : Nat) "LieClock$Told" "selfs" "I") ∈ TB := TB_of 205 (by decide +kernel) (by decide +kernel)
theorem tb_208 : (Jvm.Cond.fieldLink "LieClock$Told" (66 : Nat) "LieClock$Told" "trueWords" "I") ∈ TB := TB_of 208 (by decide +kernel) (by decide +kernel)
theorem tb_212 : (Jvm.Cond.fieldLink "LieClock$Told" (69 : Nat) "LieClock$Told" "cases" "I") ∈ TB := TB_of 212 (by decide +kernel) (by decide +kernel)
theorem tb_217 : (Jvm.Cond.fieldLink "LieClock$Told" (72 : Nat) "LieClock$Told" "begin" "I") ∈ TB := TB_of 217 (by decide +kernel) (by decide +kernel)
theorem tb_220 : (Jvm.Cond.fieldLink "LieClock$Told" (80 : Nat) "LieClock$Told" "everything" "J") ∈ TB := TB_of 220 (by decide +kernel) (by decide +kernel)
theorem tb_222 : (Jvm.Cond.fieldLink "LieClock$Told" (9 : Nat) "LieClock$Told" "factNames" "[J") ∈ TB := TB_of 222 (by decide +kernel) (by decide +kernel)
theorem tb_223 : (Jvm.Cond.fieldLink "LieClock$Told" (15 : Nat) "LieClock$Told" "witnessNames" "[J") ∈ TB := TB_of 223 (by decide +kernel) (by decide +kernel)
theorem tb_224 : (Jvm.Cond.fieldLink "LieClock$Told" (18 : Nat) "LieClock$Told" "wordsOf" "[I") ∈ TB := TB_of 224 (by decide +kernel) (by decide +kernel)
theorem tb_227 : (Jvm.Cond.fieldLink "LieClock$Told" (22 : Nat) "LieClock$Told" "teller" "[I") ∈ TB := TB_of 227 (by decide +kernel) (by decide +kernel)
theorem tb_230 : (Jvm.Cond.fieldLink "LieClock$Told" (25 : Nat) "LieClock$Told" "holds" "[J") ∈ TB := TB_of 230 (by decide +kernel) (by decide +kernel)
theorem tb_233 : (Jvm.Cond.fieldLink "LieClock$Told" (28 : Nat) "LieClock$Told" "caseNames" "[J") ∈ TB := TB_of 233 (by decide +kernel) (by decide +kernel)
theorem tb_234 : (Jvm.Cond.fieldLink "LieClock$Told" (31 : Nat) "LieClock$Told" "due" "[I") ∈ TB := TB_of 234 (by decide +kernel) (by decide +kernel)
theorem tb_238 : (Jvm.Cond.fieldLink "LieClock$Told" (34 : Nat) "LieClock$Told" "guilt" "[J") ∈ TB := TB_of 238 (by decide +kernel) (by decide +kernel)
theorem tb_241 : (Jvm.Cond.fieldLink "LieClock$Told" (40 : Nat) "LieClock$Told" "back" "LLieClock$Law;") ∈ TB := TB_of 241 (by decide +kernel) (by decide +kernel)
theorem tb_244 : (Jvm.Cond.fieldLink "LieClock$Told" (44 : Nat) "LieClock$Told" "forth" "LLieClock$Law;") ∈ TB := TB_of 244 (by decide +kernel) (by decide +kernel)
theorem tb_302 : (Jvm.Cond.instanceMethod ({ cls := "java/lang/String", name := "length", desc := "()I" } : Jvm.MethodName)) ∈ TB := TB_of 302 (by decide +kernel) (by decide +kernel)
theorem tb_303 : (Jvm.Cond.selects "java/lang/String" ({ cls := "java/lang/String", name := "length", desc := "()I" } : Jvm.MethodName) ({ cls := "java/lang/String", name := "length", desc := "()I" } : Jvm.MethodName)) ∈ TB := TB_of 303 (by decide +kernel) (by decide +kernel)
theorem tb_305 : (Jvm.Cond.methodLink "java/lang/String" (335 : Nat) ({ cls := "java/lang/String", name := "coder", desc := "()B" } : Jvm.MethodName)) ∈ TB := TB_of 305 (by decide +kernel) (by decide +kernel)
theorem tb_306 : (Jvm.Cond.instanceMethod ({ cls := "java/lang/String", name := "coder", desc := "()B" } : Jvm.MethodName)) ∈ TB := TB_of 306 (by decide +kernel) (by decide +kernel)
theorem tb_307 : (Jvm.Cond.selects "java/lang/String" ({ cls := "java/lang/String", name := "coder", desc := "()B" } : Jvm.MethodName) ({ cls := "java/lang/String", name := "coder", desc := "()B" } : Jvm.MethodName)) ∈ TB := TB_of 307 (by decide +kernel) (by decide +kernel)
theorem tb_309 : (Jvm.Cond.fieldLink "java/lang/String" (38 : Nat) "java/lang/String" "COMPACT_STRINGS" "Z") ∈ TB := TB_of 309 (by decide +kernel) (by decide +kernel)
theorem tb_315 : (Jvm.Cond.methodLink "java/lang/String" (492 : Nat) ({ cls := "java/lang/String", name := "isLatin1", desc := "()Z" } : Jvm.MethodName)) ∈ TB := TB_of 315 (by decide +kernel) (by decide +kernel)
theorem tb_316 : (Jvm.Cond.instanceMethod ({ cls := "java/lang/String", name := "isLatin1", desc := "()Z" } : Jvm.MethodName)) ∈ TB := TB_of 316 (by decide +kernel) (by decide +kernel)
theorem tb_317 : (Jvm.Cond.selects "java/lang/String" ({ cls := "java/lang/String", name := "isLatin1", desc := "()Z" } : Jvm.MethodName) ({ cls := "java/lang/String", name := "isLatin1", desc := "()Z" } : Jvm.MethodName)) ∈ TB := TB_of 317 (by decide +kernel) (by decide +kernel)
theorem tb_349 : (Jvm.Cond.methodLink "LieClock$Tokens" (37 : Nat) ({ cls := "LieClock$Tokens", name := "withLetter", desc := "(JI)J" } : Jvm.MethodName)) ∈ TB := TB_of 349 (by decide +kernel) (by decide +kernel)
theorem tb_350 : (Jvm.Cond.static ({ cls := "LieClock$Tokens", name := "withLetter", desc := "(JI)J" } : Jvm.MethodName)) ∈ TB := TB_of 350 (by decide +kernel) (by decide +kernel)
theorem tb_352 : (Jvm.Cond.constantLong "LieClock$Tokens" (93 : Nat) (32 : Int64)) ∈ TB := TB_of 352 (by decide +kernel) (by decide +kernel)
theorem tb_353 : (Jvm.Cond.fieldLink "LieClock$Tokens" (9 : Nat) "LieClock$Tokens" "kinds" "[I") ∈ TB := TB_of 353 (by decide +kernel) (by decide +kernel)
theorem tb_355 : (Jvm.Cond.fieldLink "LieClock$Tokens" (15 : Nat) "LieClock$Tokens" "places" "[I") ∈ TB := TB_of 355 (by decide +kernel) (by decide +kernel)
theorem tb_356 : (Jvm.Cond.fieldLink "LieClock$Tokens" (18 : Nat) "LieClock$Tokens" "values" "[J") ∈ TB := TB_of 356 (by decide +kernel) (by decide +kernel)
theorem tb_358 : (Jvm.Cond.fieldLink "LieClock$Tokens" (22 : Nat) "LieClock$Tokens" "keys" "[J") ∈ TB := TB_of 358 (by decide +kernel) (by decide +kernel)
theorem tb_359 : (Jvm.Cond.fieldLink "LieClock$Tokens" (41 : Nat) "LieClock$Tokens" "size" "I") ∈ TB := TB_of 359 (by decide +kernel) (by decide +kernel)
theorem tb_371 : (Jvm.Cond.fieldLink "LieClock$Parser" (12 : Nat) "LieClock$Parser" "tokens" "LLieClock$Tokens;") ∈ TB := TB_of 371 (by decide +kernel) (by decide +kernel)
theorem tb_372 : (Jvm.Cond.fieldLink "LieClock$Parser" (18 : Nat) "LieClock$Parser" "into" "LLieClock$Told;") ∈ TB := TB_of 372 (by decide +kernel) (by decide +kernel)
theorem tb_373 : (Jvm.Cond.fieldLink "LieClock$Parser" (31 : Nat) "LieClock$Parser" "at" "I") ∈ TB := TB_of 373 (by decide +kernel) (by decide +kernel)
theorem tb_374 : (Jvm.Cond.fieldLink "LieClock$Parser" (39 : Nat) "LieClock$Parser" "kind" "I") ∈ TB := TB_of 374 (by decide +kernel) (by decide +kernel)
theorem tb_375 : (Jvm.Cond.fieldLink "LieClock$Parser" (42 : Nat) "LieClock$Parser" "fault" "I") ∈ TB := TB_of 375 (by decide +kernel) (by decide +kernel)
theorem tb_376 : (Jvm.Cond.fieldLink "LieClock$Parser" (45 : Nat) "LieClock$Parser" "softFault" "I") ∈ TB := TB_of 376 (by decide +kernel) (by decide +kernel)
theorem tb_377 : (Jvm.Cond.fieldLink "LieClock$Parser" (85 : Nat) "LieClock$Parser" "softPlace" "I") ∈ TB := TB_of 377 (by decide +kernel) (by decide +kernel)
theorem tb_394 : (Jvm.Cond.instanceMethod ({ cls := "LieClock$Told", name := "finish", desc := "()V" } : Jvm.MethodName)) ∈ TB := TB_of 394 (by decide +kernel) (by decide +kernel)
theorem tb_395 : (Jvm.Cond.selects "LieClock$Told" ({ cls := "LieClock$Told", name := "finish", desc := "()V" } : Jvm.MethodName) ({ cls := "LieClock$Told", name := "finish", desc := "()V" } : Jvm.MethodName)) ∈ TB := TB_of 395 (by decide +kernel) (by decide +kernel)
theorem tb_397 : (Jvm.Cond.constantLong "LieClock$Told" (78 : Nat) (-1 : Int64)) ∈ TB := TB_of 397 (by decide +kernel) (by decide +kernel)
theorem tb_398 : (Jvm.Cond.methodLink "LieClock$Told" (84 : Nat) ({ cls := "LieClock$Told", name := "tellOnce", desc := "(LLieClock$Law;)V" } : Jvm.MethodName)) ∈ TB := TB_of 398 (by decide +kernel) (by decide +kernel)
theorem tb_399 : (Jvm.Cond.static ({ cls := "LieClock$Told", name := "tellOnce", desc := "(LLieClock$Law;)V" } : Jvm.MethodName)) ∈ TB := TB_of 399 (by decide +kernel) (by decide +kernel)
theorem tb_401 : (Jvm.Cond.methodLink "LieClock$Told" (91 : Nat) ({ cls := "LieClock$Law", name := "add", desc := "(I)V" } : Jvm.MethodName)) ∈ TB := TB_of 401 (by decide +kernel) (by decide +kernel)
theorem tb_402 : (Jvm.Cond.instanceMethod ({ cls := "LieClock$Law", name := "add", desc := "(I)V" } : Jvm.MethodName)) ∈ TB := TB_of 402 (by decide +kernel) (by decide +kernel)
theorem tb_403 : (Jvm.Cond.selects "LieClock$Law" ({ cls := "LieClock$Law", name := "add", desc := "(I)V" } : Jvm.MethodName) ({ cls := "LieClock$Law", name := "add", desc := "(I)V" } : Jvm.MethodName)) ∈ TB := TB_of 403 (by decide +kernel) (by decide +kernel)
theorem tb_411 : (Jvm.Cond.fieldLink "LieClock$State" (31 : Nat) "LieClock$State" "clock" "I") ∈ TB := TB_of 411 (by decide +kernel) (by decide +kernel)
theorem tb_416 : (Jvm.Cond.fieldLink "LieClock$State" (34 : Nat) "LieClock$State" "said" "I") ∈ TB := TB_of 416 (by decide +kernel) (by decide +kernel)
theorem tb_420 : (Jvm.Cond.fieldLink "LieClock$State" (37 : Nat) "LieClock$State" "caught" "I") ∈ TB := TB_of 420 (by decide +kernel) (by decide +kernel)
theorem tb_424 : (Jvm.Cond.fieldLink "LieClock$State" (43 : Nat) "LieClock$State" "open" "I") ∈ TB := TB_of 424 (by decide +kernel) (by decide +kernel)
theorem tb_426 : (Jvm.Cond.fieldLink "LieClock$State" (46 : Nat) "LieClock$State" "heard" "I") ∈ TB := TB_of 426 (by decide +kernel) (by decide +kernel)
theorem tb_429 : (Jvm.Cond.fieldLink "LieClock$State" (53 : Nat) "LieClock$State" "may" "J") ∈ TB := TB_of 429 (by decide +kernel) (by decide +kernel)
theorem tb_432 : (Jvm.Cond.fieldLink "LieClock$State" (134 : Nat) "LieClock$State" "met" "I") ∈ TB := TB_of 432 (by decide +kernel) (by decide +kernel)
theorem tb_434 : (Jvm.Cond.fieldLink "LieClock$State" (131 : Nat) "LieClock$State" "watched" "I") ∈ TB := TB_of 434 (by decide +kernel) (by decide +kernel)
theorem tb_436 : (Jvm.Cond.fieldLink "LieClock$State" (128 : Nat) "LieClock$State" "came" "Z") ∈ TB := TB_of 436 (by decide +kernel) (by decide +kernel)
theorem tb_437 : (Jvm.Cond.fieldLink "LieClock$State" (21 : Nat) "LieClock$State" "records" "Z") ∈ TB := TB_of 437 (by decide +kernel) (by decide +kernel)
theorem tb_438 : (Jvm.Cond.fieldLink "LieClock$State" (9 : Nat) "LieClock$State" "times" "[I") ∈ TB := TB_of 438 (by decide +kernel) (by decide +kernel)
theorem tb_440 : (Jvm.Cond.fieldLink "LieClock$State" (15 : Nat) "LieClock$State" "verdicts" "[I") ∈ TB := TB_of 440 (by decide +kernel) (by decide +kernel)
theorem tb_442 : (Jvm.Cond.fieldLink "LieClock$State" (18 : Nat) "LieClock$State" "shares" "[I") ∈ TB := TB_of 442 (by decide +kernel) (by decide +kernel)
theorem tb_471 : (Jvm.Cond.methodLink "LieClock" (51 : Nat) ({ cls := "LieClock$State", name := "begin", desc := "(LLieClock$Told;)V" } : Jvm.MethodName)) ∈ TB := TB_of 471 (by decide +kernel) (by decide +kernel)
theorem tb_472 : (Jvm.Cond.instanceMethod ({ cls := "LieClock$State", name := "begin", desc := "(LLieClock$Told;)V" } : Jvm.MethodName)) ∈ TB := TB_of 472 (by decide +kernel) (by decide +kernel)
theorem tb_473 : (Jvm.Cond.selects "LieClock$State" ({ cls := "LieClock$State", name := "begin", desc := "(LLieClock$Told;)V" } : Jvm.MethodName) ({ cls := "LieClock$State", name := "begin", desc := "(LLieClock$Told;)V" } : Jvm.MethodName)) ∈ TB := TB_of 473 (by decide +kernel) (by decide +kernel)
theorem tb_475 : (Jvm.Cond.methodLink "LieClock$State" (59 : Nat) ({ cls := "LieClock$Told", name := "asItIs", desc := "(I)J" } : Jvm.MethodName)) ∈ TB := TB_of 475 (by decide +kernel) (by decide +kernel)
theorem tb_476 : (Jvm.Cond.instanceMethod ({ cls := "LieClock$Told", name := "asItIs", desc := "(I)J" } : Jvm.MethodName)) ∈ TB := TB_of 476 (by decide +kernel) (by decide +kernel)
theorem tb_477 : (Jvm.Cond.selects "LieClock$Told" ({ cls := "LieClock$Told", name := "asItIs", desc := "(I)J" } : Jvm.MethodName) ({ cls := "LieClock$Told", name := "asItIs", desc := "(I)J" } : Jvm.MethodName)) ∈ TB := TB_of 477 (by decide +kernel) (by decide +kernel)
theorem tb_481 : (Jvm.Cond.methodLink "LieClock$State" (63 : Nat) ({ cls := "java/util/Arrays", name := "fill", desc := "([II)V" } : Jvm.MethodName)) ∈ TB := TB_of 481 (by decide +kernel) (by decide +kernel)
theorem tb_482 : (Jvm.Cond.static ({ cls := "java/util/Arrays", name := "fill", desc := "([II)V" } : Jvm.MethodName)) ∈ TB := TB_of 482 (by decide +kernel) (by decide +kernel)
theorem tb_502 : (Jvm.Cond.fieldLink "LieClock$Nodes" (28 : Nat) "LieClock$Nodes" "table" "[I") ∈ TB := TB_of 502 (by decide +kernel) (by decide +kernel)
theorem tb_503 : (Jvm.Cond.fieldLink "LieClock$Nodes" (31 : Nat) "LieClock$Nodes" "size" "I") ∈ TB := TB_of 503 (by decide +kernel) (by decide +kernel)
theorem tb_528 : (Jvm.Cond.fieldLink "LieClock$Sets" (9 : Nat) "LieClock$Sets" "leaves" "[J") ∈ TB := TB_of 528 (by decide +kernel) (by decide +kernel)
theorem tb_529 : (Jvm.Cond.fieldLink "LieClock$Sets" (15 : Nat) "LieClock$Sets" "numbers" "[I") ∈ TB := TB_of 529 (by decide +kernel) (by decide +kernel)
theorem tb_530 : (Jvm.Cond.fieldLink "LieClock$Sets" (19 : Nat) "LieClock$Sets" "below" "[J") ∈ TB := TB_of 530 (by decide +kernel) (by decide +kernel)
theorem tb_531 : (Jvm.Cond.fieldLink "LieClock$Sets" (22 : Nat) "LieClock$Sets" "size" "I") ∈ TB := TB_of 531 (by decide +kernel) (by decide +kernel)
theorem tb_532 : (Jvm.Cond.fieldLink "LieClock$Sets" (45 : Nat) "LieClock$Sets" "first" "J") ∈ TB := TB_of 532 (by decide +kernel) (by decide +kernel)
theorem tb_533 : (Jvm.Cond.fieldLink "LieClock$Sets" (49 : Nat) "LieClock$Sets" "second" "J") ∈ TB := TB_of 533 (by decide +kernel) (by decide +kernel)
theorem tb_555 : (Jvm.Cond.fieldLink "LieClock$Orders" (11 : Nat) "LieClock$Orders" "frames" "[LLieClock$State;") ∈ TB := TB_of 555 (by decide +kernel) (by decide +kernel)
theorem tb_556 : (Jvm.Cond.fieldLink "LieClock$Orders" (17 : Nat) "LieClock$Orders" "path" "[I") ∈ TB := TB_of 556 (by decide +kernel) (by decide +kernel)
theorem tb_557 : (Jvm.Cond.fieldLink "LieClock$Orders" (21 : Nat) "LieClock$Orders" "best" "[I") ∈ TB := TB_of 557 (by decide +kernel) (by decide +kernel)
theorem tb_559 : (Jvm.Cond.fieldLink "LieClock$Orders" (74 : Nat) "LieClock$Orders" "bestClock" "I") ∈ TB := TB_of 559 (by decide +kernel) (by decide +kernel)
theorem tb_561 : (Jvm.Cond.fieldLink "LieClock$Orders" (38 : Nat) "LieClock$Orders" "found" "Z") ∈ TB := TB_of 561 (by decide +kernel) (by decide +kernel)
theorem tb_562 : (Jvm.Cond.fieldLink "LieClock$Orders" (27 : Nat) "LieClock$Orders" "known" "Z") ∈ TB := TB_of 562 (by decide +kernel) (by decide +kernel)
theorem tb_564 : (Jvm.Cond.fieldLink "LieClock$Orders" (31 : Nat) "LieClock$Orders" "knownSet" "I") ∈ TB := TB_of 564 (by decide +kernel) (by decide +kernel)
theorem tb_565 : (Jvm.Cond.fieldLink "LieClock$Orders" (35 : Nat) "LieClock$Orders" "knownLate" "Z") ∈ TB := TB_of 565 (by decide +kernel) (by decide +kernel)
theorem tb_591 : (Jvm.Cond.fieldLink "LieClock$Ahead" (24 : Nat) "LieClock$Ahead" "nodes" "LLieClock$Nodes;") ∈ TB := TB_of 591 (by decide +kernel) (by decide +kernel)
theorem tb_595 : (Jvm.Cond.fieldLink "LieClock$Ahead" (39 : Nat) "LieClock$Ahead" "length" "I") ∈ TB := TB_of 595 (by decide +kernel) (by decide +kernel)
theorem tb_597 : (Jvm.Cond.fieldLink "LieClock$Ahead" (42 : Nat) "LieClock$Ahead" "lies" "I") ∈ TB := TB_of 597 (by decide +kernel) (by decide +kernel)
theorem tb_599 : (Jvm.Cond.fieldLink "LieClock$Ahead" (28 : Nat) "LieClock$Ahead" "known" "Z") ∈ TB := TB_of 599 (by decide +kernel) (by decide +kernel)
theorem tb_601 : (Jvm.Cond.fieldLink "LieClock$Ahead" (32 : Nat) "LieClock$Ahead" "knownA" "I") ∈ TB := TB_of 601 (by decide +kernel) (by decide +kernel)
theorem tb_602 : (Jvm.Cond.fieldLink "LieClock$Ahead" (36 : Nat) "LieClock$Ahead" "knownB" "I") ∈ TB := TB_of 602 (by decide +kernel) (by decide +kernel)
theorem tb_628 : (Jvm.Cond.fieldLink "LieClock$Book" (38 : Nat) "LieClock$Book" "nodes" "LLieClock$Nodes;") ∈ TB := TB_of 628 (by decide +kernel) (by decide +kernel)
theorem tb_630 : (Jvm.Cond.fieldLink "LieClock$Book" (20 : Nat) "LieClock$Book" "readings" "[I") ∈ TB := TB_of 630 (by decide +kernel) (by decide +kernel)
theorem tb_631 : (Jvm.Cond.fieldLink "LieClock$Book" (42 : Nat) "LieClock$Book" "size" "I") ∈ TB := TB_of 631 (by decide +kernel) (by decide +kernel)
theorem tb_633 : (Jvm.Cond.fieldLink "LieClock$Book" (24 : Nat) "LieClock$Book" "known" "[Z") ∈ TB := TB_of 633 (by decide +kernel) (by decide +kernel)
theorem tb_634 : (Jvm.Cond.fieldLink "LieClock$Book" (28 : Nat) "LieClock$Book" "rows" "[J") ∈ TB := TB_of 634 (by decide +kernel) (by decide +kernel)
theorem tb_636 : (Jvm.Cond.fieldLink "LieClock$Book" (32 : Nat) "LieClock$Book" "sure" "[I") ∈ TB := TB_of 636 (by decide +kernel) (by decide +kernel)
theorem tb_638 : (Jvm.Cond.fieldLink "LieClock$Book" (35 : Nat) "LieClock$Book" "liarsIn" "[I") ∈ TB := TB_of 638 (by decide +kernel) (by decide +kernel)
theorem tb_657 : (Jvm.Cond.fieldLink "LieClock" (16 : Nat) "LieClock" "tape" "LLieClock$Tape;") ∈ TB := TB_of 657 (by decide +kernel) (by decide +kernel)
theorem tb_658 : (Jvm.Cond.fieldLink "LieClock" (9 : Nat) "LieClock" "faultPlace" "I") ∈ TB := TB_of 658 (by decide +kernel) (by decide +kernel)
theorem tb_659 : (Jvm.Cond.fieldLink "LieClock" (35 : Nat) "LieClock" "parser" "LLieClock$Parser;") ∈ TB := TB_of 659 (by decide +kernel) (by decide +kernel)
theorem tb_660 : (Jvm.Cond.fieldLink "LieClock" (23 : Nat) "LieClock" "told" "LLieClock$Told;") ∈ TB := TB_of 660 (by decide +kernel) (by decide +kernel)
theorem tb_661 : (Jvm.Cond.fieldLink "LieClock" (27 : Nat) "LieClock" "spare" "LLieClock$Told;") ∈ TB := TB_of 661 (by decide +kernel) (by decide +kernel)
theorem tb_662 : (Jvm.Cond.fieldLink "LieClock" (47 : Nat) "LieClock" "now" "LLieClock$State;") ∈ TB := TB_of 662 (by decide +kernel) (by decide +kernel)
theorem tb_663 : (Jvm.Cond.fieldLink "LieClock" (54 : Nat) "LieClock" "probe" "LLieClock$State;") ∈ TB := TB_of 663 (by decide +kernel) (by decide +kernel)
theorem tb_664 : (Jvm.Cond.fieldLink "LieClock" (57 : Nat) "LieClock" "past" "[LLieClock$State;") ∈ TB := TB_of 664 (by decide +kernel) (by decide +kernel)
theorem tb_665 : (Jvm.Cond.fieldLink "LieClock" (119 : Nat) "LieClock" "undoable" "I") ∈ TB := TB_of 665 (by decide +kernel) (by decide +kernel)
theorem tb_666 : (Jvm.Cond.fieldLink "LieClock" (225 : Nat) "LieClock" "pastEnd" "I") ∈ TB := TB_of 666 (by decide +kernel) (by decide +kernel)
theorem tb_667 : (Jvm.Cond.fieldLink "LieClock" (61 : Nat) "LieClock" "slots" "[LLieClock$State;") ∈ TB := TB_of 667 (by decide +kernel) (by decide +kernel)
theorem tb_668 : (Jvm.Cond.fieldLink "LieClock" (64 : Nat) "LieClock" "slotTapes" "[LLieClock$Tape;") ∈ TB := TB_of 668 (by decide +kernel) (by decide +kernel)
theorem tb_669 : (Jvm.Cond.fieldLink "LieClock" (68 : Nat) "LieClock" "held" "[Z") ∈ TB := TB_of 669 (by decide +kernel) (by decide +kernel)
theorem tb_670 : (Jvm.Cond.fieldLink "LieClock" (78 : Nat) "LieClock" "sets" "LLieClock$Sets;") ∈ TB := TB_of 670 (by decide +kernel) (by decide +kernel)
theorem tb_671 : (Jvm.Cond.fieldLink "LieClock" (85 : Nat) "LieClock" "orders" "LLieClock$Orders;") ∈ TB := TB_of 671 (by decide +kernel) (by decide +kernel)
theorem tb_672 : (Jvm.Cond.fieldLink "LieClock" (94 : Nat) "LieClock" "aheads" "LLieClock$Ahead;") ∈ TB := TB_of 672 (by decide +kernel) (by decide +kernel)
theorem tb_673 : (Jvm.Cond.fieldLink "LieClock" (101 : Nat) "LieClock" "book" "LLieClock$Book;") ∈ TB := TB_of 673 (by decide +kernel) (by decide +kernel)
theorem tb_713 : (Jvm.Cond.methodLink "LieClock" (108 : Nat) ({ cls := "LieClock$Tape", name := "append", desc := "(I)V" } : Jvm.MethodName)) ∈ TB := TB_of 713 (by decide +kernel) (by decide +kernel)
theorem tb_714 : (Jvm.Cond.instanceMethod ({ cls := "LieClock$Tape", name := "append", desc := "(I)V" } : Jvm.MethodName)) ∈ TB := TB_of 714 (by decide +kernel) (by decide +kernel)
theorem tb_715 : (Jvm.Cond.selects "LieClock$Tape" ({ cls := "LieClock$Tape", name := "append", desc := "(I)V" } : Jvm.MethodName) ({ cls := "LieClock$Tape", name := "append", desc := "(I)V" } : Jvm.MethodName)) ∈ TB := TB_of 715 (by decide +kernel) (by decide +kernel)
theorem tb_725 : (Jvm.Cond.methodLink "LieClock" (112 : Nat) ({ cls := "LieClock$Parser", name := "parse", desc := "(LLieClock$Tape;LLieClock$Told;)I" } : Jvm.MethodName)) ∈ TB := TB_of 725 (by decide +kernel) (by decide +kernel)
theorem tb_726 : (Jvm.Cond.instanceMethod ({ cls := "LieClock$Parser", name := "parse", desc := "(LLieClock$Tape;LLieClock$Told;)I" } : Jvm.MethodName)) ∈ TB := TB_of 726 (by decide +kernel) (by decide +kernel)
theorem tb_727 : (Jvm.Cond.selects "LieClock$Parser" ({ cls := "LieClock$Parser", name := "parse", desc := "(LLieClock$Tape;LLieClock$Told;)I" } : Jvm.MethodName) ({ cls := "LieClock$Parser", name := "parse", desc := "(LLieClock$Tape;LLieClock$Told;)I" } : Jvm.MethodName)) ∈ TB := TB_of 727 (by decide +kernel) (by decide +kernel)
theorem tb_729 : (Jvm.Cond.methodLink "LieClock$Parser" (22 : Nat) ({ cls := "LieClock$Tokens", name := "cut", desc := "(LLieClock$Tape;)V" } : Jvm.MethodName)) ∈ TB := TB_of 729 (by decide +kernel) (by decide +kernel)
theorem tb_730 : (Jvm.Cond.instanceMethod ({ cls := "LieClock$Tokens", name := "cut", desc := "(LLieClock$Tape;)V" } : Jvm.MethodName)) ∈ TB := TB_of 730 (by decide +kernel) (by decide +kernel)
theorem tb_731 : (Jvm.Cond.selects "LieClock$Tokens" ({ cls := "LieClock$Tokens", name := "cut", desc := "(LLieClock$Tape;)V" } : Jvm.MethodName) ({ cls := "LieClock$Tokens", name := "cut", desc := "(LLieClock$Tape;)V" } : Jvm.MethodName)) ∈ TB := TB_of 731 (by decide +kernel) (by decide +kernel)
theorem tb_733 : (Jvm.Cond.methodLink "LieClock$Tokens" (45 : Nat) ({ cls := "LieClock$Tokens", name := "skipBlanks", desc := "(LLieClock$Tape;I)I" } : Jvm.MethodName)) ∈ TB := TB_of 733 (by decide +kernel) (by decide +kernel)
theorem tb_734 : (Jvm.Cond.static ({ cls := "LieClock$Tokens", name := "skipBlanks", desc := "(LLieClock$Tape;I)I" } : Jvm.MethodName)) ∈ TB := TB_of 734 (by decide +kernel) (by decide +kernel)
theorem tb_736 : (Jvm.Cond.methodLink "LieClock$Tokens" (56 : Nat) ({ cls := "LieClock$Tape", name := "at", desc := "(I)I" } : Jvm.MethodName)) ∈ TB := TB_of 736 (by decide +kernel) (by decide +kernel)
theorem tb_737 : (Jvm.Cond.instanceMethod ({ cls := "LieClock$Tape", name := "at", desc := "(I)I" } : Jvm.MethodName)) ∈ TB := TB_of 737 (by decide +kernel) (by decide +kernel)
theorem tb_738 : (Jvm.Cond.selects "LieClock$Tape" ({ cls := "LieClock$Tape", name := "at", desc := "(I)I" } : Jvm.MethodName) ({ cls := "LieClock$Tape", name := "at", desc := "(I)I" } : Jvm.MethodName)) ∈ TB := TB_of 738 (by decide +kernel) (by decide +kernel)
theorem tb_740 : (Jvm.Cond.methodLink "LieClock$Tokens" (60 : Nat) ({ cls := "LieClock$Tokens", name := "isBlank", desc := "(I)Z" } : Jvm.MethodName)) ∈ TB := TB_of 740 (by decide +kernel) (by decide +kernel)
theorem tb_741 : (Jvm.Cond.static ({ cls := "LieClock$Tokens", name := "isBlank", desc := "(I)Z" } : Jvm.MethodName)) ∈ TB := TB_of 741 (by decide +kernel) (by decide +kernel)
theorem tb_743 : (Jvm.Cond.methodLink "LieClock$Tokens" (49 : Nat) ({ cls := "LieClock$Tokens", name := "cutOne", desc := "(LLieClock$Tape;I)I" } : Jvm.MethodName)) ∈ TB := TB_of 743 (by decide +kernel) (by decide +kernel)
theorem tb_745 : (Jvm.Cond.instanceMethod ({ cls := "LieClock$Tokens", name := "cutOne", desc := "(LLieClock$Tape;I)I" } : Jvm.MethodName)) ∈ TB := TB_of 745 (by decide +kernel) (by decide +kernel)
theorem tb_747 : (Jvm.Cond.methodLink "LieClock$Tokens" (64 : Nat) ({ cls := "LieClock$Tokens", name := "isLetter", desc := "(I)Z" } : Jvm.MethodName)) ∈ TB := TB_of 747 (by decide +kernel) (by decide +kernel)
theorem tb_748 : (Jvm.Cond.static ({ cls := "LieClock$Tokens", name := "isLetter", desc := "(I)Z" } : Jvm.MethodName)) ∈ TB := TB_of 748 (by decide +kernel) (by decide +kernel)
theorem tb_750 : (Jvm.Cond.methodLink "LieClock$Tokens" (67 : Nat) ({ cls := "LieClock$Tokens", name := "cutLetters", desc := "(LLieClock$Tape;I)I" } : Jvm.MethodName)) ∈ TB := TB_of 750 (by decide +kernel) (by decide +kernel)
theorem tb_752 : (Jvm.Cond.instanceMethod ({ cls := "LieClock$Tokens", name := "cutLetters", desc := "(LLieClock$Tape;I)I" } : Jvm.MethodName)) ∈ TB := TB_of 752 (by decide +kernel) (by decide +kernel)
theorem tb_754 : (Jvm.Cond.methodLink "LieClock$Tokens" (85 : Nat) ({ cls := "LieClock$Tokens", name := "kindOf", desc := "(J)I" } : Jvm.MethodName)) ∈ TB := TB_of 754 (by decide +kernel) (by decide +kernel)
theorem tb_756 : (Jvm.Cond.instanceMethod ({ cls := "LieClock$Tokens", name := "kindOf", desc := "(J)I" } : Jvm.MethodName)) ∈ TB := TB_of 756 (by decide +kernel) (by decide +kernel)
theorem tb_758 : (Jvm.Cond.methodLink "LieClock$Tokens" (76 : Nat) ({ cls := "LieClock$Tokens", name := "add", desc := "(IIJ)V" } : Jvm.MethodName)) ∈ TB := TB_of 758 (by decide +kernel) (by decide +kernel)
theorem tb_760 : (Jvm.Cond.instanceMethod ({ cls := "LieClock$Tokens", name := "add", desc := "(IIJ)V" } : Jvm.MethodName)) ∈ TB := TB_of 760 (by decide +kernel) (by decide +kernel)
theorem tb_762 : (Jvm.Cond.methodLink "LieClock$Tokens" (70 : Nat) ({ cls := "LieClock$Tokens", name := "isDigit", desc := "(I)Z" } : Jvm.MethodName)) ∈ TB := TB_of 762 (by decide +kernel) (by decide +kernel)
theorem tb_763 : (Jvm.Cond.static ({ cls := "LieClock$Tokens", name := "isDigit", desc := "(I)Z" } : Jvm.MethodName)) ∈ TB := TB_of 763 (by decide +kernel) (by decide +kernel)
theorem tb_765 : (Jvm.Cond.methodLink "LieClock$Tokens" (73 : Nat) ({ cls := "LieClock$Tokens", name := "cutDigits", desc := "(LLieClock$Tape;I)I" } : Jvm.MethodName)) ∈ TB := TB_of 765 (by decide +kernel) (by decide +kernel)
theorem tb_767 : (Jvm.Cond.instanceMethod ({ cls := "LieClock$Tokens", name := "cutDigits", desc := "(LLieClock$Tape;I)I" } : Jvm.MethodName)) ∈ TB := TB_of 767 (by decide +kernel) (by decide +kernel)
theorem tb_769 : (Jvm.Cond.constantLong "LieClock$Tokens" (89 : Nat) (10 : Int64)) ∈ TB := TB_of 769 (by decide +kernel) (by decide +kernel)
theorem tb_770 : (Jvm.Cond.constantLong "LieClock$Tokens" (91 : Nat) (48 : Int64)) ∈ TB := TB_of 770 (by decide +kernel) (by decide +kernel)
theorem tb_772 : (Jvm.Cond.methodLink "LieClock$Tokens" (82 : Nat) ({ cls := "java/lang/String", name := "indexOf", desc := "(I)I" } : Jvm.MethodName)) ∈ TB := TB_of 772 (by decide +kernel) (by decide +kernel)
theorem tb_773 : (Jvm.Cond.instanceMethod ({ cls := "java/lang/String", name := "indexOf", desc := "(I)I" } : Jvm.MethodName)) ∈ TB := TB_of 773 (by decide +kernel) (by decide +kernel)
theorem tb_774 : (Jvm.Cond.selects "java/lang/String" ({ cls := "java/lang/String", name := "indexOf", desc := "(I)I" } : Jvm.MethodName) ({ cls := "java/lang/String", name := "indexOf", desc := "(I)I" } : Jvm.MethodName)) ∈ TB := TB_of 774 (by decide +kernel) (by decide +kernel)
theorem tb_776 : (Jvm.Cond.methodLink "java/lang/String" (633 : Nat) ({ cls := "java/lang/String", name := "indexOf", desc := "(II)I" } : Jvm.MethodName)) ∈ TB := TB_of 776 (by decide +kernel) (by decide +kernel)
theorem tb_777 : (Jvm.Cond.instanceMethod ({ cls := "java/lang/String", name := "indexOf", desc := "(II)I" } : Jvm.MethodName)) ∈ TB := TB_of 777 (by decide +kernel) (by decide +kernel)
theorem tb_778 : (Jvm.Cond.selects "java/lang/String" ({ cls := "java/lang/String", name := "indexOf", desc := "(II)I" } : Jvm.MethodName) ({ cls := "java/lang/String", name := "indexOf", desc := "(II)I" } : Jvm.MethodName)) ∈ TB := TB_of 778 (by decide +kernel) (by decide +kernel)
theorem tb_780 : (Jvm.Cond.methodLink "java/lang/String" (505 : Nat) ({ cls := "java/lang/String", name := "length", desc := "()I" } : Jvm.MethodName)) ∈ TB := TB_of 780 (by decide +kernel) (by decide +kernel)
theorem tb_781 : (Jvm.Cond.methodLink "java/lang/String" (637 : Nat) ({ cls := "java/lang/StringLatin1", name := "indexOf", desc := "([BIII)I" } : Jvm.MethodName)) ∈ TB := TB_of 781 (by decide +kernel) (by decide +kernel)
theorem tb_782 : (Jvm.Cond.static ({ cls := "java/lang/StringLatin1", name := "indexOf", desc := "([BIII)I" } : Jvm.MethodName)) ∈ TB := TB_of 782 (by decide +kernel) (by decide +kernel)
theorem tb_784 : (Jvm.Cond.methodLink "java/lang/StringLatin1" (88 : Nat) ({ cls := "java/lang/StringLatin1", name := "canEncode", desc := "(I)Z" } : Jvm.MethodName)) ∈ TB := TB_of 784 (by decide +kernel) (by decide +kernel)
theorem tb_785 : (Jvm.Cond.static ({ cls := "java/lang/StringLatin1", name := "canEncode", desc := "(I)Z" } : Jvm.MethodName)) ∈ TB := TB_of 785 (by decide +kernel) (by decide +kernel)
theorem tb_787 : (Jvm.Cond.methodLink "java/lang/StringLatin1" (92 : Nat) ({ cls := "java/lang/Math", name := "max", desc := "(II)I" } : Jvm.MethodName)) ∈ TB := TB_of 787 (by decide +kernel) (by decide +kernel)
theorem tb_788 : (Jvm.Cond.static ({ cls := "java/lang/Math", name := "max", desc := "(II)I" } : Jvm.MethodName)) ∈ TB := TB_of 788 (by decide +kernel) (by decide +kernel)
theorem tb_790 : (Jvm.Cond.methodLink "java/lang/StringLatin1" (38 : Nat) ({ cls := "java/lang/Math", name := "min", desc := "(II)I" } : Jvm.MethodName)) ∈ TB := TB_of 790 (by decide +kernel) (by decide +kernel)
theorem tb_791 : (Jvm.Cond.static ({ cls := "java/lang/Math", name := "min", desc := "(II)I" } : Jvm.MethodName)) ∈ TB := TB_of 791 (by decide +kernel) (by decide +kernel)
theorem tb_793 : (Jvm.Cond.methodLink "java/lang/StringLatin1" (95 : Nat) ({ cls := "java/lang/StringLatin1", name := "indexOfChar", desc := "([BIII)I" } : Jvm.MethodName)) ∈ TB := TB_of 793 (by decide +kernel) (by decide +kernel)
theorem tb_794 : (Jvm.Cond.static ({ cls := "java/lang/StringLatin1", name := "indexOfChar", desc := "([BIII)I" } : Jvm.MethodName)) ∈ TB := TB_of 794 (by decide +kernel) (by decide +kernel)
theorem tb_831 : (Jvm.Cond.methodLink "LieClock$Parser" (26 : Nat) ({ cls := "LieClock$Told", name := "clear", desc := "()V" } : Jvm.MethodName)) ∈ TB := TB_of 831 (by decide +kernel) (by decide +kernel)
theorem tb_832 : (Jvm.Cond.instanceMethod ({ cls := "LieClock$Told", name := "clear", desc := "()V" } : Jvm.MethodName)) ∈ TB := TB_of 832 (by decide +kernel) (by decide +kernel)
theorem tb_833 : (Jvm.Cond.selects "LieClock$Told" ({ cls := "LieClock$Told", name := "clear", desc := "()V" } : Jvm.MethodName) ({ cls := "LieClock$Told", name := "clear", desc := "()V" } : Jvm.MethodName)) ∈ TB := TB_of 833 (by decide +kernel) (by decide +kernel)
theorem tb_835 : (Jvm.Cond.methodLink "LieClock$Told" (75 : Nat) ({ cls := "LieClock$Law", name := "clear", desc := "()V" } : Jvm.MethodName)) ∈ TB := TB_of 835 (by decide +kernel) (by decide +kernel)
theorem tb_836 : (Jvm.Cond.instanceMethod ({ cls := "LieClock$Law", name := "clear", desc := "()V" } : Jvm.MethodName)) ∈ TB := TB_of 836 (by decide +kernel) (by decide +kernel)
theorem tb_837 : (Jvm.Cond.selects "LieClock$Law" ({ cls := "LieClock$Law", name := "clear", desc := "()V" } : Jvm.MethodName) ({ cls := "LieClock$Law", name := "clear", desc := "()V" } : Jvm.MethodName)) ∈ TB := TB_of 837 (by decide +kernel) (by decide +kernel)
theorem tb_839 : (Jvm.Cond.methodLink "LieClock$Parser" (48 : Nat) ({ cls := "LieClock$Parser", name := "tellFact", desc := "()V" } : Jvm.MethodName)) ∈ TB := TB_of 839 (by decide +kernel) (by decide +kernel)
theorem tb_841 : (Jvm.Cond.instanceMethod ({ cls := "LieClock$Parser", name := "tellFact", desc := "()V" } : Jvm.MethodName)) ∈ TB := TB_of 841 (by decide +kernel) (by decide +kernel)
theorem tb_843 : (Jvm.Cond.methodLink "LieClock$Parser" (99 : Nat) ({ cls := "LieClock$Parser", name := "begin", desc := "(II)V" } : Jvm.MethodName)) ∈ TB := TB_of 843 (by decide +kernel) (by decide +kernel)
theorem tb_845 : (Jvm.Cond.instanceMethod ({ cls := "LieClock$Parser", name := "begin", desc := "(II)V" } : Jvm.MethodName)) ∈ TB := TB_of 845 (by decide +kernel) (by decide +kernel)
theorem tb_847 : (Jvm.Cond.methodLink "LieClock$Parser" (74 : Nat) ({ cls := "LieClock$Parser", name := "fail", desc := "(I)V" } : Jvm.MethodName)) ∈ TB := TB_of 847 (by decide +kernel) (by decide +kernel)
theorem tb_849 : (Jvm.Cond.instanceMethod ({ cls := "LieClock$Parser", name := "fail", desc := "(I)V" } : Jvm.MethodName)) ∈ TB := TB_of 849 (by decide +kernel) (by decide +kernel)
theorem tb_851 : (Jvm.Cond.methodLink "LieClock$Parser" (88 : Nat) ({ cls := "LieClock$Parser", name := "accept", desc := "(I)Z" } : Jvm.MethodName)) ∈ TB := TB_of 851 (by decide +kernel) (by decide +kernel)
theorem tb_853 : (Jvm.Cond.instanceMethod ({ cls := "LieClock$Parser", name := "accept", desc := "(I)Z" } : Jvm.MethodName)) ∈ TB := TB_of 853 (by decide +kernel) (by decide +kernel)
theorem tb_855 : (Jvm.Cond.methodLink "LieClock$Parser" (103 : Nat) ({ cls := "LieClock$Parser", name := "takeNewName", desc := "()J" } : Jvm.MethodName)) ∈ TB := TB_of 855 (by decide +kernel) (by decide +kernel)
theorem tb_857 : (Jvm.Cond.instanceMethod ({ cls := "LieClock$Parser", name := "takeNewName", desc := "()J" } : Jvm.MethodName)) ∈ TB := TB_of 857 (by decide +kernel) (by decide +kernel)
theorem tb_859 : (Jvm.Cond.methodLink "LieClock$Parser" (124 : Nat) ({ cls := "LieClock$Parser", name := "take", desc := "(I)J" } : Jvm.MethodName)) ∈ TB := TB_of 859 (by decide +kernel) (by decide +kernel)
theorem tb_861 : (Jvm.Cond.instanceMethod ({ cls := "LieClock$Parser", name := "take", desc := "(I)J" } : Jvm.MethodName)) ∈ TB := TB_of 861 (by decide +kernel) (by decide +kernel)
theorem tb_863 : (Jvm.Cond.methodLink "LieClock$Parser" (162 : Nat) ({ cls := "LieClock$Told", name := "isTold", desc := "(J)Z" } : Jvm.MethodName)) ∈ TB := TB_of 863 (by decide +kernel) (by decide +kernel)
theorem tb_864 : (Jvm.Cond.instanceMethod ({ cls := "LieClock$Told", name := "isTold", desc := "(J)Z" } : Jvm.MethodName)) ∈ TB := TB_of 864 (by decide +kernel) (by decide +kernel)
theorem tb_865 : (Jvm.Cond.selects "LieClock$Told" ({ cls := "LieClock$Told", name := "isTold", desc := "(J)Z" } : Jvm.MethodName) ({ cls := "LieClock$Told", name := "isTold", desc := "(J)Z" } : Jvm.MethodName)) ∈ TB := TB_of 865 (by decide +kernel) (by decide +kernel)
theorem tb_867 : (Jvm.Cond.methodLink "LieClock$Told" (105 : Nat) ({ cls := "LieClock$Told", name := "factNamed", desc := "(J)I" } : Jvm.MethodName)) ∈ TB := TB_of 867 (by decide +kernel) (by decide +kernel)
theorem tb_868 : (Jvm.Cond.instanceMethod ({ cls := "LieClock$Told", name := "factNamed", desc := "(J)I" } : Jvm.MethodName)) ∈ TB := TB_of 868 (by decide +kernel) (by decide +kernel)
theorem tb_869 : (Jvm.Cond.selects "LieClock$Told" ({ cls := "LieClock$Told", name := "factNamed", desc := "(J)I" } : Jvm.MethodName) ({ cls := "LieClock$Told", name := "factNamed", desc := "(J)I" } : Jvm.MethodName)) ∈ TB := TB_of 869 (by decide +kernel) (by decide +kernel)
theorem tb_871 : (Jvm.Cond.methodLink "LieClock$Told" (101 : Nat) ({ cls := "LieClock$Told", name := "indexOf", desc := "([JIJ)I" } : Jvm.MethodName)) ∈ TB := TB_of 871 (by decide +kernel) (by decide +kernel)
theorem tb_872 : (Jvm.Cond.static ({ cls := "LieClock$Told", name := "indexOf", desc := "([JIJ)I" } : Jvm.MethodName)) ∈ TB := TB_of 872 (by decide +kernel) (by decide +kernel)
theorem tb_874 : (Jvm.Cond.methodLink "LieClock$Told" (109 : Nat) ({ cls := "LieClock$Told", name := "witnessNamed", desc := "(J)I" } : Jvm.MethodName)) ∈ TB := TB_of 874 (by decide +kernel) (by decide +kernel)
theorem tb_875 : (Jvm.Cond.instanceMethod ({ cls := "LieClock$Told", name := "witnessNamed", desc := "(J)I" } : Jvm.MethodName)) ∈ TB := TB_of 875 (by decide +kernel) (by decide +kernel)
theorem tb_876 : (Jvm.Cond.selects "LieClock$Told" ({ cls := "LieClock$Told", name := "witnessNamed", desc := "(J)I" } : Jvm.MethodName) ({ cls := "LieClock$Told", name := "witnessNamed", desc := "(J)I" } : Jvm.MethodName)) ∈ TB := TB_of 876 (by decide +kernel) (by decide +kernel)
theorem tb_878 : (Jvm.Cond.methodLink "LieClock$Parser" (132 : Nat) ({ cls := "LieClock$Parser", name := "failSoftly", desc := "(I)V" } : Jvm.MethodName)) ∈ TB := TB_of 878 (by decide +kernel) (by decide +kernel)
theorem tb_880 : (Jvm.Cond.instanceMethod ({ cls := "LieClock$Parser", name := "failSoftly", desc := "(I)V" } : Jvm.MethodName)) ∈ TB := TB_of 880 (by decide +kernel) (by decide +kernel)
theorem tb_882 : (Jvm.Cond.methodLink "LieClock$Parser" (81 : Nat) ({ cls := "LieClock$Tokens", name := "placeAt", desc := "(I)I" } : Jvm.MethodName)) ∈ TB := TB_of 882 (by decide +kernel) (by decide +kernel)
theorem tb_883 : (Jvm.Cond.instanceMethod ({ cls := "LieClock$Tokens", name := "placeAt", desc := "(I)I" } : Jvm.MethodName)) ∈ TB := TB_of 883 (by decide +kernel) (by decide +kernel)
theorem tb_884 : (Jvm.Cond.selects "LieClock$Tokens" ({ cls := "LieClock$Tokens", name := "placeAt", desc := "(I)I" } : Jvm.MethodName) ({ cls := "LieClock$Tokens", name := "placeAt", desc := "(I)I" } : Jvm.MethodName)) ∈ TB := TB_of 884 (by decide +kernel) (by decide +kernel)
theorem tb_886 : (Jvm.Cond.methodLink "LieClock$Parser" (107 : Nat) ({ cls := "LieClock$Parser", name := "expect", desc := "(I)V" } : Jvm.MethodName)) ∈ TB := TB_of 886 (by decide +kernel) (by decide +kernel)
theorem tb_888 : (Jvm.Cond.instanceMethod ({ cls := "LieClock$Parser", name := "expect", desc := "(I)V" } : Jvm.MethodName)) ∈ TB := TB_of 888 (by decide +kernel) (by decide +kernel)
theorem tb_890 : (Jvm.Cond.methodLink "LieClock$Parser" (110 : Nat) ({ cls := "LieClock$Told", name := "addFact", desc := "(JZZ)V" } : Jvm.MethodName)) ∈ TB := TB_of 890 (by decide +kernel) (by decide +kernel)
theorem tb_891 : (Jvm.Cond.instanceMethod ({ cls := "LieClock$Told", name := "addFact", desc := "(JZZ)V" } : Jvm.MethodName)) ∈ TB := TB_of 891 (by decide +kernel) (by decide +kernel)
theorem tb_892 : (Jvm.Cond.selects "LieClock$Told" ({ cls := "LieClock$Told", name := "addFact", desc := "(JZZ)V" } : Jvm.MethodName) ({ cls := "LieClock$Told", name := "addFact", desc := "(JZZ)V" } : Jvm.MethodName)) ∈ TB := TB_of 892 (by decide +kernel) (by decide +kernel)
theorem tb_894 : (Jvm.Cond.methodLink "LieClock$Parser" (51 : Nat) ({ cls := "LieClock$Parser", name := "tellWitness", desc := "()V" } : Jvm.MethodName)) ∈ TB := TB_of 894 (by decide +kernel) (by decide +kernel)
theorem tb_896 : (Jvm.Cond.instanceMethod ({ cls := "LieClock$Parser", name := "tellWitness", desc := "()V" } : Jvm.MethodName)) ∈ TB := TB_of 896 (by decide +kernel) (by decide +kernel)
theorem tb_898 : (Jvm.Cond.methodLink "LieClock$Parser" (117 : Nat) ({ cls := "LieClock$Told", name := "addWitness", desc := "(J)V" } : Jvm.MethodName)) ∈ TB := TB_of 898 (by decide +kernel) (by decide +kernel)
theorem tb_899 : (Jvm.Cond.instanceMethod ({ cls := "LieClock$Told", name := "addWitness", desc := "(J)V" } : Jvm.MethodName)) ∈ TB := TB_of 899 (by decide +kernel) (by decide +kernel)
theorem tb_900 : (Jvm.Cond.selects "LieClock$Told" ({ cls := "LieClock$Told", name := "addWitness", desc := "(J)V" } : Jvm.MethodName) ({ cls := "LieClock$Told", name := "addWitness", desc := "(J)V" } : Jvm.MethodName)) ∈ TB := TB_of 900 (by decide +kernel) (by decide +kernel)
theorem tb_902 : (Jvm.Cond.methodLink "LieClock$Parser" (54 : Nat) ({ cls := "LieClock$Parser", name := "tellWord", desc := "()V" } : Jvm.MethodName)) ∈ TB := TB_of 902 (by decide +kernel) (by decide +kernel)
theorem tb_904 : (Jvm.Cond.instanceMethod ({ cls := "LieClock$Parser", name := "tellWord", desc := "()V" } : Jvm.MethodName)) ∈ TB := TB_of 904 (by decide +kernel) (by decide +kernel)
theorem tb_906 : (Jvm.Cond.methodLink "LieClock$Parser" (128 : Nat) ({ cls := "LieClock$Told", name := "witnessNamed", desc := "(J)I" } : Jvm.MethodName)) ∈ TB := TB_of 906 (by decide +kernel) (by decide +kernel)
theorem tb_907 : (Jvm.Cond.methodLink "LieClock$Parser" (135 : Nat) ({ cls := "LieClock$Parser", name := "cond", desc := "(I)J" } : Jvm.MethodName)) ∈ TB := TB_of 907 (by decide +kernel) (by decide +kernel)
theorem tb_909 : (Jvm.Cond.instanceMethod ({ cls := "LieClock$Parser", name := "cond", desc := "(I)J" } : Jvm.MethodName)) ∈ TB := TB_of 909 (by decide +kernel) (by decide +kernel)
theorem tb_911 : (Jvm.Cond.methodLink "LieClock$Parser" (166 : Nat) ({ cls := "LieClock$Parser", name := "all", desc := "(I)J" } : Jvm.MethodName)) ∈ TB := TB_of 911 (by decide +kernel) (by decide +kernel)
theorem tb_913 : (Jvm.Cond.instanceMethod ({ cls := "LieClock$Parser", name := "all", desc := "(I)J" } : Jvm.MethodName)) ∈ TB := TB_of 913 (by decide +kernel) (by decide +kernel)
theorem tb_915 : (Jvm.Cond.methodLink "LieClock$Parser" (169 : Nat) ({ cls := "LieClock$Parser", name := "literal", desc := "(I)J" } : Jvm.MethodName)) ∈ TB := TB_of 915 (by decide +kernel) (by decide +kernel)
theorem tb_917 : (Jvm.Cond.instanceMethod ({ cls := "LieClock$Parser", name := "literal", desc := "(I)J" } : Jvm.MethodName)) ∈ TB := TB_of 917 (by decide +kernel) (by decide +kernel)
theorem tb_919 : (Jvm.Cond.methodLink "LieClock$Parser" (172 : Nat) ({ cls := "LieClock$Parser", name := "enter", desc := "(I)Z" } : Jvm.MethodName)) ∈ TB := TB_of 919 (by decide +kernel) (by decide +kernel)
theorem tb_921 : (Jvm.Cond.instanceMethod ({ cls := "LieClock$Parser", name := "enter", desc := "(I)Z" } : Jvm.MethodName)) ∈ TB := TB_of 921 (by decide +kernel) (by decide +kernel)
theorem tb_923 : (Jvm.Cond.methodLink "LieClock$Parser" (175 : Nat) ({ cls := "LieClock$Told", name := "factNamed", desc := "(J)I" } : Jvm.MethodName)) ∈ TB := TB_of 923 (by decide +kernel) (by decide +kernel)
theorem tb_925 : (Jvm.Cond.constantLong "LieClock$Parser" (181 : Nat) (-1 : Int64)) ∈ TB := TB_of 925 (by decide +kernel) (by decide +kernel)
theorem tb_926 : (Jvm.Cond.methodLink "LieClock$Parser" (138 : Nat) ({ cls := "LieClock$Told", name := "addWord", desc := "(IZJ)V" } : Jvm.MethodName)) ∈ TB := TB_of 926 (by decide +kernel) (by decide +kernel)
theorem tb_927 : (Jvm.Cond.instanceMethod ({ cls := "LieClock$Told", name := "addWord", desc := "(IZJ)V" } : Jvm.MethodName)) ∈ TB := TB_of 927 (by decide +kernel) (by decide +kernel)
theorem tb_928 : (Jvm.Cond.selects "LieClock$Told" ({ cls := "LieClock$Told", name := "addWord", desc := "(IZJ)V" } : Jvm.MethodName) ({ cls := "LieClock$Told", name := "addWord", desc := "(IZJ)V" } : Jvm.MethodName)) ∈ TB := TB_of 928 (by decide +kernel) (by decide +kernel)
theorem tb_930 : (Jvm.Cond.methodLink "LieClock$Told" (95 : Nat) ({ cls := "java/lang/Math", name := "min", desc := "(II)I" } : Jvm.MethodName)) ∈ TB := TB_of 930 (by decide +kernel) (by decide +kernel)
theorem tb_931 : (Jvm.Cond.methodLink "LieClock$Parser" (57 : Nat) ({ cls := "LieClock$Parser", name := "tellCase", desc := "()V" } : Jvm.MethodName)) ∈ TB := TB_of 931 (by decide +kernel) (by decide +kernel)
theorem tb_933 : (Jvm.Cond.instanceMethod ({ cls := "LieClock$Parser", name := "tellCase", desc := "()V" } : Jvm.MethodName)) ∈ TB := TB_of 933 (by decide +kernel) (by decide +kernel)
theorem tb_935 : (Jvm.Cond.methodLink "LieClock$Parser" (145 : Nat) ({ cls := "LieClock$Parser", name := "takeMinute", desc := "()I" } : Jvm.MethodName)) ∈ TB := TB_of 935 (by decide +kernel) (by decide +kernel)
theorem tb_937 : (Jvm.Cond.instanceMethod ({ cls := "LieClock$Parser", name := "takeMinute", desc := "()I" } : Jvm.MethodName)) ∈ TB := TB_of 937 (by decide +kernel) (by decide +kernel)
theorem tb_939 : (Jvm.Cond.methodLink "LieClock$Parser" (149 : Nat) ({ cls := "LieClock$Told", name := "addCase", desc := "(JIJ)V" } : Jvm.MethodName)) ∈ TB := TB_of 939 (by decide +kernel) (by decide +kernel)
theorem tb_940 : (Jvm.Cond.instanceMethod ({ cls := "LieClock$Told", name := "addCase", desc := "(JIJ)V" } : Jvm.MethodName)) ∈ TB := TB_of 940 (by decide +kernel) (by decide +kernel)
theorem tb_941 : (Jvm.Cond.selects "LieClock$Told" ({ cls := "LieClock$Told", name := "addCase", desc := "(JIJ)V" } : Jvm.MethodName) ({ cls := "LieClock$Told", name := "addCase", desc := "(JIJ)V" } : Jvm.MethodName)) ∈ TB := TB_of 941 (by decide +kernel) (by decide +kernel)
theorem tb_943 : (Jvm.Cond.methodLink "LieClock$Parser" (64 : Nat) ({ cls := "LieClock$Parser", name := "tellLaw", desc := "(LLieClock$Law;)V" } : Jvm.MethodName)) ∈ TB := TB_of 943 (by decide +kernel) (by decide +kernel)
theorem tb_945 : (Jvm.Cond.instanceMethod ({ cls := "LieClock$Parser", name := "tellLaw", desc := "(LLieClock$Law;)V" } : Jvm.MethodName)) ∈ TB := TB_of 945 (by decide +kernel) (by decide +kernel)
theorem tb_947 : (Jvm.Cond.methodLink "LieClock$Parser" (153 : Nat) ({ cls := "LieClock$Law", name := "clear", desc := "()V" } : Jvm.MethodName)) ∈ TB := TB_of 947 (by decide +kernel) (by decide +kernel)
theorem tb_948 : (Jvm.Cond.methodLink "LieClock$Parser" (156 : Nat) ({ cls := "LieClock$Parser", name := "sum", desc := "(LLieClock$Law;I)V" } : Jvm.MethodName)) ∈ TB := TB_of 948 (by decide +kernel) (by decide +kernel)
theorem tb_950 : (Jvm.Cond.instanceMethod ({ cls := "LieClock$Parser", name := "sum", desc := "(LLieClock$Law;I)V" } : Jvm.MethodName)) ∈ TB := TB_of 950 (by decide +kernel) (by decide +kernel)
theorem tb_952 : (Jvm.Cond.methodLink "LieClock$Parser" (183 : Nat) ({ cls := "LieClock$Parser", name := "product", desc := "(LLieClock$Law;I)V" } : Jvm.MethodName)) ∈ TB := TB_of 952 (by decide +kernel) (by decide +kernel)
theorem tb_954 : (Jvm.Cond.instanceMethod ({ cls := "LieClock$Parser", name := "product", desc := "(LLieClock$Law;I)V" } : Jvm.MethodName)) ∈ TB := TB_of 954 (by decide +kernel) (by decide +kernel)
theorem tb_956 : (Jvm.Cond.methodLink "LieClock$Parser" (189 : Nat) ({ cls := "LieClock$Parser", name := "unit", desc := "(LLieClock$Law;I)V" } : Jvm.MethodName)) ∈ TB := TB_of 956 (by decide +kernel) (by decide +kernel)
theorem tb_958 : (Jvm.Cond.instanceMethod ({ cls := "LieClock$Parser", name := "unit", desc := "(LLieClock$Law;I)V" } : Jvm.MethodName)) ∈ TB := TB_of 958 (by decide +kernel) (by decide +kernel)
theorem tb_960 : (Jvm.Cond.methodLink "LieClock$Parser" (186 : Nat) ({ cls := "LieClock$Law", name := "add", desc := "(I)V" } : Jvm.MethodName)) ∈ TB := TB_of 960 (by decide +kernel) (by decide +kernel)
theorem tb_961 : (Jvm.Cond.methodLink "LieClock$Parser" (71 : Nat) ({ cls := "LieClock$Parser", name := "tellClock", desc := "()V" } : Jvm.MethodName)) ∈ TB := TB_of 961 (by decide +kernel) (by decide +kernel)
theorem tb_963 : (Jvm.Cond.instanceMethod ({ cls := "LieClock$Parser", name := "tellClock", desc := "()V" } : Jvm.MethodName)) ∈ TB := TB_of 963 (by decide +kernel) (by decide +kernel)
theorem tb_965 : (Jvm.Cond.methodLink "LieClock$Parser" (78 : Nat) ({ cls := "LieClock$Told", name := "finish", desc := "()V" } : Jvm.MethodName)) ∈ TB := TB_of 965 (by decide +kernel) (by decide +kernel)
theorem tb_966 : (Jvm.Cond.methodLink "LieClock" (116 : Nat) ({ cls := "LieClock$Parser", name := "faultPlace", desc := "()I" } : Jvm.MethodName)) ∈ TB := TB_of 966 (by decide +kernel) (by decide +kernel)
theorem tb_967 : (Jvm.Cond.instanceMethod ({ cls := "LieClock$Parser", name := "faultPlace", desc := "()I" } : Jvm.MethodName)) ∈ TB := TB_of 967 (by decide +kernel) (by decide +kernel)
theorem tb_968 : (Jvm.Cond.selects "LieClock$Parser" ({ cls := "LieClock$Parser", name := "faultPlace", desc := "()I" } : Jvm.MethodName) ({ cls := "LieClock$Parser", name := "faultPlace", desc := "()I" } : Jvm.MethodName)) ∈ TB := TB_of 968 (by decide +kernel) (by decide +kernel)
theorem tb_970 : (Jvm.Cond.methodLink "LieClock" (122 : Nat) ({ cls := "LieClock$Book", name := "clear", desc := "()V" } : Jvm.MethodName)) ∈ TB := TB_of 970 (by decide +kernel) (by decide +kernel)
theorem tb_971 : (Jvm.Cond.instanceMethod ({ cls := "LieClock$Book", name := "clear", desc := "()V" } : Jvm.MethodName)) ∈ TB := TB_of 971 (by decide +kernel) (by decide +kernel)
theorem tb_972 : (Jvm.Cond.selects "LieClock$Book" ({ cls := "LieClock$Book", name := "clear", desc := "()V" } : Jvm.MethodName) ({ cls := "LieClock$Book", name := "clear", desc := "()V" } : Jvm.MethodName)) ∈ TB := TB_of 972 (by decide +kernel) (by decide +kernel)
theorem tb_974 : (Jvm.Cond.methodLink "LieClock" (125 : Nat) ({ cls := "LieClock", name := "forgetSearches", desc := "()V" } : Jvm.MethodName)) ∈ TB := TB_of 974 (by decide +kernel) (by decide +kernel)
theorem tb_976 : (Jvm.Cond.instanceMethod ({ cls := "LieClock", name := "forgetSearches", desc := "()V" } : Jvm.MethodName)) ∈ TB := TB_of 976 (by decide +kernel) (by decide +kernel)
theorem tb_994 : (Jvm.Cond.methodLink "LieClock" (140 : Nat) ({ cls := "LieClock$Told", name := "hasWord", desc := "(I)Z" } : Jvm.MethodName)) ∈ TB := TB_of 994 (by decide +kernel) (by decide +kernel)
theorem tb_995 : (Jvm.Cond.instanceMethod ({ cls := "LieClock$Told", name := "hasWord", desc := "(I)Z" } : Jvm.MethodName)) ∈ TB := TB_of 995 (by decide +kernel) (by decide +kernel)
theorem tb_996 : (Jvm.Cond.selects "LieClock$Told" ({ cls := "LieClock$Told", name := "hasWord", desc := "(I)Z" } : Jvm.MethodName) ({ cls := "LieClock$Told", name := "hasWord", desc := "(I)Z" } : Jvm.MethodName)) ∈ TB := TB_of 996 (by decide +kernel) (by decide +kernel)
theorem tb_998 : (Jvm.Cond.methodLink "LieClock" (168 : Nat) ({ cls := "java/lang/Long", name := "bitCount", desc := "(J)I" } : Jvm.MethodName)) ∈ TB := TB_of 998 (by decide +kernel) (by decide +kernel)
theorem tb_999 : (Jvm.Cond.static ({ cls := "java/lang/Long", name := "bitCount", desc := "(J)I" } : Jvm.MethodName)) ∈ TB := TB_of 999 (by decide +kernel) (by decide +kernel)
theorem tb_1001 : (Jvm.Cond.constantLong "java/lang/Long" (314 : Nat) (6148914691236517205 : Int64)) ∈ TB := TB_of 1001 (by decide +kernel) (by decide +kernel)
theorem tb_1002 : (Jvm.Cond.constantLong "java/lang/Long" (316 : Nat) (3689348814741910323 : Int64)) ∈ TB := TB_of 1002 (by decide +kernel) (by decide +kernel)
theorem tb_1003 : (Jvm.Cond.constantLong "java/lang/Long" (318 : Nat) (1085102592571150095 : Int64)) ∈ TB := TB_of 1003 (by decide +kernel) (by decide +kernel)
theorem tb_1008 : (Jvm.Cond.methodLink "LieClock" (180 : Nat) ({ cls := "java/lang/Integer", name := "bitCount", desc := "(I)I" } : Jvm.MethodName)) ∈ TB := TB_of 1008 (by decide +kernel) (by decide +kernel)
theorem tb_1009 : (Jvm.Cond.static ({ cls := "java/lang/Integer", name := "bitCount", desc := "(I)I" } : Jvm.MethodName)) ∈ TB := TB_of 1009 (by decide +kernel) (by decide +kernel)
theorem tb_1011 : (Jvm.Cond.constant "java/lang/Integer" (265 : Nat) (1431655765 : Int32)) ∈ TB := TB_of 1011 (by decide +kernel) (by decide +kernel)
theorem tb_1012 : (Jvm.Cond.constant "java/lang/Integer" (266 : Nat) (858993459 : Int32)) ∈ TB := TB_of 1012 (by decide +kernel) (by decide +kernel)
theorem tb_1013 : (Jvm.Cond.constant "java/lang/Integer" (267 : Nat) (252645135 : Int32)) ∈ TB := TB_of 1013 (by decide +kernel) (by decide +kernel)
theorem tb_1014 : (Jvm.Cond.methodLink "LieClock" (188 : Nat) ({ cls := "LieClock$Told", name := "together", desc := "(I)J" } : Jvm.MethodName)) ∈ TB := TB_of 1014 (by decide +kernel) (by decide +kernel)
theorem tb_1015 : (Jvm.Cond.instanceMethod ({ cls := "LieClock$Told", name := "together", desc := "(I)J" } : Jvm.MethodName)) ∈ TB := TB_of 1015 (by decide +kernel) (by decide +kernel)
theorem tb_1016 : (Jvm.Cond.selects "LieClock$Told" ({ cls := "LieClock$Told", name := "together", desc := "(I)J" } : Jvm.MethodName) ({ cls := "LieClock$Told", name := "together", desc := "(I)J" } : Jvm.MethodName)) ∈ TB := TB_of 1016 (by decide +kernel) (by decide +kernel)
theorem tb_1022 : (Jvm.Cond.constant "LieClock" (192 : Nat) (-1000000 : Int32)) ∈ TB := TB_of 1022 (by decide +kernel) (by decide +kernel)
theorem tb_1027 : (Jvm.Cond.methodLink "LieClock" (196 : Nat) ({ cls := "LieClock$Told", name := "hasCase", desc := "(I)Z" } : Jvm.MethodName)) ∈ TB := TB_of 1027 (by decide +kernel) (by decide +kernel)
theorem tb_1028 : (Jvm.Cond.instanceMethod ({ cls := "LieClock$Told", name := "hasCase", desc := "(I)Z" } : Jvm.MethodName)) ∈ TB := TB_of 1028 (by decide +kernel) (by decide +kernel)
theorem tb_1029 : (Jvm.Cond.selects "LieClock$Told" ({ cls := "LieClock$Told", name := "hasCase", desc := "(I)Z" } : Jvm.MethodName) ({ cls := "LieClock$Told", name := "hasCase", desc := "(I)Z" } : Jvm.MethodName)) ∈ TB := TB_of 1029 (by decide +kernel) (by decide +kernel)
theorem tb_1031 : (Jvm.Cond.methodLink "LieClock" (208 : Nat) ({ cls := "LieClock$State", name := "verdictOf", desc := "(LLieClock$Told;I)I" } : Jvm.MethodName)) ∈ TB := TB_of 1031 (by decide +kernel) (by decide +kernel)
theorem tb_1032 : (Jvm.Cond.instanceMethod ({ cls := "LieClock$State", name := "verdictOf", desc := "(LLieClock$Told;I)I" } : Jvm.MethodName)) ∈ TB := TB_of 1032 (by decide +kernel) (by decide +kernel)
theorem tb_1033 : (Jvm.Cond.selects "LieClock$State" ({ cls := "LieClock$State", name := "verdictOf", desc := "(LLieClock$Told;I)I" } : Jvm.MethodName) ({ cls := "LieClock$State", name := "verdictOf", desc := "(LLieClock$Told;I)I" } : Jvm.MethodName)) ∈ TB := TB_of 1033 (by decide +kernel) (by decide +kernel)
theorem tb_1035 : (Jvm.Cond.methodLink "LieClock$State" (140 : Nat) ({ cls := "LieClock$Told", name := "together", desc := "(I)J" } : Jvm.MethodName)) ∈ TB := TB_of 1035 (by decide +kernel) (by decide +kernel)
theorem tb_1040 : (Jvm.Cond.methodLink "LieClock" (212 : Nat) ({ cls := "LieClock", name := "keepForUndo", desc := "()V" } : Jvm.MethodName)) ∈ TB := TB_of 1040 (by decide +kernel) (by decide +kernel)
theorem tb_1042 : (Jvm.Cond.instanceMethod ({ cls := "LieClock", name := "keepForUndo", desc := "()V" } : Jvm.MethodName)) ∈ TB := TB_of 1042 (by decide +kernel) (by decide +kernel)
theorem tb_1044 : (Jvm.Cond.methodLink "LieClock" (228 : Nat) ({ cls := "LieClock$State", name := "copyFrom", desc := "(LLieClock$State;)V" } : Jvm.MethodName)) ∈ TB := TB_of 1044 (by decide +kernel) (by decide +kernel)
theorem tb_1045 : (Jvm.Cond.instanceMethod ({ cls := "LieClock$State", name := "copyFrom", desc := "(LLieClock$State;)V" } : Jvm.MethodName)) ∈ TB := TB_of 1045 (by decide +kernel) (by decide +kernel)
theorem tb_1046 : (Jvm.Cond.selects "LieClock$State" ({ cls := "LieClock$State", name := "copyFrom", desc := "(LLieClock$State;)V" } : Jvm.MethodName) ({ cls := "LieClock$State", name := "copyFrom", desc := "(LLieClock$State;)V" } : Jvm.MethodName)) ∈ TB := TB_of 1046 (by decide +kernel) (by decide +kernel)
theorem tb_1048 : (Jvm.Cond.methodLink "LieClock$State" (69 : Nat) ({ cls := "LieClock$State", name := "copyMoment", desc := "(LLieClock$State;)V" } : Jvm.MethodName)) ∈ TB := TB_of 1048 (by decide +kernel) (by decide +kernel)
theorem tb_1049 : (Jvm.Cond.instanceMethod ({ cls := "LieClock$State", name := "copyMoment", desc := "(LLieClock$State;)V" } : Jvm.MethodName)) ∈ TB := TB_of 1049 (by decide +kernel) (by decide +kernel)
theorem tb_1050 : (Jvm.Cond.selects "LieClock$State" ({ cls := "LieClock$State", name := "copyMoment", desc := "(LLieClock$State;)V" } : Jvm.MethodName) ({ cls := "LieClock$State", name := "copyMoment", desc := "(LLieClock$State;)V" } : Jvm.MethodName)) ∈ TB := TB_of 1050 (by decide +kernel) (by decide +kernel)
theorem tb_1052 : (Jvm.Cond.methodLink "LieClock$State" (73 : Nat) ({ cls := "java/lang/System", name := "arraycopy", desc := "(Ljava/lang/Object;ILjava/lang/Object;II)V" } : Jvm.MethodName)) ∈ TB := TB_of 1052 (by decide +kernel) (by decide +kernel)
theorem tb_1053 : (Jvm.Cond.static ({ cls := "java/lang/System", name := "arraycopy", desc := "(Ljava/lang/Object;ILjava/lang/Object;II)V" } : Jvm.MethodName)) ∈ TB := TB_of 1053 (by decide +kernel) (by decide +kernel)
theorem tb_1054 : (Jvm.Cond.native ({ cls := "java/lang/System", name := "arraycopy", desc := "(Ljava/lang/Object;ILjava/lang/Object;II)V" } : Jvm.MethodName)) ∈ TB := TB_of 1054 (by decide +kernel) (by decide +kernel)
theorem tb_1055 : (Jvm.Cond.methodLink "LieClock" (318 : Nat) ({ cls := "java/lang/Math", name := "min", desc := "(II)I" } : Jvm.MethodName)) ∈ TB := TB_of 1055 (by decide +kernel) (by decide +kernel)
theorem tb_1056 : (Jvm.Cond.methodLink "LieClock" (215 : Nat) ({ cls := "LieClock$State", name := "utter", desc := "(LLieClock$Told;I)I" } : Jvm.MethodName)) ∈ TB := TB_of 1056 (by decide +kernel) (by decide +kernel)
theorem tb_1057 : (Jvm.Cond.instanceMethod ({ cls := "LieClock$State", name := "utter", desc := "(LLieClock$Told;I)I" } : Jvm.MethodName)) ∈ TB := TB_of 1057 (by decide +kernel) (by decide +kernel)
theorem tb_1058 : (Jvm.Cond.selects "LieClock$State" ({ cls := "LieClock$State", name := "utter", desc := "(LLieClock$Told;I)I" } : Jvm.MethodName) ({ cls := "LieClock$State", name := "utter", desc := "(LLieClock$Told;I)I" } : Jvm.MethodName)) ∈ TB := TB_of 1058 (by decide +kernel) (by decide +kernel)
theorem tb_1060 : (Jvm.Cond.methodLink "LieClock$State" (79 : Nat) ({ cls := "LieClock$State", name := "goForward", desc := "(LLieClock$Told;I)V" } : Jvm.MethodName)) ∈ TB := TB_of 1060 (by decide +kernel) (by decide +kernel)
theorem tb_1061 : (Jvm.Cond.instanceMethod ({ cls := "LieClock$State", name := "goForward", desc := "(LLieClock$Told;I)V" } : Jvm.MethodName)) ∈ TB := TB_of 1061 (by decide +kernel) (by decide +kernel)
theorem tb_1062 : (Jvm.Cond.selects "LieClock$State" ({ cls := "LieClock$State", name := "goForward", desc := "(LLieClock$Told;I)V" } : Jvm.MethodName) ({ cls := "LieClock$State", name := "goForward", desc := "(LLieClock$Told;I)V" } : Jvm.MethodName)) ∈ TB := TB_of 1062 (by decide +kernel) (by decide +kernel)
theorem tb_1064 : (Jvm.Cond.constant "LieClock$State" (112 : Nat) (100000 : Int32)) ∈ TB := TB_of 1064 (by decide +kernel) (by decide +kernel)
theorem tb_1065 : (Jvm.Cond.methodLink "LieClock$State" (113 : Nat) ({ cls := "java/lang/Math", name := "min", desc := "(II)I" } : Jvm.MethodName)) ∈ TB := TB_of 1065 (by decide +kernel) (by decide +kernel)
theorem tb_1066 : (Jvm.Cond.methodLink "LieClock$State" (125 : Nat) ({ cls := "LieClock$State", name := "hear", desc := "(LLieClock$Told;I)V" } : Jvm.MethodName)) ∈ TB := TB_of 1066 (by decide +kernel) (by decide +kernel)
theorem tb_1068 : (Jvm.Cond.instanceMethod ({ cls := "LieClock$State", name := "hear", desc := "(LLieClock$Told;I)V" } : Jvm.MethodName)) ∈ TB := TB_of 1068 (by decide +kernel) (by decide +kernel)
theorem tb_1070 : (Jvm.Cond.methodLink "LieClock$State" (137 : Nat) ({ cls := "LieClock$State", name := "verdictOf", desc := "(LLieClock$Told;I)I" } : Jvm.MethodName)) ∈ TB := TB_of 1070 (by decide +kernel) (by decide +kernel)
theorem tb_1071 : (Jvm.Cond.methodLink "LieClock$State" (99 : Nat) ({ cls := "LieClock$Law", name := "minutes", desc := "(LLieClock$State;I)I" } : Jvm.MethodName)) ∈ TB := TB_of 1071 (by decide +kernel) (by decide +kernel)
theorem tb_1072 : (Jvm.Cond.instanceMethod ({ cls := "LieClock$Law", name := "minutes", desc := "(LLieClock$State;I)I" } : Jvm.MethodName)) ∈ TB := TB_of 1072 (by decide +kernel) (by decide +kernel)
theorem tb_1073 : (Jvm.Cond.selects "LieClock$Law" ({ cls := "LieClock$Law", name := "minutes", desc := "(LLieClock$State;I)I" } : Jvm.MethodName) ({ cls := "LieClock$Law", name := "minutes", desc := "(LLieClock$State;I)I" } : Jvm.MethodName)) ∈ TB := TB_of 1073 (by decide +kernel) (by decide +kernel)
theorem tb_1075 : (Jvm.Cond.methodLink "LieClock$Law" (29 : Nat) ({ cls := "LieClock$Law", name := "push", desc := "(I)V" } : Jvm.MethodName)) ∈ TB := TB_of 1075 (by decide +kernel) (by decide +kernel)
theorem tb_1077 : (Jvm.Cond.instanceMethod ({ cls := "LieClock$Law", name := "push", desc := "(I)V" } : Jvm.MethodName)) ∈ TB := TB_of 1077 (by decide +kernel) (by decide +kernel)
theorem tb_1079 : (Jvm.Cond.methodLink "LieClock$Law" (33 : Nat) ({ cls := "LieClock$Law", name := "operate", desc := "(I)V" } : Jvm.MethodName)) ∈ TB := TB_of 1079 (by decide +kernel) (by decide +kernel)
theorem tb_1081 : (Jvm.Cond.instanceMethod ({ cls := "LieClock$Law", name := "operate", desc := "(I)V" } : Jvm.MethodName)) ∈ TB := TB_of 1081 (by decide +kernel) (by decide +kernel)
theorem tb_1083 : (Jvm.Cond.methodLink "LieClock$Law" (36 : Nat) ({ cls := "LieClock$State", name := "valueOf", desc := "(II)I" } : Jvm.MethodName)) ∈ TB := TB_of 1083 (by decide +kernel) (by decide +kernel)
theorem tb_1084 : (Jvm.Cond.instanceMethod ({ cls := "LieClock$State", name := "valueOf", desc := "(II)I" } : Jvm.MethodName)) ∈ TB := TB_of 1084 (by decide +kernel) (by decide +kernel)
theorem tb_1085 : (Jvm.Cond.selects "LieClock$State" ({ cls := "LieClock$State", name := "valueOf", desc := "(II)I" } : Jvm.MethodName) ({ cls := "LieClock$State", name := "valueOf", desc := "(II)I" } : Jvm.MethodName)) ∈ TB := TB_of 1085 (by decide +kernel) (by decide +kernel)
theorem tb_1087 : (Jvm.Cond.methodLink "LieClock$State" (157 : Nat) ({ cls := "java/lang/Integer", name := "bitCount", desc := "(I)I" } : Jvm.MethodName)) ∈ TB := TB_of 1087 (by decide +kernel) (by decide +kernel)
theorem tb_1088 : (Jvm.Cond.methodLink "LieClock$State" (163 : Nat) ({ cls := "java/lang/Math", name := "floorMod", desc := "(II)I" } : Jvm.MethodName)) ∈ TB := TB_of 1088 (by decide +kernel) (by decide +kernel)
theorem tb_1089 : (Jvm.Cond.static ({ cls := "java/lang/Math", name := "floorMod", desc := "(II)I" } : Jvm.MethodName)) ∈ TB := TB_of 1089 (by decide +kernel) (by decide +kernel)
theorem tb_1091 : (Jvm.Cond.methodLink "LieClock$Law" (42 : Nat) ({ cls := "java/lang/Math", name := "min", desc := "(II)I" } : Jvm.MethodName)) ∈ TB := TB_of 1091 (by decide +kernel) (by decide +kernel)
theorem tb_1092 : (Jvm.Cond.methodLink "LieClock$Law" (47 : Nat) ({ cls := "java/lang/Math", name := "max", desc := "(II)I" } : Jvm.MethodName)) ∈ TB := TB_of 1092 (by decide +kernel) (by decide +kernel)
theorem tb_1093 : (Jvm.Cond.methodLink "LieClock$State" (105 : Nat) ({ cls := "LieClock$State", name := "examine", desc := "(LLieClock$Told;I)I" } : Jvm.MethodName)) ∈ TB := TB_of 1093 (by decide +kernel) (by decide +kernel)
theorem tb_1095 : (Jvm.Cond.instanceMethod ({ cls := "LieClock$State", name := "examine", desc := "(LLieClock$Told;I)I" } : Jvm.MethodName)) ∈ TB := TB_of 1095 (by decide +kernel) (by decide +kernel)
theorem tb_1097 : (Jvm.Cond.constant "LieClock$State" (153 : Nat) (-100000 : Int32)) ∈ TB := TB_of 1097 (by decide +kernel) (by decide +kernel)
theorem tb_1098 : (Jvm.Cond.methodLink "LieClock$State" (154 : Nat) ({ cls := "java/lang/Math", name := "max", desc := "(II)I" } : Jvm.MethodName)) ∈ TB := TB_of 1098 (by decide +kernel) (by decide +kernel)
theorem tb_1103 : (Jvm.Cond.methodLink "LieClock" (218 : Nat) ({ cls := "LieClock$State", name := "reveal", desc := "(LLieClock$Told;I)I" } : Jvm.MethodName)) ∈ TB := TB_of 1103 (by decide +kernel) (by decide +kernel)
theorem tb_1104 : (Jvm.Cond.instanceMethod ({ cls := "LieClock$State", name := "reveal", desc := "(LLieClock$Told;I)I" } : Jvm.MethodName)) ∈ TB := TB_of 1104 (by decide +kernel) (by decide +kernel)
theorem tb_1105 : (Jvm.Cond.selects "LieClock$State" ({ cls := "LieClock$State", name := "reveal", desc := "(LLieClock$Told;I)I" } : Jvm.MethodName) ({ cls := "LieClock$State", name := "reveal", desc := "(LLieClock$Told;I)I" } : Jvm.MethodName)) ∈ TB := TB_of 1105 (by decide +kernel) (by decide +kernel)
theorem tb_1111 : (Jvm.Cond.methodLink "LieClock" (221 : Nat) ({ cls := "LieClock$State", name := "goForward", desc := "(LLieClock$Told;I)V" } : Jvm.MethodName)) ∈ TB := TB_of 1111 (by decide +kernel) (by decide +kernel)
theorem tb_1120 : (Jvm.Cond.methodLink "LieClock" (232 : Nat) ({ cls := "LieClock$State", name := "copyMoment", desc := "(LLieClock$State;)V" } : Jvm.MethodName)) ∈ TB := TB_of 1120 (by decide +kernel) (by decide +kernel)
theorem tb_1125 : (Jvm.Cond.methodLink "LieClock" (235 : Nat) ({ cls := "LieClock", name := "areTwoCases", desc := "(II)Z" } : Jvm.MethodName)) ∈ TB := TB_of 1125 (by decide +kernel) (by decide +kernel)
theorem tb_1127 : (Jvm.Cond.instanceMethod ({ cls := "LieClock", name := "areTwoCases", desc := "(II)Z" } : Jvm.MethodName)) ∈ TB := TB_of 1127 (by decide +kernel) (by decide +kernel)
theorem tb_1211 : (Jvm.Cond.methodLink "LieClock" (250 : Nat) ({ cls := "LieClock", name := "canBeOrdered", desc := "(I)Z" } : Jvm.MethodName)) ∈ TB := TB_of 1211 (by decide +kernel) (by decide +kernel)
theorem tb_1213 : (Jvm.Cond.instanceMethod ({ cls := "LieClock", name := "canBeOrdered", desc := "(I)Z" } : Jvm.MethodName)) ∈ TB := TB_of 1213 (by decide +kernel) (by decide +kernel)
theorem tb_1215 : (Jvm.Cond.methodLink "LieClock" (278 : Nat) ({ cls := "LieClock$Told", name := "hasSet", desc := "(I)Z" } : Jvm.MethodName)) ∈ TB := TB_of 1215 (by decide +kernel) (by decide +kernel)
theorem tb_1216 : (Jvm.Cond.instanceMethod ({ cls := "LieClock$Told", name := "hasSet", desc := "(I)Z" } : Jvm.MethodName)) ∈ TB := TB_of 1216 (by decide +kernel) (by decide +kernel)
theorem tb_1217 : (Jvm.Cond.selects "LieClock$Told" ({ cls := "LieClock$Told", name := "hasSet", desc := "(I)Z" } : Jvm.MethodName) ({ cls := "LieClock$Told", name := "hasSet", desc := "(I)Z" } : Jvm.MethodName)) ∈ TB := TB_of 1217 (by decide +kernel) (by decide +kernel)
theorem tb_1219 : (Jvm.Cond.methodLink "LieClock" (253 : Nat) ({ cls := "LieClock$Orders", name := "find", desc := "(LLieClock$Told;LLieClock$State;IZ)V" } : Jvm.MethodName)) ∈ TB := TB_of 1219 (by decide +kernel) (by decide +kernel)
theorem tb_1220 : (Jvm.Cond.instanceMethod ({ cls := "LieClock$Orders", name := "find", desc := "(LLieClock$Told;LLieClock$State;IZ)V" } : Jvm.MethodName)) ∈ TB := TB_of 1220 (by decide +kernel) (by decide +kernel)
theorem tb_1221 : (Jvm.Cond.selects "LieClock$Orders" ({ cls := "LieClock$Orders", name := "find", desc := "(LLieClock$Told;LLieClock$State;IZ)V" } : Jvm.MethodName) ({ cls := "LieClock$Orders", name := "find", desc := "(LLieClock$Told;LLieClock$State;IZ)V" } : Jvm.MethodName)) ∈ TB := TB_of 1221 (by decide +kernel) (by decide +kernel)
theorem tb_1223 : (Jvm.Cond.methodLink "LieClock$Orders" (41 : Nat) ({ cls := "LieClock$State", name := "copyMoment", desc := "(LLieClock$State;)V" } : Jvm.MethodName)) ∈ TB := TB_of 1223 (by decide +kernel) (by decide +kernel)
theorem tb_1224 : (Jvm.Cond.methodLink "LieClock$Orders" (45 : Nat) ({ cls := "LieClock$Orders", name := "extend", desc := "(LLieClock$Told;II)V" } : Jvm.MethodName)) ∈ TB := TB_of 1224 (by decide +kernel) (by decide +kernel)
theorem tb_1226 : (Jvm.Cond.instanceMethod ({ cls := "LieClock$Orders", name := "extend", desc := "(LLieClock$Told;II)V" } : Jvm.MethodName)) ∈ TB := TB_of 1226 (by decide +kernel) (by decide +kernel)
theorem tb_1228 : (Jvm.Cond.methodLink "LieClock$Orders" (49 : Nat) ({ cls := "java/lang/Math", name := "min", desc := "(II)I" } : Jvm.MethodName)) ∈ TB := TB_of 1228 (by decide +kernel) (by decide +kernel)
theorem tb_1229 : (Jvm.Cond.methodLink "LieClock$Orders" (55 : Nat) ({ cls := "java/lang/Math", name := "max", desc := "(II)I" } : Jvm.MethodName)) ∈ TB := TB_of 1229 (by decide +kernel) (by decide +kernel)
theorem tb_1230 : (Jvm.Cond.methodLink "LieClock$Orders" (61 : Nat) ({ cls := "LieClock$Orders", name := "judge", desc := "(I)V" } : Jvm.MethodName)) ∈ TB := TB_of 1230 (by decide +kernel) (by decide +kernel)
theorem tb_1232 : (Jvm.Cond.instanceMethod ({ cls := "LieClock$Orders", name := "judge", desc := "(I)V" } : Jvm.MethodName)) ∈ TB := TB_of 1232 (by decide +kernel) (by decide +kernel)
theorem tb_1234 : (Jvm.Cond.methodLink "LieClock$Orders" (77 : Nat) ({ cls := "java/lang/System", name := "arraycopy", desc := "(Ljava/lang/Object;ILjava/lang/Object;II)V" } : Jvm.MethodName)) ∈ TB := TB_of 1234 (by decide +kernel) (by decide +kernel)
theorem tb_1235 : (Jvm.Cond.methodLink "LieClock$Orders" (70 : Nat) ({ cls := "LieClock$State", name := "utter", desc := "(LLieClock$Told;I)I" } : Jvm.MethodName)) ∈ TB := TB_of 1235 (by decide +kernel) (by decide +kernel)
theorem tb_1244 : (Jvm.Cond.methodLink "LieClock" (262 : Nat) ({ cls := "LieClock$Orders", name := "canAvoid", desc := "(LLieClock$Told;LLieClock$State;II)Z" } : Jvm.MethodName)) ∈ TB := TB_of 1244 (by decide +kernel) (by decide +kernel)
theorem tb_1245 : (Jvm.Cond.instanceMethod ({ cls := "LieClock$Orders", name := "canAvoid", desc := "(LLieClock$Told;LLieClock$State;II)Z" } : Jvm.MethodName)) ∈ TB := TB_of 1245 (by decide +kernel) (by decide +kernel)
theorem tb_1246 : (Jvm.Cond.selects "LieClock$Orders" ({ cls := "LieClock$Orders", name := "canAvoid", desc := "(LLieClock$Told;LLieClock$State;II)Z" } : Jvm.MethodName) ({ cls := "LieClock$Orders", name := "canAvoid", desc := "(LLieClock$Told;LLieClock$State;II)Z" } : Jvm.MethodName)) ∈ TB := TB_of 1246 (by decide +kernel) (by decide +kernel)
theorem tb_1248 : (Jvm.Cond.methodLink "LieClock$Orders" (83 : Nat) ({ cls := "LieClock$Orders", name := "avoids", desc := "(LLieClock$Told;III)Z" } : Jvm.MethodName)) ∈ TB := TB_of 1248 (by decide +kernel) (by decide +kernel)
theorem tb_1250 : (Jvm.Cond.instanceMethod ({ cls := "LieClock$Orders", name := "avoids", desc := "(LLieClock$Told;III)Z" } : Jvm.MethodName)) ∈ TB := TB_of 1250 (by decide +kernel) (by decide +kernel)
theorem tb_1256 : (Jvm.Cond.methodLink "LieClock" (269 : Nat) ({ cls := "LieClock$Sets", name := "takeWords", desc := "(LLieClock$Told;I)V" } : Jvm.MethodName)) ∈ TB := TB_of 1256 (by decide +kernel) (by decide +kernel)
theorem tb_1257 : (Jvm.Cond.instanceMethod ({ cls := "LieClock$Sets", name := "takeWords", desc := "(LLieClock$Told;I)V" } : Jvm.MethodName)) ∈ TB := TB_of 1257 (by decide +kernel) (by decide +kernel)
theorem tb_1258 : (Jvm.Cond.selects "LieClock$Sets" ({ cls := "LieClock$Sets", name := "takeWords", desc := "(LLieClock$Told;I)V" } : Jvm.MethodName) ({ cls := "LieClock$Sets", name := "takeWords", desc := "(LLieClock$Told;I)V" } : Jvm.MethodName)) ∈ TB := TB_of 1258 (by decide +kernel) (by decide +kernel)
theorem tb_1260 : (Jvm.Cond.methodLink "LieClock$Sets" (34 : Nat) ({ cls := "LieClock$Sets", name := "add", desc := "(IJ)V" } : Jvm.MethodName)) ∈ TB := TB_of 1260 (by decide +kernel) (by decide +kernel)
theorem tb_1262 : (Jvm.Cond.instanceMethod ({ cls := "LieClock$Sets", name := "add", desc := "(IJ)V" } : Jvm.MethodName)) ∈ TB := TB_of 1262 (by decide +kernel) (by decide +kernel)
theorem tb_1264 : (Jvm.Cond.constantLong "LieClock" (272 : Nat) (-1 : Int64)) ∈ TB := TB_of 1264 (by decide +kernel) (by decide +kernel)
theorem tb_1265 : (Jvm.Cond.methodLink "LieClock" (274 : Nat) ({ cls := "LieClock$Sets", name := "fewest", desc := "(JJJ)I" } : Jvm.MethodName)) ∈ TB := TB_of 1265 (by decide +kernel) (by decide +kernel)
theorem tb_1266 : (Jvm.Cond.instanceMethod ({ cls := "LieClock$Sets", name := "fewest", desc := "(JJJ)I" } : Jvm.MethodName)) ∈ TB := TB_of 1266 (by decide +kernel) (by decide +kernel)
theorem tb_1267 : (Jvm.Cond.selects "LieClock$Sets" ({ cls := "LieClock$Sets", name := "fewest", desc := "(JJJ)I" } : Jvm.MethodName) ({ cls := "LieClock$Sets", name := "fewest", desc := "(JJJ)I" } : Jvm.MethodName)) ∈ TB := TB_of 1267 (by decide +kernel) (by decide +kernel)
theorem tb_1269 : (Jvm.Cond.methodLink "LieClock$Sets" (52 : Nat) ({ cls := "LieClock$Sets", name := "isEnough", desc := "(J)Z" } : Jvm.MethodName)) ∈ TB := TB_of 1269 (by decide +kernel) (by decide +kernel)
theorem tb_1271 : (Jvm.Cond.instanceMethod ({ cls := "LieClock$Sets", name := "isEnough", desc := "(J)Z" } : Jvm.MethodName)) ∈ TB := TB_of 1271 (by decide +kernel) (by decide +kernel)
theorem tb_1273 : (Jvm.Cond.constantLong "LieClock$Sets" (56 : Nat) (-1 : Int64)) ∈ TB := TB_of 1273 (by decide +kernel) (by decide +kernel)
theorem tb_1274 : (Jvm.Cond.methodLink "LieClock$Sets" (58 : Nat) ({ cls := "LieClock$Sets", name := "pick", desc := "(IIJ)I" } : Jvm.MethodName)) ∈ TB := TB_of 1274 (by decide +kernel) (by decide +kernel)
theorem tb_1276 : (Jvm.Cond.instanceMethod ({ cls := "LieClock$Sets", name := "pick", desc := "(IIJ)I" } : Jvm.MethodName)) ∈ TB := TB_of 1276 (by decide +kernel) (by decide +kernel)
theorem tb_1286 : (Jvm.Cond.methodLink "LieClock" (281 : Nat) ({ cls := "LieClock$Sets", name := "takeFacts", desc := "(LLieClock$Told;I)V" } : Jvm.MethodName)) ∈ TB := TB_of 1286 (by decide +kernel) (by decide +kernel)
theorem tb_1287 : (Jvm.Cond.instanceMethod ({ cls := "LieClock$Sets", name := "takeFacts", desc := "(LLieClock$Told;I)V" } : Jvm.MethodName)) ∈ TB := TB_of 1287 (by decide +kernel) (by decide +kernel)
theorem tb_1288 : (Jvm.Cond.selects "LieClock$Sets" ({ cls := "LieClock$Sets", name := "takeFacts", desc := "(LLieClock$Told;I)V" } : Jvm.MethodName) ({ cls := "LieClock$Sets", name := "takeFacts", desc := "(LLieClock$Told;I)V" } : Jvm.MethodName)) ∈ TB := TB_of 1288 (by decide +kernel) (by decide +kernel)
theorem tb_1290 : (Jvm.Cond.methodLink "LieClock$Sets" (41 : Nat) ({ cls := "LieClock$Told", name := "asItIs", desc := "(I)J" } : Jvm.MethodName)) ∈ TB := TB_of 1290 (by decide +kernel) (by decide +kernel)
theorem tb_1299 : (Jvm.Cond.constant "LieClock" (287 : Nat) (-100000 : Int32)) ∈ TB := TB_of 1299 (by decide +kernel) (by decide +kernel)
theorem tb_1300 : (Jvm.Cond.constant "LieClock" (288 : Nat) (100000 : Int32)) ∈ TB := TB_of 1300 (by decide +kernel) (by decide +kernel)
theorem tb_1301 : (Jvm.Cond.methodLink "LieClock" (289 : Nat) ({ cls := "LieClock$Book", name := "add", desc := "(I)I" } : Jvm.MethodName)) ∈ TB := TB_of 1301 (by decide +kernel) (by decide +kernel)
theorem tb_1302 : (Jvm.Cond.instanceMethod ({ cls := "LieClock$Book", name := "add", desc := "(I)I" } : Jvm.MethodName)) ∈ TB := TB_of 1302 (by decide +kernel) (by decide +kernel)
theorem tb_1303 : (Jvm.Cond.selects "LieClock$Book" ({ cls := "LieClock$Book", name := "add", desc := "(I)I" } : Jvm.MethodName) ({ cls := "LieClock$Book", name := "add", desc := "(I)I" } : Jvm.MethodName)) ∈ TB := TB_of 1303 (by decide +kernel) (by decide +kernel)
theorem tb_1344 : (Jvm.Cond.methodLink "LieClock" (306 : Nat) ({ cls := "LieClock$Tape", name := "copyFrom", desc := "(LLieClock$Tape;)V" } : Jvm.MethodName)) ∈ TB := TB_of 1344 (by decide +kernel) (by decide +kernel)
theorem tb_1345 : (Jvm.Cond.instanceMethod ({ cls := "LieClock$Tape", name := "copyFrom", desc := "(LLieClock$Tape;)V" } : Jvm.MethodName)) ∈ TB := TB_of 1345 (by decide +kernel) (by decide +kernel)
theorem tb_1346 : (Jvm.Cond.selects "LieClock$Tape" ({ cls := "LieClock$Tape", name := "copyFrom", desc := "(LLieClock$Tape;)V" } : Jvm.MethodName) ({ cls := "LieClock$Tape", name := "copyFrom", desc := "(LLieClock$Tape;)V" } : Jvm.MethodName)) ∈ TB := TB_of 1346 (by decide +kernel) (by decide +kernel)
theorem tb_1348 : (Jvm.Cond.methodLink "LieClock$Tape" (19 : Nat) ({ cls := "java/lang/System", name := "arraycopy", desc := "(Ljava/lang/Object;ILjava/lang/Object;II)V" } : Jvm.MethodName)) ∈ TB := TB_of 1348 (by decide +kernel) (by decide +kernel)
theorem tb_1357 : (Jvm.Cond.methodLink "LieClock" (315 : Nat) ({ cls := "LieClock", name := "heldSlots", desc := "()I" } : Jvm.MethodName)) ∈ TB := TB_of 1357 (by decide +kernel) (by decide +kernel)
theorem tb_1359 : (Jvm.Cond.instanceMethod ({ cls := "LieClock", name := "heldSlots", desc := "()I" } : Jvm.MethodName)) ∈ TB := TB_of 1359 (by decide +kernel) (by decide +kernel)
theorem tb_1962 : (Jvm.Cond.fieldLink "java/lang/String" (9 : Nat) "java/lang/String" "value" "[B") ∈ TB := TB_of 1962 (by decide +kernel) (by decide +kernel)
theorem tb_1963 : (Jvm.Cond.fieldLink "java/lang/String" (15 : Nat) "java/lang/String" "coder" "B") ∈ TB := TB_of 1963 (by decide +kernel) (by decide +kernel)
theorem nw_39 : (Jvm.Cond.fieldLinkNest "LieClock" (105 : Nat) "LieClock$Tape" "length" "I" "LieClock") ∈ NWs := NW_of 39 (by decide +kernel) rfl
theorem nw_41 : (Jvm.Cond.fieldLinkNest "LieClock$Tokens" (52 : Nat) "LieClock$Tape" "length" "I" "LieClock") ∈ NWs := NW_of 41 (by decide +kernel) rfl
theorem nw_63 : (Jvm.Cond.fieldLinkNest "LieClock$Told" (88 : Nat) "LieClock$Law" "length" "I" "LieClock") ∈ NWs := NW_of 63 (by decide +kernel) rfl
theorem nw_80 : (Jvm.Cond.fieldLinkNest "LieClock$State" (56 : Nat) "LieClock$Told" "facts" "I" "LieClock") ∈ NWs := NW_of 80 (by decide +kernel) rfl
theorem nw_81 : (Jvm.Cond.fieldLinkNest "LieClock$Sets" (38 : Nat) "LieClock$Told" "facts" "I" "LieClock") ∈ NWs := NW_of 81 (by decide +kernel) rfl
theorem nw_82 : (Jvm.Cond.fieldLinkNest "LieClock" (131 : Nat) "LieClock$Told" "facts" "I" "LieClock") ∈ NWs := NW_of 82 (by decide +kernel) rfl
theorem nw_83 : (Jvm.Cond.fieldLinkNest "LieClock$Parser" (96 : Nat) "LieClock$Told" "facts" "I" "LieClock") ∈ NWs := NW_of 83 (by decide +kernel) rfl
theorem nw_85 : (Jvm.Cond.fieldLinkNest "LieClock" (134 : Nat) "LieClock$Told" "truths" "I" "LieClock") ∈ NWs := NW_of 85 (by decide +kernel) rfl
theorem nw_87 : (Jvm.Cond.fieldLinkNest "LieClock$State" (40 : Nat) "LieClock$Told" "opens" "I" "LieClock") ∈ NWs := NW_of 87 (by decide +kernel) rfl
theorem nw_89 : (Jvm.Cond.fieldLinkNest "LieClock$Book" (51 : Nat) "LieClock$Told" "witnesses" "I" "LieClock") ∈ NWs := NW_of 89 (by decide +kernel) rfl
theorem nw_90 : (Jvm.Cond.fieldLinkNest "LieClock$State" (109 : Nat) "LieClock$Told" "witnesses" "I" "LieClock") ∈ NWs := NW_of 90 (by decide +kernel) rfl
theorem nw_91 : (Jvm.Cond.fieldLinkNest "LieClock" (174 : Nat) "LieClock$Told" "witnesses" "I" "LieClock") ∈ NWs := NW_of 91 (by decide +kernel) rfl
theorem nw_92 : (Jvm.Cond.fieldLinkNest "LieClock$Parser" (114 : Nat) "LieClock$Told" "witnesses" "I" "LieClock") ∈ NWs := NW_of 92 (by decide +kernel) rfl
theorem nw_93 : (Jvm.Cond.fieldLinkNest "LieClock$Sets" (26 : Nat) "LieClock$Told" "words" "I" "LieClock") ∈ NWs := NW_of 93 (by decide +kernel) rfl
theorem nw_95 : (Jvm.Cond.fieldLinkNest "LieClock$Orders" (65 : Nat) "LieClock$Told" "words" "I" "LieClock") ∈ NWs := NW_of 95 (by decide +kernel) rfl
theorem nw_97 : (Jvm.Cond.fieldLinkNest "LieClock$Book" (46 : Nat) "LieClock$Told" "words" "I" "LieClock") ∈ NWs := NW_of 97 (by decide +kernel) rfl
theorem nw_98 : (Jvm.Cond.fieldLinkNest "LieClock$State" (147 : Nat) "LieClock$Told" "words" "I" "LieClock") ∈ NWs := NW_of 98 (by decide +kernel) rfl
theorem nw_99 : (Jvm.Cond.fieldLinkNest "LieClock$Parser" (121 : Nat) "LieClock$Told" "words" "I" "LieClock") ∈ NWs := NW_of 99 (by decide +kernel) rfl
theorem nw_100 : (Jvm.Cond.fieldLinkNest "LieClock" (266 : Nat) "LieClock$Told" "words" "I" "LieClock") ∈ NWs := NW_of 100 (by decide +kernel) rfl
theorem nw_102 : (Jvm.Cond.fieldLinkNest "LieClock$State" (86 : Nat) "LieClock$Told" "selfs" "I" "LieClock") ∈ NWs := NW_of 102 (by decide +kernel) rfl
theorem nw_103 : (Jvm.Cond.fieldLinkNest "LieClock" (148 : Nat) "LieClock$Told" "selfs" "I" "LieClock") ∈ NWs := NW_of 103 (by decide +kernel) rfl
theorem nw_106 : (Jvm.Cond.fieldLinkNest "LieClock$State" (89 : Nat) "LieClock$Told" "trueWords" "I" "LieClock") ∈ NWs := NW_of 106 (by decide +kernel) rfl
theorem nw_107 : (Jvm.Cond.fieldLinkNest "LieClock" (151 : Nat) "LieClock$Told" "trueWords" "I" "LieClock") ∈ NWs := NW_of 107 (by decide +kernel) rfl
theorem nw_109 : (Jvm.Cond.fieldLinkNest "LieClock$State" (119 : Nat) "LieClock$Told" "cases" "I" "LieClock") ∈ NWs := NW_of 109 (by decide +kernel) rfl
theorem nw_110 : (Jvm.Cond.fieldLinkNest "LieClock$Parser" (142 : Nat) "LieClock$Told" "cases" "I" "LieClock") ∈ NWs := NW_of 110 (by decide +kernel) rfl
theorem nw_111 : (Jvm.Cond.fieldLinkNest "LieClock" (309 : Nat) "LieClock$Told" "cases" "I" "LieClock") ∈ NWs := NW_of 111 (by decide +kernel) rfl
theorem nw_112 : (Jvm.Cond.fieldLinkNest "LieClock$State" (25 : Nat) "LieClock$Told" "begin" "I" "LieClock") ∈ NWs := NW_of 112 (by decide +kernel) rfl
theorem nw_114 : (Jvm.Cond.fieldLinkNest "LieClock$Parser" (160 : Nat) "LieClock$Told" "begin" "I" "LieClock") ∈ NWs := NW_of 114 (by decide +kernel) rfl
theorem nw_115 : (Jvm.Cond.fieldLinkNest "LieClock$State" (49 : Nat) "LieClock$Told" "everything" "J" "LieClock") ∈ NWs := NW_of 115 (by decide +kernel) rfl
theorem nw_117 : (Jvm.Cond.fieldLinkNest "LieClock" (164 : Nat) "LieClock$Told" "everything" "J" "LieClock") ∈ NWs := NW_of 117 (by decide +kernel) rfl
theorem nw_121 : (Jvm.Cond.fieldLinkNest "LieClock$State" (96 : Nat) "LieClock$Told" "wordsOf" "[I" "LieClock") ∈ NWs := NW_of 121 (by decide +kernel) rfl
theorem nw_122 : (Jvm.Cond.fieldLinkNest "LieClock" (177 : Nat) "LieClock$Told" "wordsOf" "[I" "LieClock") ∈ NWs := NW_of 122 (by decide +kernel) rfl
theorem nw_124 : (Jvm.Cond.fieldLinkNest "LieClock$State" (83 : Nat) "LieClock$Told" "teller" "[I" "LieClock") ∈ NWs := NW_of 124 (by decide +kernel) rfl
theorem nw_125 : (Jvm.Cond.fieldLinkNest "LieClock" (144 : Nat) "LieClock$Told" "teller" "[I" "LieClock") ∈ NWs := NW_of 125 (by decide +kernel) rfl
theorem nw_127 : (Jvm.Cond.fieldLinkNest "LieClock$Sets" (31 : Nat) "LieClock$Told" "holds" "[J" "LieClock") ∈ NWs := NW_of 127 (by decide +kernel) rfl
theorem nw_128 : (Jvm.Cond.fieldLinkNest "LieClock" (160 : Nat) "LieClock$Told" "holds" "[J" "LieClock") ∈ NWs := NW_of 128 (by decide +kernel) rfl
theorem nw_132 : (Jvm.Cond.fieldLinkNest "LieClock$State" (122 : Nat) "LieClock$Told" "due" "[I" "LieClock") ∈ NWs := NW_of 132 (by decide +kernel) rfl
theorem nw_133 : (Jvm.Cond.fieldLinkNest "LieClock" (199 : Nat) "LieClock$Told" "due" "[I" "LieClock") ∈ NWs := NW_of 133 (by decide +kernel) rfl
theorem nw_135 : (Jvm.Cond.fieldLinkNest "LieClock$State" (143 : Nat) "LieClock$Told" "guilt" "[J" "LieClock") ∈ NWs := NW_of 135 (by decide +kernel) rfl
theorem nw_136 : (Jvm.Cond.fieldLinkNest "LieClock" (284 : Nat) "LieClock$Told" "guilt" "[J" "LieClock") ∈ NWs := NW_of 136 (by decide +kernel) rfl
theorem nw_138 : (Jvm.Cond.fieldLinkNest "LieClock$Parser" (60 : Nat) "LieClock$Told" "back" "LLieClock$Law;" "LieClock") ∈ NWs := NW_of 138 (by decide +kernel) rfl
theorem nw_139 : (Jvm.Cond.fieldLinkNest "LieClock$State" (150 : Nat) "LieClock$Told" "back" "LLieClock$Law;" "LieClock") ∈ NWs := NW_of 139 (by decide +kernel) rfl
theorem nw_141 : (Jvm.Cond.fieldLinkNest "LieClock$Parser" (68 : Nat) "LieClock$Told" "forth" "LLieClock$Law;" "LieClock") ∈ NWs := NW_of 141 (by decide +kernel) rfl
theorem nw_142 : (Jvm.Cond.fieldLinkNest "LieClock$State" (92 : Nat) "LieClock$Told" "forth" "LLieClock$Law;" "LieClock") ∈ NWs := NW_of 142 (by decide +kernel) rfl
theorem nw_250 : (Jvm.Cond.fieldLinkNest "LieClock$Parser" (35 : Nat) "LieClock$Tokens" "kinds" "[I" "LieClock") ∈ NWs := NW_of 250 (by decide +kernel) rfl
theorem nw_253 : (Jvm.Cond.fieldLinkNest "LieClock$Parser" (92 : Nat) "LieClock$Tokens" "values" "[J" "LieClock") ∈ NWs := NW_of 253 (by decide +kernel) rfl
theorem nw_309 : (Jvm.Cond.fieldLinkNest "LieClock$Orders" (58 : Nat) "LieClock$State" "clock" "I" "LieClock") ∈ NWs := NW_of 309 (by decide +kernel) rfl
theorem nw_311 : (Jvm.Cond.fieldLinkNest "LieClock" (128 : Nat) "LieClock$State" "clock" "I" "LieClock") ∈ NWs := NW_of 311 (by decide +kernel) rfl
theorem nw_315 : (Jvm.Cond.fieldLinkNest "LieClock" (154 : Nat) "LieClock$State" "said" "I" "LieClock") ∈ NWs := NW_of 315 (by decide +kernel) rfl
theorem nw_319 : (Jvm.Cond.fieldLinkNest "LieClock" (157 : Nat) "LieClock$State" "caught" "I" "LieClock") ∈ NWs := NW_of 319 (by decide +kernel) rfl
theorem nw_321 : (Jvm.Cond.fieldLinkNest "LieClock" (137 : Nat) "LieClock$State" "open" "I" "LieClock") ∈ NWs := NW_of 321 (by decide +kernel) rfl
theorem nw_324 : (Jvm.Cond.fieldLinkNest "LieClock" (312 : Nat) "LieClock$State" "heard" "I" "LieClock") ∈ NWs := NW_of 324 (by decide +kernel) rfl
theorem nw_326 : (Jvm.Cond.fieldLinkNest "LieClock" (185 : Nat) "LieClock$State" "may" "J" "LieClock") ∈ NWs := NW_of 326 (by decide +kernel) rfl
theorem nw_329 : (Jvm.Cond.fieldLinkNest "LieClock$Orders" (87 : Nat) "LieClock$State" "watched" "I" "LieClock") ∈ NWs := NW_of 329 (by decide +kernel) rfl
theorem nw_331 : (Jvm.Cond.fieldLinkNest "LieClock$Orders" (90 : Nat) "LieClock$State" "came" "Z" "LieClock") ∈ NWs := NW_of 331 (by decide +kernel) rfl
theorem nw_335 : (Jvm.Cond.fieldLinkNest "LieClock" (202 : Nat) "LieClock$State" "times" "[I" "LieClock") ∈ NWs := NW_of 335 (by decide +kernel) rfl
theorem nw_337 : (Jvm.Cond.fieldLinkNest "LieClock" (205 : Nat) "LieClock$State" "verdicts" "[I" "LieClock") ∈ NWs := NW_of 337 (by decide +kernel) rfl
theorem nw_339 : (Jvm.Cond.fieldLinkNest "LieClock" (193 : Nat) "LieClock$State" "shares" "[I" "LieClock") ∈ NWs := NW_of 339 (by decide +kernel) rfl
theorem nw_375 : (Jvm.Cond.fieldLinkNest "LieClock$Told" (112 : Nat) "LieClock" "WHERE_TRUE" "[J" "LieClock") ∈ NWs := NW_of 375 (by decide +kernel) rfl
theorem nw_390 : (Jvm.Cond.fieldLinkNest "LieClock$Book" (72 : Nat) "LieClock$Nodes" "words" "[I" "LieClock") ∈ NWs := NW_of 390 (by decide +kernel) rfl
theorem nw_454 : (Jvm.Cond.fieldLinkNest "LieClock" (259 : Nat) "LieClock$Orders" "best" "[I" "LieClock") ∈ NWs := NW_of 454 (by decide +kernel) rfl
theorem nw_456 : (Jvm.Cond.fieldLinkNest "LieClock" (256 : Nat) "LieClock$Orders" "bestClock" "I" "LieClock") ∈ NWs := NW_of 456 (by decide +kernel) rfl
theorem nw_459 : (Jvm.Cond.fieldLinkNest "LieClock" (328 : Nat) "LieClock$Orders" "known" "Z" "LieClock") ∈ NWs := NW_of 459 (by decide +kernel) rfl
theorem nw_496 : (Jvm.Cond.fieldLinkNest "LieClock" (324 : Nat) "LieClock$Ahead" "known" "Z" "LieClock") ∈ NWs := NW_of 496 (by decide +kernel) rfl
theorem nw_528 : (Jvm.Cond.fieldLinkNest "LieClock" (292 : Nat) "LieClock$Book" "size" "I" "LieClock") ∈ NWs := NW_of 528 (by decide +kernel) rfl
theorem nw_820 : (Jvm.Cond.fieldLinkNest "LieClock$Parser" (178 : Nat) "LieClock" "WHERE_TRUE" "[J" "LieClock") ∈ NWs := NW_of 820 (by decide +kernel) rfl
