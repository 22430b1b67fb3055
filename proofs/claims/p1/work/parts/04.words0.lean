theorem mem_by (ws : List Cond) (ps : List Nat) (hp : ws = ps.filterMap (fun i => lw_tbl[i]?)) (hg : ws.all goodWord = true) : ∀ w ∈ ws, w ∈ TB := by
  intro w hw
  have h1 := List.all_eq_true.mp hg w hw
  rw [hp] at hw
  obtain ⟨i, -, hi⟩ := List.mem_filterMap.mp hw
  exact TB_of i hi h1
set_option maxRecDepth 20000 in
theorem iw_X0 : ∀ w ∈ u_ws RX0 TX0 8, w ∈ TB := mem_by _ [603, 605, 607, 609, 611, 613, 615, 617] (by decide +kernel) (by decide +kernel)
theorem nf_X0 : ∀ j, j < 8 → defaultValue (tyX0 j) = vp_V [.null, .null, .null, .int 0, .int 0, .int 0, .int 0, .int 0] j := by
  intro j hj
  match j, hj with
  | 0, _ => rfl
  | 1, _ => rfl
  | 2, _ => rfl
  | 3, _ => rfl
  | 4, _ => rfl
  | 5, _ => rfl
  | 6, _ => rfl
  | 7, _ => rfl
  | j + 8, h => exact absurd h (by omega)
set_option maxRecDepth 20000 in
theorem iw_X1 : ∀ w ∈ u_ws RX1 TX1 8, w ∈ TB := mem_by _ [640, 642, 644, 646, 648, 650, 652, 654] (by decide +kernel) (by decide +kernel)
theorem nf_X1 : ∀ j, j < 8 → defaultValue (tyX1 j) = vp_V [.null, .null, .null, .int 0, .null, .null, .null, .null] j := by
  intro j hj
  match j, hj with
  | 0, _ => rfl
  | 1, _ => rfl
  | 2, _ => rfl
  | 3, _ => rfl
  | 4, _ => rfl
  | 5, _ => rfl
  | 6, _ => rfl
  | 7, _ => rfl
  | j + 8, h => exact absurd h (by omega)
set_option maxRecDepth 20000 in
theorem iw_X2 : ∀ w ∈ u_ws RX2 TX2 5, w ∈ TB := mem_by _ [170, 172, 174, 176, 178] (by decide +kernel) (by decide +kernel)
theorem nf_X2 : ∀ j, j < 5 → defaultValue (tyX2 j) = vp_V [.null, .null, .int 0, .int 0, .int 0] j := by
  intro j hj
  match j, hj with
  | 0, _ => rfl
  | 1, _ => rfl
  | 2, _ => rfl
  | 3, _ => rfl
  | 4, _ => rfl
  | j + 5, h => exact absurd h (by omega)
set_option maxRecDepth 20000 in
theorem iw_X3 : ∀ w ∈ u_ws RX3 TX3 7, w ∈ TB := mem_by _ [506, 508, 510, 512, 514, 516, 518] (by decide +kernel) (by decide +kernel)
theorem nf_X3 : ∀ j, j < 7 → defaultValue (tyX3 j) = vp_V [.null, .null, .null, .null, .null, .null, .int 0] j := by
  intro j hj
  match j, hj with
  | 0, _ => rfl
  | 1, _ => rfl
  | 2, _ => rfl
  | 3, _ => rfl
  | 4, _ => rfl
  | 5, _ => rfl
  | 6, _ => rfl
  | j + 7, h => exact absurd h (by omega)
set_option maxRecDepth 20000 in
theorem iw_X4 : ∀ w ∈ u_ws RX4 TX4 8, w ∈ TB := mem_by _ [566, 568, 570, 572, 574, 576, 578, 580] (by decide +kernel) (by decide +kernel)
theorem nf_X4 : ∀ j, j < 8 → defaultValue (tyX4 j) = vp_V [.null, .null, .null, .int 0, .int 0, .int 0, .int 0, .int 0] j := by
  intro j hj
  match j, hj with
  | 0, _ => rfl
  | 1, _ => rfl
  | 2, _ => rfl
  | 3, _ => rfl
  | 4, _ => rfl
  | 5, _ => rfl
  | 6, _ => rfl
  | 7, _ => rfl
  | j + 8, h => exact absurd h (by omega)
set_option maxRecDepth 20000 in
theorem iw_X5 : ∀ w ∈ u_ws RX5 TX5 7, w ∈ TB := mem_by _ [378, 380, 382, 384, 386, 388, 390] (by decide +kernel) (by decide +kernel)
theorem nf_X5 : ∀ j, j < 7 → defaultValue (tyX5 j) = vp_V [.null, .null, .int 0, .int 0, .int 0, .int 0, .int 0] j := by
  intro j hj
  match j, hj with
  | 0, _ => rfl
  | 1, _ => rfl
  | 2, _ => rfl
  | 3, _ => rfl
  | 4, _ => rfl
  | 5, _ => rfl
  | 6, _ => rfl
  | j + 7, h => exact absurd h (by omega)
set_option maxRecDepth 20000 in
theorem iw_X6 : ∀ w ∈ u_ws RX6 TX6 6, w ∈ TB := mem_by _ [534, 536, 538, 540, 542, 544] (by decide +kernel) (by decide +kernel)
theorem nf_X6 : ∀ j, j < 6 → defaultValue (tyX6 j) = vp_V [.null, .null, .null, .int 0, .long 0, .long 0] j := by
  intro j hj
  match j, hj with
  | 0, _ => rfl
  | 1, _ => rfl
  | 2, _ => rfl
  | 3, _ => rfl
  | 4, _ => rfl
  | 5, _ => rfl
  | j + 6, h => exact absurd h (by omega)
set_option maxRecDepth 20000 in
theorem iw_X7 : ∀ w ∈ u_ws RX7 TX7 13, w ∈ TB := mem_by _ [444, 446, 448, 450, 452, 454, 456, 458, 460, 462, 464, 466, 468] (by decide +kernel) (by decide +kernel)
theorem nf_X7 : ∀ j, j < 13 → defaultValue (tyX7 j) = vp_V [.int 0, .int 0, .int 0, .int 0, .int 0, .long 0, .int 0, .int 0, .int 0, .int 0, .null, .null, .null] j := by
  intro j hj
  match j, hj with
  | 0, _ => rfl
  | 1, _ => rfl
  | 2, _ => rfl
  | 3, _ => rfl
  | 4, _ => rfl
  | 5, _ => rfl
  | 6, _ => rfl
  | 7, _ => rfl
  | 8, _ => rfl
  | 9, _ => rfl
  | 10, _ => rfl
  | 11, _ => rfl
  | 12, _ => rfl
  | j + 13, h => exact absurd h (by omega)
set_option maxRecDepth 20000 in
theorem iw_X8 : ∀ w ∈ u_ws RX8 TX8 2, w ∈ TB := mem_by _ [146, 148] (by decide +kernel) (by decide +kernel)
theorem nf_X8 : ∀ j, j < 2 → defaultValue (tyX8 j) = vp_V [.null, .int 0] j := by
  intro j hj
  match j, hj with
  | 0, _ => rfl
  | 1, _ => rfl
  | j + 2, h => exact absurd h (by omega)
set_option maxRecDepth 20000 in
theorem iw_X9 : ∀ w ∈ u_ws RX9 TX9 5, w ∈ TB := mem_by _ [360, 362, 364, 366, 368] (by decide +kernel) (by decide +kernel)
theorem nf_X9 : ∀ j, j < 5 → defaultValue (tyX9 j) = vp_V [.null, .null, .null, .null, .int 0] j := by
  intro j hj
  match j, hj with
  | 0, _ => rfl
  | 1, _ => rfl
  | 2, _ => rfl
  | 3, _ => rfl
  | 4, _ => rfl
  | j + 5, h => exact absurd h (by omega)
set_option maxRecDepth 20000 in
theorem iw_X10 : ∀ w ∈ u_ws RX10 TX10 20, w ∈ TB := mem_by _ [247, 249, 251, 253, 255, 257, 259, 261, 263, 265, 267, 269, 271, 273, 275, 277, 279, 281, 283, 285] (by decide +kernel) (by decide +kernel)
theorem nf_X10 : ∀ j, j < 20 → defaultValue (tyX10 j) = vp_V [.int 0, .int 0, .int 0, .int 0, .int 0, .int 0, .int 0, .int 0, .int 0, .long 0, .null, .null, .null, .null, .null, .null, .null, .null, .null, .null] j := by
  intro j hj
  match j, hj with
  | 0, _ => rfl
  | 1, _ => rfl
  | 2, _ => rfl
  | 3, _ => rfl
  | 4, _ => rfl
  | 5, _ => rfl
  | 6, _ => rfl
  | 7, _ => rfl
  | 8, _ => rfl
  | 9, _ => rfl
  | 10, _ => rfl
  | 11, _ => rfl
  | 12, _ => rfl
  | 13, _ => rfl
  | 14, _ => rfl
  | 15, _ => rfl
  | 16, _ => rfl
  | 17, _ => rfl
  | 18, _ => rfl
  | 19, _ => rfl
  | j + 20, h => exact absurd h (by omega)
set_option maxRecDepth 20000 in
theorem iw_X11 : ∀ w ∈ u_ws RX11 TX11 17, w ∈ TB := mem_by _ [674, 676, 678, 680, 682, 684, 686, 688, 690, 692, 694, 696, 698, 700, 702, 704, 706] (by decide +kernel) (by decide +kernel)
theorem nf_X11 : ∀ j, j < 17 → defaultValue (tyX11 j) = vp_V [.null, .int 0, .null, .null, .null, .null, .null, .null, .int 0, .int 0, .null, .null, .null, .null, .null, .null, .null] j := by
  intro j hj
  match j, hj with
  | 0, _ => rfl
  | 1, _ => rfl
  | 2, _ => rfl
  | 3, _ => rfl
  | 4, _ => rfl
  | 5, _ => rfl
  | 6, _ => rfl
  | 7, _ => rfl
  | 8, _ => rfl
  | 9, _ => rfl
  | 10, _ => rfl
  | 11, _ => rfl
  | 12, _ => rfl
  | 13, _ => rfl
  | 14, _ => rfl
  | 15, _ => rfl
  | 16, _ => rfl
  | j + 17, h => exact absurd h (by omega)
set_option maxRecDepth 20000 in
theorem iw_X12 : ∀ w ∈ u_ws RX12 TX12 69, w ∈ TB := mem_by _ [1443, 1445, 1447, 1449, 1451, 1453, 1455, 1457, 1459, 1461, 1463, 1465, 1467, 1469, 1471, 1473, 1475, 1477, 1479, 1481, 1483, 1485, 1487, 1489, 1491, 1493, 1495, 1497, 1499, 1501, 1503, 1505, 1507, 1509, 1511, 1513, 1515, 1517, 1519, 1521, 1523, 1525, 1527, 1529, 1531, 1533, 1535, 1537, 1539, 1541, 1543, 1545, 1547, 1549, 1551, 1553, 1555, 1557, 1559, 1561, 1563, 1565, 1567, 1569, 1571, 1573, 1575, 1577, 1579] (by decide +kernel) (by decide +kernel)
theorem nf_X12 : ∀ j, j < 69 → defaultValue (tyX12 j) = vp_V (.int 0 :: .null :: .int 0 :: .null :: .int 0 :: .null :: .null :: .null :: .null :: .null :: .int 0 :: .int 0 :: .int 0 :: .int 0 :: .int 0 :: .int 0 :: .int 0 :: .int 0 :: .int 0 :: .int 0 :: .int 0 :: .null :: .null :: .null :: .null :: .null :: .null :: .null :: .null :: .null :: .null :: .null :: .null :: .null :: .null :: .null :: .null :: .null :: .int 0 :: [.null, .null, .null, .null, .null, .null, .int 0, .null, .null, .int 0, .null, .null, .int 0, .int 0, .int 0, .null, .int 0, .null, .int 0, .null, .null, .null, .int 0, .null, .long 0, .int 0, .int 0, .null, .null, .null]) j := by
  intro j hj
  match j, hj with
  | 0, _ => rfl
  | 1, _ => rfl
  | 2, _ => rfl
  | 3, _ => rfl
  | 4, _ => rfl
  | 5, _ => rfl
  | 6, _ => rfl
  | 7, _ => rfl
  | 8, _ => rfl
  | 9, _ => rfl
  | 10, _ => rfl
  | 11, _ => rfl
  | 12, _ => rfl
  | 13, _ => rfl
  | 14, _ => rfl
  | 15, _ => rfl
  | 16, _ => rfl
  | 17, _ => rfl
  | 18, _ => rfl
  | 19, _ => rfl
  | 20, _ => rfl
  | 21, _ => rfl
  | 22, _ => rfl
  | 23, _ => rfl
  | 24, _ => rfl
  | 25, _ => rfl
  | 26, _ => rfl
  | 27, _ => rfl
  | 28, _ => rfl
  | 29, _ => rfl
  | 30, _ => rfl
  | 31, _ => rfl
  | 32, _ => rfl
  | 33, _ => rfl
  | 34, _ => rfl
  | 35, _ => rfl
  | 36, _ => rfl
  | 37, _ => rfl
  | 38, _ => rfl
  | 39, _ => rfl
  | 40, _ => rfl
  | 41, _ => rfl
  | 42, _ => rfl
  | 43, _ => rfl
  | 44, _ => rfl
  | 45, _ => rfl
  | 46, _ => rfl
  | 47, _ => rfl
  | 48, _ => rfl
  | 49, _ => rfl
  | 50, _ => rfl
  | 51, _ => rfl
  | 52, _ => rfl
  | 53, _ => rfl
  | 54, _ => rfl
  | 55, _ => rfl
  | 56, _ => rfl
  | 57, _ => rfl
  | 58, _ => rfl
  | 59, _ => rfl
  | 60, _ => rfl
  | 61, _ => rfl
  | 62, _ => rfl
  | 63, _ => rfl
  | 64, _ => rfl
  | 65, _ => rfl
  | 66, _ => rfl
  | 67, _ => rfl
  | 68, _ => rfl
  | j + 69, h => exact absurd h (by omega)
theorem tb_0 : Cond.selects "LieClock$Tokens" ⟨"LieClock$Tokens", "cutOne", "(LLieClock$Tape;I)I"⟩ ⟨"LieClock$Tokens", "cutOne", "(LLieClock$Tape;I)I"⟩ ∈ TB := TB_of 0 (by decide +kernel) (by decide +kernel)
theorem tb_3 : Cond.selects "LieClock$Tokens" ⟨"LieClock$Tokens", "add", "(IIJ)V"⟩ ⟨"LieClock$Tokens", "add", "(IIJ)V"⟩ ∈ TB := TB_of 3 (by decide +kernel) (by decide +kernel)
theorem tb_26 : Cond.selects "LieClock" ⟨"LieClock", "forgetSearches", "()V"⟩ ⟨"LieClock", "forgetSearches", "()V"⟩ ∈ TB := TB_of 26 (by decide +kernel) (by decide +kernel)
theorem tb_27 : Cond.selects "LieClock" ⟨"LieClock", "keepForUndo", "()V"⟩ ⟨"LieClock", "keepForUndo", "()V"⟩ ∈ TB := TB_of 27 (by decide +kernel) (by decide +kernel)
theorem tb_32 : Cond.selects "LieClock" ⟨"LieClock", "areTwoCases", "(II)Z"⟩ ⟨"LieClock", "areTwoCases", "(II)Z"⟩ ∈ TB := TB_of 32 (by decide +kernel) (by decide +kernel)
theorem tb_33 : Cond.selects "LieClock$Nodes" ⟨"LieClock$Nodes", "slotOf", "(LLieClock$State;I)I"⟩ ⟨"LieClock$Nodes", "slotOf", "(LLieClock$State;I)I"⟩ ∈ TB := TB_of 33 (by decide +kernel) (by decide +kernel)
theorem tb_38 : Cond.selects "LieClock" ⟨"LieClock", "canBeOrdered", "(I)Z"⟩ ⟨"LieClock", "canBeOrdered", "(I)Z"⟩ ∈ TB := TB_of 38 (by decide +kernel) (by decide +kernel)
theorem tb_39 : Cond.selects "LieClock$Orders" ⟨"LieClock$Orders", "extend", "(LLieClock$Told;II)V"⟩ ⟨"LieClock$Orders", "extend", "(LLieClock$Told;II)V"⟩ ∈ TB := TB_of 39 (by decide +kernel) (by decide +kernel)
theorem tb_40 : Cond.selects "LieClock$Orders" ⟨"LieClock$Orders", "judge", "(I)V"⟩ ⟨"LieClock$Orders", "judge", "(I)V"⟩ ∈ TB := TB_of 40 (by decide +kernel) (by decide +kernel)
theorem tb_41 : Cond.selects "LieClock$Orders" ⟨"LieClock$Orders", "avoids", "(LLieClock$Told;III)Z"⟩ ⟨"LieClock$Orders", "avoids", "(LLieClock$Told;III)Z"⟩ ∈ TB := TB_of 41 (by decide +kernel) (by decide +kernel)
theorem tb_43 : Cond.selects "LieClock$Sets" ⟨"LieClock$Sets", "isEnough", "(J)Z"⟩ ⟨"LieClock$Sets", "isEnough", "(J)Z"⟩ ∈ TB := TB_of 43 (by decide +kernel) (by decide +kernel)
theorem tb_46 : Cond.selects "LieClock" ⟨"LieClock", "heldSlots", "()I"⟩ ⟨"LieClock", "heldSlots", "()I"⟩ ∈ TB := TB_of 46 (by decide +kernel) (by decide +kernel)
theorem tb_47 : Cond.selects "LieClockModel" ⟨"LieClockModel", "put", "(I)V"⟩ ⟨"LieClockModel", "put", "(I)V"⟩ ∈ TB := TB_of 47 (by decide +kernel) (by decide +kernel)
theorem tb_48 : Cond.selects "LieClockModel" ⟨"LieClockModel", "cut", "()V"⟩ ⟨"LieClockModel", "cut", "()V"⟩ ∈ TB := TB_of 48 (by decide +kernel) (by decide +kernel)
theorem tb_49 : Cond.selects "LieClockModel" ⟨"LieClockModel", "byteAt", "(I)I"⟩ ⟨"LieClockModel", "byteAt", "(I)I"⟩ ∈ TB := TB_of 49 (by decide +kernel) (by decide +kernel)
theorem tb_50 : Cond.selects "LieClockModel" ⟨"LieClockModel", "token", "(IIIJ)V"⟩ ⟨"LieClockModel", "token", "(IIIJ)V"⟩ ∈ TB := TB_of 50 (by decide +kernel) (by decide +kernel)
theorem tb_52 : Cond.selects "LieClockModel" ⟨"LieClockModel", "is", "(I)Z"⟩ ⟨"LieClockModel", "is", "(I)Z"⟩ ∈ TB := TB_of 52 (by decide +kernel) (by decide +kernel)
theorem tb_75 : Cond.selects "LieClockModel" ⟨"LieClockModel", "begins", "()V"⟩ ⟨"LieClockModel", "begins", "()V"⟩ ∈ TB := TB_of 75 (by decide +kernel) (by decide +kernel)
theorem tb_76 : Cond.selects "LieClockModel" ⟨"LieClockModel", "isWord", "(I)Z"⟩ ⟨"LieClockModel", "isWord", "(I)Z"⟩ ∈ TB := TB_of 76 (by decide +kernel) (by decide +kernel)
theorem tb_80 : Cond.selects "LieClockModel" ⟨"LieClockModel", "isWitness", "(I)Z"⟩ ⟨"LieClockModel", "isWitness", "(I)Z"⟩ ∈ TB := TB_of 80 (by decide +kernel) (by decide +kernel)
theorem tb_81 : Cond.selects "LieClockModel" ⟨"LieClockModel", "copies", "()V"⟩ ⟨"LieClockModel", "copies", "()V"⟩ ∈ TB := TB_of 81 (by decide +kernel) (by decide +kernel)
theorem tb_84 : Cond.selects "LieClockModel" ⟨"LieClockModel", "mayBe", "(I)J"⟩ ⟨"LieClockModel", "mayBe", "(I)J"⟩ ∈ TB := TB_of 84 (by decide +kernel) (by decide +kernel)
theorem tb_85 : Cond.selects "LieClockModel" ⟨"LieClockModel", "isCase", "(I)Z"⟩ ⟨"LieClockModel", "isCase", "(I)Z"⟩ ∈ TB := TB_of 85 (by decide +kernel) (by decide +kernel)
theorem tb_88 : Cond.selects "LieClockModel" ⟨"LieClockModel", "forward", "(I)V"⟩ ⟨"LieClockModel", "forward", "(I)V"⟩ ∈ TB := TB_of 88 (by decide +kernel) (by decide +kernel)
theorem tb_90 : Cond.selects "LieClockModel" ⟨"LieClockModel", "heardAll", "()I"⟩ ⟨"LieClockModel", "heardAll", "()I"⟩ ∈ TB := TB_of 90 (by decide +kernel) (by decide +kernel)
theorem tb_93 : Cond.selects "LieClockModel" ⟨"LieClockModel", "keeps", "()V"⟩ ⟨"LieClockModel", "keeps", "()V"⟩ ∈ TB := TB_of 93 (by decide +kernel) (by decide +kernel)
theorem tb_97 : Cond.selects "LieClockModel" ⟨"LieClockModel", "isSet", "(I)Z"⟩ ⟨"LieClockModel", "isSet", "(I)Z"⟩ ∈ TB := TB_of 97 (by decide +kernel) (by decide +kernel)
theorem tb_98 : Cond.selects "LieClockModel" ⟨"LieClockModel", "orders", "(IZ)I"⟩ ⟨"LieClockModel", "orders", "(IZ)I"⟩ ∈ TB := TB_of 98 (by decide +kernel) (by decide +kernel)
theorem tb_99 : Cond.selects "LieClockModel" ⟨"LieClockModel", "fillsOrder", "(I)V"⟩ ⟨"LieClockModel", "fillsOrder", "(I)V"⟩ ∈ TB := TB_of 99 (by decide +kernel) (by decide +kernel)
theorem tb_100 : Cond.selects "LieClockModel" ⟨"LieClockModel", "nextOrder", "()Z"⟩ ⟨"LieClockModel", "nextOrder", "()Z"⟩ ∈ TB := TB_of 100 (by decide +kernel) (by decide +kernel)
theorem tb_101 : Cond.selects "LieClockModel" ⟨"LieClockModel", "fillsSets", "(I)V"⟩ ⟨"LieClockModel", "fillsSets", "(I)V"⟩ ∈ TB := TB_of 101 (by decide +kernel) (by decide +kernel)
theorem tb_102 : Cond.selects "LieClockModel" ⟨"LieClockModel", "fillsBook", "(I)V"⟩ ⟨"LieClockModel", "fillsBook", "(I)V"⟩ ∈ TB := TB_of 102 (by decide +kernel) (by decide +kernel)
theorem tb_103 : Cond.selects "LieClockModel" ⟨"LieClockModel", "fitsOne", "(I)V"⟩ ⟨"LieClockModel", "fitsOne", "(I)V"⟩ ∈ TB := TB_of 103 (by decide +kernel) (by decide +kernel)
theorem tb_105 : (Jvm.Cond.initialized "LieClock") ∈ TB := TB_of 105 (by decide +kernel) (by decide +kernel)
theorem tb_106 : (Jvm.Cond.initialized "LieClock$Tape") ∈ TB := TB_of 106 (by decide +kernel) (by decide +kernel)
theorem tb_107 : (Jvm.Cond.initialized "LieClock$Told") ∈ TB := TB_of 107 (by decide +kernel) (by decide +kernel)
theorem tb_108 : (Jvm.Cond.initialized "LieClock$Law") ∈ TB := TB_of 108 (by decide +kernel) (by decide +kernel)
theorem tb_109 : (Jvm.Cond.initialized "LieClock$Parser") ∈ TB := TB_of 109 (by decide +kernel) (by decide +kernel)
theorem tb_110 : (Jvm.Cond.initialized "LieClock$Tokens") ∈ TB := TB_of 110 (by decide +kernel) (by decide +kernel)
theorem tb_111 : (Jvm.Cond.initialized "java/lang/String") ∈ TB := TB_of 111 (by decide +kernel) (by decide +kernel)
theorem tb_112 : (Jvm.Cond.initialized "java/lang/StringLatin1") ∈ TB := TB_of 112 (by decide +kernel) (by decide +kernel)
theorem tb_113 : (Jvm.Cond.initialized "jdk/internal/util/Preconditions") ∈ TB := TB_of 113 (by decide +kernel) (by decide +kernel)
theorem tb_115 : (Jvm.Cond.initialized "LieClock$State") ∈ TB := TB_of 115 (by decide +kernel) (by decide +kernel)
theorem tb_116 : (Jvm.Cond.initialized "java/util/Arrays") ∈ TB := TB_of 116 (by decide +kernel) (by decide +kernel)
theorem tb_117 : (Jvm.Cond.initialized "LieClock$Nodes") ∈ TB := TB_of 117 (by decide +kernel) (by decide +kernel)
theorem tb_118 : (Jvm.Cond.initialized "LieClock$Sets") ∈ TB := TB_of 118 (by decide +kernel) (by decide +kernel)
theorem tb_119 : (Jvm.Cond.initialized "LieClock$Orders") ∈ TB := TB_of 119 (by decide +kernel) (by decide +kernel)
theorem tb_120 : (Jvm.Cond.initialized "LieClock$Ahead") ∈ TB := TB_of 120 (by decide +kernel) (by decide +kernel)
theorem tb_121 : (Jvm.Cond.initialized "LieClock$Book") ∈ TB := TB_of 121 (by decide +kernel) (by decide +kernel)
theorem tb_122 : (Jvm.Cond.initialized "LieClockModel") ∈ TB := TB_of 122 (by decide +kernel) (by decide +kernel)
theorem tb_123 : (Jvm.Cond.initialized "java/lang/Math") ∈ TB := TB_of 123 (by decide +kernel) (by decide +kernel)
theorem tb_125 : (Jvm.Cond.initialized "java/lang/Long") ∈ TB := TB_of 125 (by decide +kernel) (by decide +kernel)
theorem tb_126 : (Jvm.Cond.initialized "java/lang/Integer") ∈ TB := TB_of 126 (by decide +kernel) (by decide +kernel)
theorem tb_127 : (Jvm.Cond.initialized "java/lang/System") ∈ TB := TB_of 127 (by decide +kernel) (by decide +kernel)
theorem tb_128 : (Jvm.Cond.classLink "LieClockLaw" (7 : Nat) "LieClock") ∈ TB := TB_of 128 (by decide +kernel) (by decide +kernel)
theorem tb_129 : (Jvm.Cond.instantiable "LieClock" (17 : Nat)) ∈ TB := TB_of 129 (by decide +kernel) (by decide +kernel)
theorem tb_130 : (Jvm.Cond.methodLink "LieClockLaw" (9 : Nat) ({ cls := "LieClock", name := "<init>", desc := "()V" } : Jvm.MethodName)) ∈ TB := TB_of 130 (by decide +kernel) (by decide +kernel)
theorem tb_131 : (Jvm.Cond.instanceMethod ({ cls := "LieClock", name := "<init>", desc := "()V" } : Jvm.MethodName)) ∈ TB := TB_of 131 (by decide +kernel) (by decide +kernel)
theorem tb_133 : (Jvm.Cond.methodLink "LieClock" (1 : Nat) ({ cls := "java/lang/Object", name := "<init>", desc := "()V" } : Jvm.MethodName)) ∈ TB := TB_of 133 (by decide +kernel) (by decide +kernel)
theorem tb_134 : (Jvm.Cond.instanceMethod ({ cls := "java/lang/Object", name := "<init>", desc := "()V" } : Jvm.MethodName)) ∈ TB := TB_of 134 (by decide +kernel) (by decide +kernel)
theorem tb_136 : (Jvm.Cond.classLink "LieClock" (13 : Nat) "LieClock$Tape") ∈ TB := TB_of 136 (by decide +kernel) (by decide +kernel)
theorem tb_137 : (Jvm.Cond.instantiable "LieClock$Tape" (2 : Nat)) ∈ TB := TB_of 137 (by decide +kernel) (by decide +kernel)
theorem tb_139 : (Jvm.Cond.instanceMethod ({ cls := "LieClock$Tape", name := "<init>", desc := "()V" } : Jvm.MethodName)) ∈ TB := TB_of 139 (by decide +kernel) (by decide +kernel)
theorem tb_141 : (Jvm.Cond.methodLink "LieClock$Tape" (3 : Nat) ({ cls := "java/lang/Object", name := "<init>", desc := "()V" } : Jvm.MethodName)) ∈ TB := TB_of 141 (by decide +kernel) (by decide +kernel)
theorem tb_142 : (Jvm.Cond.fieldLink "LieClock$Tape" (9 : Nat) "LieClock$Tape" "bytes" "[B") ∈ TB := TB_of 142 (by decide +kernel) (by decide +kernel)
theorem tb_144 : (Jvm.Cond.fieldLink "LieClock$Tape" (15 : Nat) "LieClock$Tape" "length" "I") ∈ TB := TB_of 144 (by decide +kernel) (by decide +kernel)
theorem tb_151 : (Jvm.Cond.arrayClass Jvm.ClassFile.FieldType.byte) ∈ TB := TB_of 151 (by decide +kernel) (by decide +kernel)
theorem tb_152 : (Jvm.Cond.classLink "LieClock" (20 : Nat) "LieClock$Told") ∈ TB := TB_of 152 (by decide +kernel) (by decide +kernel)
theorem tb_153 : (Jvm.Cond.instantiable "LieClock$Told" (20 : Nat)) ∈ TB := TB_of 153 (by decide +kernel) (by decide +kernel)
theorem tb_155 : (Jvm.Cond.instanceMethod ({ cls := "LieClock$Told", name := "<init>", desc := "()V" } : Jvm.MethodName)) ∈ TB := TB_of 155 (by decide +kernel) (by decide +kernel)
theorem tb_157 : (Jvm.Cond.methodLink "LieClock$Told" (3 : Nat) ({ cls := "java/lang/Object", name := "<init>", desc := "()V" } : Jvm.MethodName)) ∈ TB := TB_of 157 (by decide +kernel) (by decide +kernel)
theorem tb_158 : (Jvm.Cond.classLink "LieClock$Told" (37 : Nat) "LieClock$Law") ∈ TB := TB_of 158 (by decide +kernel) (by decide +kernel)
theorem tb_159 : (Jvm.Cond.instantiable "LieClock$Law" (5 : Nat)) ∈ TB := TB_of 159 (by decide +kernel) (by decide +kernel)
theorem tb_161 : (Jvm.Cond.instanceMethod ({ cls := "LieClock$Law", name := "<init>", desc := "()V" } : Jvm.MethodName)) ∈ TB := TB_of 161 (by decide +kernel) (by decide +kernel)
theorem tb_163 : (Jvm.Cond.methodLink "LieClock$Law" (3 : Nat) ({ cls := "java/lang/Object", name := "<init>", desc := "()V" } : Jvm.MethodName)) ∈ TB := TB_of 163 (by decide +kernel) (by decide +kernel)
theorem tb_164 : (Jvm.Cond.fieldLink "LieClock$Law" (9 : Nat) "LieClock$Law" "code" "[I") ∈ TB := TB_of 164 (by decide +kernel) (by decide +kernel)
theorem tb_165 : (Jvm.Cond.fieldLink "LieClock$Law" (15 : Nat) "LieClock$Law" "stack" "[I") ∈ TB := TB_of 165 (by decide +kernel) (by decide +kernel)
theorem tb_166 : (Jvm.Cond.fieldLink "LieClock$Law" (18 : Nat) "LieClock$Law" "length" "I") ∈ TB := TB_of 166 (by decide +kernel) (by decide +kernel)
theorem tb_181 : (Jvm.Cond.arrayClass Jvm.ClassFile.FieldType.long) ∈ TB := TB_of 181 (by decide +kernel) (by decide +kernel)
theorem tb_182 : (Jvm.Cond.arrayClass Jvm.ClassFile.FieldType.int) ∈ TB := TB_of 182 (by decide +kernel) (by decide +kernel)
theorem tb_183 : (Jvm.Cond.fieldLink "LieClock$Told" (47 : Nat) "LieClock$Told" "facts" "I") ∈ TB := TB_of 183 (by decide +kernel) (by decide +kernel)
theorem tb_188 : (Jvm.Cond.fieldLink "LieClock$Told" (51 : Nat) "LieClock$Told" "truths" "I") ∈ TB := TB_of 188 (by decide +kernel) (by decide +kernel)
theorem tb_190 : (Jvm.Cond.fieldLink "LieClock$Told" (54 : Nat) "LieClock$Told" "opens" "I") ∈ TB := TB_of 190 (by decide +kernel) (by decide +kernel)
theorem tb_192 : (Jvm.Cond.fieldLink "LieClock$Told" (57 : Nat) "LieClock$Told" "witnesses" "I") ∈ TB := TB_of 192 (by decide +kernel) (by decide +kernel)
theorem tb_198 : (Jvm.Cond.fieldLink "LieClock$Told" (60 : Nat) "LieClock$Told" "words" "I") ∈ TB := TB_of 198 (by decide +kernel) (by decide +kernel)
theorem tb_205 : (Jvm.Cond.fieldLink "LieClock$Told" (63 : Nat) "LieClock$Told" "selfs" "I") ∈ TB := TB_of 205 (by decide +kernel) (by decide +kernel)
theorem tb_208 : (Jvm.Cond.fieldLink "LieClock$Told" (66 : Nat) "LieClock$Told" "trueWords" "I") ∈ TB := TB_of 208 (by decide +kernel) (by decide +kernel)
theorem tb_212 : (Jvm.Cond.fieldLink "LieClock$Told" (69 : Nat) "LieClock$Told" "cases" "I") ∈ TB := TB_of 212 (by decide +kernel) (by decide +kernel)
theorem tb_217 : (Jvm.Cond.fieldLink "LieClock$Told" (72 : Nat) "LieClock$Told" "begin" "I") ∈ TB := TB_of 217 (by decide +kernel) (by decide +kernel)
theorem tb_220 : (Jvm.Cond.fieldLink "LieClock$Told" (80 : Nat) "LieClock$Told" "everything" "J") ∈ TB := TB_of 220 (by decide +kernel) (by decide +kernel)
theorem tb_222 : (Jvm.Cond.fieldLink "LieClock$Told" (9 : Nat) "LieClock$Told" "factNames" "[J") ∈ TB := TB_of 222 (by decide +kernel) (by decide +kernel)
theorem tb_223 : (Jvm.Cond.fieldLink "LieClock$Told" (15 : Nat) "LieClock$Told" "witnessNames" "[J") ∈ TB := TB_of 223 (by decide +kernel) (by decide +kernel)
theorem tb_224 : (Jvm.Cond.fieldLink "LieClock$Told" (18 : Nat) "LieClock$Told" "wordsOf" "[I") ∈ TB := TB_of 224 (by decide +kernel) (by decide +kernel)
theorem tb_227 : (Jvm.Cond.fieldLink "LieClock$Told" (22 : Nat) "LieClock$Told" "teller" "[I") ∈ TB := TB_of 227 (by decide +kernel) (by decide +kernel)
theorem tb_230 : (Jvm.Cond.fieldLink "LieClock$Told" (25 : Nat) "LieClock$Told" "holds" "[J") ∈ TB := TB_of 230 (by decide +kernel) (by decide +kernel)
theorem tb_233 : (Jvm.Cond.fieldLink "LieClock$Told" (28 : Nat) "LieClock$Told" "caseNames" "[J") ∈ TB := TB_of 233 (by decide +kernel) (by decide +kernel)
theorem tb_234 : (Jvm.Cond.fieldLink "LieClock$Told" (31 : Nat) "LieClock$Told" "due" "[I") ∈ TB := TB_of 234 (by decide +kernel) (by decide +kernel)
theorem tb_238 : (Jvm.Cond.fieldLink "LieClock$Told" (34 : Nat) "LieClock$Told" "guilt" "[J") ∈ TB := TB_of 238 (by decide +kernel) (by decide +kernel)
theorem tb_241 : (Jvm.Cond.fieldLink "LieClock$Told" (40 : Nat) "LieClock$Told" "back" "LLieClock$Law;") ∈ TB := TB_of 241 (by decide +kernel) (by decide +kernel)
theorem tb_244 : (Jvm.Cond.fieldLink "LieClock$Told" (44 : Nat) "LieClock$Told" "forth" "LLieClock$Law;") ∈ TB := TB_of 244 (by decide +kernel) (by decide +kernel)
theorem tb_288 : (Jvm.Cond.classLink "LieClock" (30 : Nat) "LieClock$Parser") ∈ TB := TB_of 288 (by decide +kernel) (by decide +kernel)
theorem tb_289 : (Jvm.Cond.instantiable "LieClock$Parser" (7 : Nat)) ∈ TB := TB_of 289 (by decide +kernel) (by decide +kernel)
theorem tb_290 : (Jvm.Cond.methodLink "LieClock" (32 : Nat) ({ cls := "LieClock$Parser", name := "<init>", desc := "(LLieClock$Told;)V" } : Jvm.MethodName)) ∈ TB := TB_of 290 (by decide +kernel) (by decide +kernel)
theorem tb_291 : (Jvm.Cond.instanceMethod ({ cls := "LieClock$Parser", name := "<init>", desc := "(LLieClock$Told;)V" } : Jvm.MethodName)) ∈ TB := TB_of 291 (by decide +kernel) (by decide +kernel)
theorem tb_293 : (Jvm.Cond.methodLink "LieClock$Parser" (3 : Nat) ({ cls := "java/lang/Object", name := "<init>", desc := "()V" } : Jvm.MethodName)) ∈ TB := TB_of 293 (by decide +kernel) (by decide +kernel)
theorem tb_294 : (Jvm.Cond.classLink "LieClock$Parser" (9 : Nat) "LieClock$Tokens") ∈ TB := TB_of 294 (by decide +kernel) (by decide +kernel)
theorem tb_295 : (Jvm.Cond.instantiable "LieClock$Tokens" (5 : Nat)) ∈ TB := TB_of 295 (by decide +kernel) (by decide +kernel)
theorem tb_296 : (Jvm.Cond.methodLink "LieClock$Parser" (11 : Nat) ({ cls := "LieClock$Tokens", name := "<init>", desc := "()V" } : Jvm.MethodName)) ∈ TB := TB_of 296 (by decide +kernel) (by decide +kernel)
theorem tb_297 : (Jvm.Cond.instanceMethod ({ cls := "LieClock$Tokens", name := "<init>", desc := "()V" } : Jvm.MethodName)) ∈ TB := TB_of 297 (by decide +kernel) (by decide +kernel)
theorem tb_299 : (Jvm.Cond.methodLink "LieClock$Tokens" (3 : Nat) ({ cls := "java/lang/Object", name := "<init>", desc := "()V" } : Jvm.MethodName)) ∈ TB := TB_of 299 (by decide +kernel) (by decide +kernel)
theorem tb_301 : (Jvm.Cond.methodLink "LieClock$Tokens" (27 : Nat) ({ cls := "java/lang/String", name := "length", desc := "()I" } : Jvm.MethodName)) ∈ TB := TB_of 301 (by decide +kernel) (by decide +kernel)
theorem tb_302 : (Jvm.Cond.instanceMethod ({ cls := "java/lang/String", name := "length", desc := "()I" } : Jvm.MethodName)) ∈ TB := TB_of 302 (by decide +kernel) (by decide +kernel)
theorem tb_303 : (Jvm.Cond.selects "java/lang/String" ({ cls := "java/lang/String", name := "length", desc := "()I" } : Jvm.MethodName) ({ cls := "java/lang/String", name := "length", desc := "()I" } : Jvm.MethodName)) ∈ TB := TB_of 303 (by decide +kernel) (by decide +kernel)
theorem tb_305 : (Jvm.Cond.methodLink "java/lang/String" (335 : Nat) ({ cls := "java/lang/String", name := "coder", desc := "()B" } : Jvm.MethodName)) ∈ TB := TB_of 305 (by decide +kernel) (by decide +kernel)
theorem tb_306 : (Jvm.Cond.instanceMethod ({ cls := "java/lang/String", name := "coder", desc := "()B" } : Jvm.MethodName)) ∈ TB := TB_of 306 (by decide +kernel) (by decide +kernel)
theorem tb_307 : (Jvm.Cond.selects "java/lang/String" ({ cls := "java/lang/String", name := "coder", desc := "()B" } : Jvm.MethodName) ({ cls := "java/lang/String", name := "coder", desc := "()B" } : Jvm.MethodName)) ∈ TB := TB_of 307 (by decide +kernel) (by decide +kernel)
theorem tb_309 : (Jvm.Cond.fieldLink "java/lang/String" (38 : Nat) "java/lang/String" "COMPACT_STRINGS" "Z") ∈ TB := TB_of 309 (by decide +kernel) (by decide +kernel)
theorem tb_311 : (Jvm.Cond.methodLink "LieClock$Tokens" (33 : Nat) ({ cls := "java/lang/String", name := "charAt", desc := "(I)C" } : Jvm.MethodName)) ∈ TB := TB_of 311 (by decide +kernel) (by decide +kernel)
theorem tb_312 : (Jvm.Cond.instanceMethod ({ cls := "java/lang/String", name := "charAt", desc := "(I)C" } : Jvm.MethodName)) ∈ TB := TB_of 312 (by decide +kernel) (by decide +kernel)
theorem tb_313 : (Jvm.Cond.selects "java/lang/String" ({ cls := "java/lang/String", name := "charAt", desc := "(I)C" } : Jvm.MethodName) ({ cls := "java/lang/String", name := "charAt", desc := "(I)C" } : Jvm.MethodName)) ∈ TB := TB_of 313 (by decide +kernel) (by decide +kernel)
theorem tb_315 : (Jvm.Cond.methodLink "java/lang/String" (492 : Nat) ({ cls := "java/lang/String", name := "isLatin1", desc := "()Z" } : Jvm.MethodName)) ∈ TB := TB_of 315 (by decide +kernel) (by decide +kernel)
theorem tb_316 : (Jvm.Cond.instanceMethod ({ cls := "java/lang/String", name := "isLatin1", desc := "()Z" } : Jvm.MethodName)) ∈ TB := TB_of 316 (by decide +kernel) (by decide +kernel)
theorem tb_317 : (Jvm.Cond.selects "java/lang/String" ({ cls := "java/lang/String", name := "isLatin1", desc := "()Z" } : Jvm.MethodName) ({ cls := "java/lang/String", name := "isLatin1", desc := "()Z" } : Jvm.MethodName)) ∈ TB := TB_of 317 (by decide +kernel) (by decide +kernel)
theorem tb_319 : (Jvm.Cond.methodLink "java/lang/String" (495 : Nat) ({ cls := "java/lang/StringLatin1", name := "charAt", desc := "([BI)C" } : Jvm.MethodName)) ∈ TB := TB_of 319 (by decide +kernel) (by decide +kernel)
theorem tb_320 : (Jvm.Cond.static ({ cls := "java/lang/StringLatin1", name := "charAt", desc := "([BI)C" } : Jvm.MethodName)) ∈ TB := TB_of 320 (by decide +kernel) (by decide +kernel)
theorem tb_322 : (Jvm.Cond.methodLink "java/lang/StringLatin1" (9 : Nat) ({ cls := "java/lang/String", name := "checkIndex", desc := "(II)V" } : Jvm.MethodName)) ∈ TB := TB_of 322 (by decide +kernel) (by decide +kernel)
theorem tb_323 : (Jvm.Cond.static ({ cls := "java/lang/String", name := "checkIndex", desc := "(II)V" } : Jvm.MethodName)) ∈ TB := TB_of 323 (by decide +kernel) (by decide +kernel)
theorem tb_325 : (Jvm.Cond.fieldLink "java/lang/String" (1053 : Nat) "jdk/internal/util/Preconditions" "SIOOBE_FORMATTER" "Ljava/util/function/BiFunction;") ∈ TB := TB_of 325 (by decide +kernel) (by decide +kernel)
theorem tb_327 : (Jvm.Cond.methodLink "java/lang/String" (1059 : Nat) ({ cls := "jdk/internal/util/Preconditions", name := "checkIndex", desc := "(IILjava/util/function/BiFunction;)I" } : Jvm.MethodName)) ∈ TB := TB_of 327 (by decide +kernel) (by decide +kernel)
theorem tb_328 : (Jvm.Cond.static ({ cls := "jdk/internal/util/Preconditions", name := "checkIndex", desc := "(IILjava/util/function/BiFunction;)I" } : Jvm.MethodName)) ∈ TB := TB_of 328 (by decide +kernel) (by decide +kernel)
theorem tb_349 : (Jvm.Cond.methodLink "LieClock$Tokens" (37 : Nat) ({ cls := "LieClock$Tokens", name := "withLetter", desc := "(JI)J" } : Jvm.MethodName)) ∈ TB := TB_of 349 (by decide +kernel) (by decide +kernel)
theorem tb_350 : (Jvm.Cond.static ({ cls := "LieClock$Tokens", name := "withLetter", desc := "(JI)J" } : Jvm.MethodName)) ∈ TB := TB_of 350 (by decide +kernel) (by decide +kernel)
theorem tb_352 : (Jvm.Cond.constantLong "LieClock$Tokens" (93 : Nat) (32 : Int64)) ∈ TB := TB_of 352 (by decide +kernel) (by decide +kernel)
theorem tb_353 : (Jvm.Cond.fieldLink "LieClock$Tokens" (9 : Nat) "LieClock$Tokens" "kinds" "[I") ∈ TB := TB_of 353 (by decide +kernel) (by decide +kernel)
theorem tb_355 : (Jvm.Cond.fieldLink "LieClock$Tokens" (15 : Nat) "LieClock$Tokens" "places" "[I") ∈ TB := TB_of 355 (by decide +kernel) (by decide +kernel)
theorem tb_356 : (Jvm.Cond.fieldLink "LieClock$Tokens" (18 : Nat) "LieClock$Tokens" "values" "[J") ∈ TB := TB_of 356 (by decide +kernel) (by decide +kernel)
theorem tb_358 : (Jvm.Cond.fieldLink "LieClock$Tokens" (22 : Nat) "LieClock$Tokens" "keys" "[J") ∈ TB := TB_of 358 (by decide +kernel) (by decide +kernel)
theorem tb_359 : (Jvm.Cond.fieldLink "LieClock$Tokens" (41 : Nat) "LieClock$Tokens" "size" "I") ∈ TB := TB_of 359 (by decide +kernel) (by decide +kernel)
theorem tb_371 : (Jvm.Cond.fieldLink "LieClock$Parser" (12 : Nat) "LieClock$Parser" "tokens" "LLieClock$Tokens;") ∈ TB := TB_of 371 (by decide +kernel) (by decide +kernel)
theorem tb_372 : (Jvm.Cond.fieldLink "LieClock$Parser" (18 : Nat) "LieClock$Parser" "into" "LLieClock$Told;") ∈ TB := TB_of 372 (by decide +kernel) (by decide +kernel)
theorem tb_373 : (Jvm.Cond.fieldLink "LieClock$Parser" (31 : Nat) "LieClock$Parser" "at" "I") ∈ TB := TB_of 373 (by decide +kernel) (by decide +kernel)
theorem tb_374 : (Jvm.Cond.fieldLink "LieClock$Parser" (39 : Nat) "LieClock$Parser" "kind" "I") ∈ TB := TB_of 374 (by decide +kernel) (by decide +kernel)
theorem tb_375 : (Jvm.Cond.fieldLink "LieClock$Parser" (42 : Nat) "LieClock$Parser" "fault" "I") ∈ TB := TB_of 375 (by decide +kernel) (by decide +kernel)
theorem tb_376 : (Jvm.Cond.fieldLink "LieClock$Parser" (45 : Nat) "LieClock$Parser" "softFault" "I") ∈ TB := TB_of 376 (by decide +kernel) (by decide +kernel)
theorem tb_393 : (Jvm.Cond.methodLink "LieClock" (39 : Nat) ({ cls := "LieClock$Told", name := "finish", desc := "()V" } : Jvm.MethodName)) ∈ TB := TB_of 393 (by decide +kernel) (by decide +kernel)
theorem tb_394 : (Jvm.Cond.instanceMethod ({ cls := "LieClock$Told", name := "finish", desc := "()V" } : Jvm.MethodName)) ∈ TB := TB_of 394 (by decide +kernel) (by decide +kernel)
theorem tb_395 : (Jvm.Cond.selects "LieClock$Told" ({ cls := "LieClock$Told", name := "finish", desc := "()V" } : Jvm.MethodName) ({ cls := "LieClock$Told", name := "finish", desc := "()V" } : Jvm.MethodName)) ∈ TB := TB_of 395 (by decide +kernel) (by decide +kernel)
theorem tb_397 : (Jvm.Cond.constantLong "LieClock$Told" (78 : Nat) (-1 : Int64)) ∈ TB := TB_of 397 (by decide +kernel) (by decide +kernel)
theorem tb_398 : (Jvm.Cond.methodLink "LieClock$Told" (84 : Nat) ({ cls := "LieClock$Told", name := "tellOnce", desc := "(LLieClock$Law;)V" } : Jvm.MethodName)) ∈ TB := TB_of 398 (by decide +kernel) (by decide +kernel)
theorem tb_399 : (Jvm.Cond.static ({ cls := "LieClock$Told", name := "tellOnce", desc := "(LLieClock$Law;)V" } : Jvm.MethodName)) ∈ TB := TB_of 399 (by decide +kernel) (by decide +kernel)
theorem tb_401 : (Jvm.Cond.methodLink "LieClock$Told" (91 : Nat) ({ cls := "LieClock$Law", name := "add", desc := "(I)V" } : Jvm.MethodName)) ∈ TB := TB_of 401 (by decide +kernel) (by decide +kernel)
theorem tb_402 : (Jvm.Cond.instanceMethod ({ cls := "LieClock$Law", name := "add", desc := "(I)V" } : Jvm.MethodName)) ∈ TB := TB_of 402 (by decide +kernel) (by decide +kernel)
theorem tb_403 : (Jvm.Cond.selects "LieClock$Law" ({ cls := "LieClock$Law", name := "add", desc := "(I)V" } : Jvm.MethodName) ({ cls := "LieClock$Law", name := "add", desc := "(I)V" } : Jvm.MethodName)) ∈ TB := TB_of 403 (by decide +kernel) (by decide +kernel)
theorem tb_405 : (Jvm.Cond.classLink "LieClock" (42 : Nat) "LieClock$State") ∈ TB := TB_of 405 (by decide +kernel) (by decide +kernel)
theorem tb_406 : (Jvm.Cond.instantiable "LieClock$State" (13 : Nat)) ∈ TB := TB_of 406 (by decide +kernel) (by decide +kernel)
theorem tb_407 : (Jvm.Cond.methodLink "LieClock" (44 : Nat) ({ cls := "LieClock$State", name := "<init>", desc := "(Z)V" } : Jvm.MethodName)) ∈ TB := TB_of 407 (by decide +kernel) (by decide +kernel)
theorem tb_408 : (Jvm.Cond.instanceMethod ({ cls := "LieClock$State", name := "<init>", desc := "(Z)V" } : Jvm.MethodName)) ∈ TB := TB_of 408 (by decide +kernel) (by decide +kernel)
theorem tb_410 : (Jvm.Cond.methodLink "LieClock$State" (3 : Nat) ({ cls := "java/lang/Object", name := "<init>", desc := "()V" } : Jvm.MethodName)) ∈ TB := TB_of 410 (by decide +kernel) (by decide +kernel)
theorem tb_411 : (Jvm.Cond.fieldLink "LieClock$State" (31 : Nat) "LieClock$State" "clock" "I") ∈ TB := TB_of 411 (by decide +kernel) (by decide +kernel)
theorem tb_416 : (Jvm.Cond.fieldLink "LieClock$State" (34 : Nat) "LieClock$State" "said" "I") ∈ TB := TB_of 416 (by decide +kernel) (by decide +kernel)
theorem tb_420 : (Jvm.Cond.fieldLink "LieClock$State" (37 : Nat) "LieClock$State" "caught" "I") ∈ TB := TB_of 420 (by decide +kernel) (by decide +kernel)
theorem tb_424 : (Jvm.Cond.fieldLink "LieClock$State" (43 : Nat) "LieClock$State" "open" "I") ∈ TB := TB_of 424 (by decide +kernel) (by decide +kernel)
theorem tb_426 : (Jvm.Cond.fieldLink "LieClock$State" (46 : Nat) "LieClock$State" "heard" "I") ∈ TB := TB_of 426 (by decide +kernel) (by decide +kernel)
theorem tb_429 : (Jvm.Cond.fieldLink "LieClock$State" (53 : Nat) "LieClock$State" "may" "J") ∈ TB := TB_of 429 (by decide +kernel) (by decide +kernel)
theorem tb_434 : (Jvm.Cond.fieldLink "LieClock$State" (131 : Nat) "LieClock$State" "watched" "I") ∈ TB := TB_of 434 (by decide +kernel) (by decide +kernel)
theorem tb_436 : (Jvm.Cond.fieldLink "LieClock$State" (128 : Nat) "LieClock$State" "came" "Z") ∈ TB := TB_of 436 (by decide +kernel) (by decide +kernel)
theorem tb_437 : (Jvm.Cond.fieldLink "LieClock$State" (21 : Nat) "LieClock$State" "records" "Z") ∈ TB := TB_of 437 (by decide +kernel) (by decide +kernel)
theorem tb_438 : (Jvm.Cond.fieldLink "LieClock$State" (9 : Nat) "LieClock$State" "times" "[I") ∈ TB := TB_of 438 (by decide +kernel) (by decide +kernel)
theorem tb_440 : (Jvm.Cond.fieldLink "LieClock$State" (15 : Nat) "LieClock$State" "verdicts" "[I") ∈ TB := TB_of 440 (by decide +kernel) (by decide +kernel)
theorem tb_442 : (Jvm.Cond.fieldLink "LieClock$State" (18 : Nat) "LieClock$State" "shares" "[I") ∈ TB := TB_of 442 (by decide +kernel) (by decide +kernel)
theorem tb_471 : (Jvm.Cond.methodLink "LieClock" (51 : Nat) ({ cls := "LieClock$State", name := "begin", desc := "(LLieClock$Told;)V" } : Jvm.MethodName)) ∈ TB := TB_of 471 (by decide +kernel) (by decide +kernel)
theorem tb_472 : (Jvm.Cond.instanceMethod ({ cls := "LieClock$State", name := "begin", desc := "(LLieClock$Told;)V" } : Jvm.MethodName)) ∈ TB := TB_of 472 (by decide +kernel) (by decide +kernel)
theorem tb_473 : (Jvm.Cond.selects "LieClock$State" ({ cls := "LieClock$State", name := "begin", desc := "(LLieClock$Told;)V" } : Jvm.MethodName) ({ cls := "LieClock$State", name := "begin", desc := "(LLieClock$Told;)V" } : Jvm.MethodName)) ∈ TB := TB_of 473 (by decide +kernel) (by decide +kernel)
theorem tb_481 : (Jvm.Cond.methodLink "LieClock$State" (63 : Nat) ({ cls := "java/util/Arrays", name := "fill", desc := "([II)V" } : Jvm.MethodName)) ∈ TB := TB_of 481 (by decide +kernel) (by decide +kernel)
theorem tb_482 : (Jvm.Cond.static ({ cls := "java/util/Arrays", name := "fill", desc := "([II)V" } : Jvm.MethodName)) ∈ TB := TB_of 482 (by decide +kernel) (by decide +kernel)
theorem tb_486 : (Jvm.Cond.classLink "LieClock" (72 : Nat) "LieClock$Nodes") ∈ TB := TB_of 486 (by decide +kernel) (by decide +kernel)
theorem tb_487 : (Jvm.Cond.instantiable "LieClock$Nodes" (7 : Nat)) ∈ TB := TB_of 487 (by decide +kernel) (by decide +kernel)
theorem tb_489 : (Jvm.Cond.instanceMethod ({ cls := "LieClock$Nodes", name := "<init>", desc := "()V" } : Jvm.MethodName)) ∈ TB := TB_of 489 (by decide +kernel) (by decide +kernel)
theorem tb_491 : (Jvm.Cond.methodLink "LieClock$Nodes" (3 : Nat) ({ cls := "java/lang/Object", name := "<init>", desc := "()V" } : Jvm.MethodName)) ∈ TB := TB_of 491 (by decide +kernel) (by decide +kernel)
theorem tb_492 : (Jvm.Cond.fieldLink "LieClock$Nodes" (11 : Nat) "LieClock$Nodes" "words" "[I") ∈ TB := TB_of 492 (by decide +kernel) (by decide +kernel)
theorem tb_495 : (Jvm.Cond.fieldLink "LieClock$Nodes" (15 : Nat) "LieClock$Nodes" "clocks" "[I") ∈ TB := TB_of 495 (by decide +kernel) (by decide +kernel)
theorem tb_497 : (Jvm.Cond.fieldLink "LieClock$Nodes" (18 : Nat) "LieClock$Nodes" "heards" "[I") ∈ TB := TB_of 497 (by decide +kernel) (by decide +kernel)
theorem tb_498 : (Jvm.Cond.fieldLink "LieClock$Nodes" (21 : Nat) "LieClock$Nodes" "from" "[I") ∈ TB := TB_of 498 (by decide +kernel) (by decide +kernel)
theorem tb_500 : (Jvm.Cond.fieldLink "LieClock$Nodes" (24 : Nat) "LieClock$Nodes" "rows" "[J") ∈ TB := TB_of 500 (by decide +kernel) (by decide +kernel)
theorem tb_502 : (Jvm.Cond.fieldLink "LieClock$Nodes" (28 : Nat) "LieClock$Nodes" "table" "[I") ∈ TB := TB_of 502 (by decide +kernel) (by decide +kernel)
theorem tb_503 : (Jvm.Cond.fieldLink "LieClock$Nodes" (31 : Nat) "LieClock$Nodes" "size" "I") ∈ TB := TB_of 503 (by decide +kernel) (by decide +kernel)
theorem tb_521 : (Jvm.Cond.arrayClass Jvm.ClassFile.FieldType.boolean) ∈ TB := TB_of 521 (by decide +kernel) (by decide +kernel)
theorem tb_522 : (Jvm.Cond.classLink "LieClock" (75 : Nat) "LieClock$Sets") ∈ TB := TB_of 522 (by decide +kernel) (by decide +kernel)
theorem tb_523 : (Jvm.Cond.instantiable "LieClock$Sets" (6 : Nat)) ∈ TB := TB_of 523 (by decide +kernel) (by decide +kernel)
theorem tb_525 : (Jvm.Cond.instanceMethod ({ cls := "LieClock$Sets", name := "<init>", desc := "()V" } : Jvm.MethodName)) ∈ TB := TB_of 525 (by decide +kernel) (by decide +kernel)
theorem tb_527 : (Jvm.Cond.methodLink "LieClock$Sets" (3 : Nat) ({ cls := "java/lang/Object", name := "<init>", desc := "()V" } : Jvm.MethodName)) ∈ TB := TB_of 527 (by decide +kernel) (by decide +kernel)
theorem tb_528 : (Jvm.Cond.fieldLink "LieClock$Sets" (9 : Nat) "LieClock$Sets" "leaves" "[J") ∈ TB := TB_of 528 (by decide +kernel) (by decide +kernel)
theorem tb_529 : (Jvm.Cond.fieldLink "LieClock$Sets" (15 : Nat) "LieClock$Sets" "numbers" "[I") ∈ TB := TB_of 529 (by decide +kernel) (by decide +kernel)
theorem tb_530 : (Jvm.Cond.fieldLink "LieClock$Sets" (19 : Nat) "LieClock$Sets" "below" "[J") ∈ TB := TB_of 530 (by decide +kernel) (by decide +kernel)
theorem tb_531 : (Jvm.Cond.fieldLink "LieClock$Sets" (22 : Nat) "LieClock$Sets" "size" "I") ∈ TB := TB_of 531 (by decide +kernel) (by decide +kernel)
theorem tb_532 : (Jvm.Cond.fieldLink "LieClock$Sets" (45 : Nat) "LieClock$Sets" "first" "J") ∈ TB := TB_of 532 (by decide +kernel) (by decide +kernel)
theorem tb_533 : (Jvm.Cond.fieldLink "LieClock$Sets" (49 : Nat) "LieClock$Sets" "second" "J") ∈ TB := TB_of 533 (by decide +kernel) (by decide +kernel)
theorem tb_547 : (Jvm.Cond.classLink "LieClock" (82 : Nat) "LieClock$Orders") ∈ TB := TB_of 547 (by decide +kernel) (by decide +kernel)
theorem tb_548 : (Jvm.Cond.instantiable "LieClock$Orders" (8 : Nat)) ∈ TB := TB_of 548 (by decide +kernel) (by decide +kernel)
theorem tb_549 : (Jvm.Cond.methodLink "LieClock" (84 : Nat) ({ cls := "LieClock$Orders", name := "<init>", desc := "()V" } : Jvm.MethodName)) ∈ TB := TB_of 549 (by decide +kernel) (by decide +kernel)
theorem tb_550 : (Jvm.Cond.instanceMethod ({ cls := "LieClock$Orders", name := "<init>", desc := "()V" } : Jvm.MethodName)) ∈ TB := TB_of 550 (by decide +kernel) (by decide +kernel)
theorem tb_552 : (Jvm.Cond.methodLink "LieClock$Orders" (3 : Nat) ({ cls := "java/lang/Object", name := "<init>", desc := "()V" } : Jvm.MethodName)) ∈ TB := TB_of 552 (by decide +kernel) (by decide +kernel)
theorem tb_553 : (Jvm.Cond.classLink "LieClock$Orders" (9 : Nat) "LieClock$State") ∈ TB := TB_of 553 (by decide +kernel) (by decide +kernel)
theorem tb_554 : (Jvm.Cond.methodLink "LieClock$Orders" (24 : Nat) ({ cls := "LieClock$State", name := "<init>", desc := "(Z)V" } : Jvm.MethodName)) ∈ TB := TB_of 554 (by decide +kernel) (by decide +kernel)
theorem tb_555 : (Jvm.Cond.fieldLink "LieClock$Orders" (11 : Nat) "LieClock$Orders" "frames" "[LLieClock$State;") ∈ TB := TB_of 555 (by decide +kernel) (by decide +kernel)
theorem tb_556 : (Jvm.Cond.fieldLink "LieClock$Orders" (17 : Nat) "LieClock$Orders" "path" "[I") ∈ TB := TB_of 556 (by decide +kernel) (by decide +kernel)
theorem tb_557 : (Jvm.Cond.fieldLink "LieClock$Orders" (21 : Nat) "LieClock$Orders" "best" "[I") ∈ TB := TB_of 557 (by decide +kernel) (by decide +kernel)
theorem tb_559 : (Jvm.Cond.fieldLink "LieClock$Orders" (74 : Nat) "LieClock$Orders" "bestClock" "I") ∈ TB := TB_of 559 (by decide +kernel) (by decide +kernel)
theorem tb_561 : (Jvm.Cond.fieldLink "LieClock$Orders" (38 : Nat) "LieClock$Orders" "found" "Z") ∈ TB := TB_of 561 (by decide +kernel) (by decide +kernel)
theorem tb_562 : (Jvm.Cond.fieldLink "LieClock$Orders" (27 : Nat) "LieClock$Orders" "known" "Z") ∈ TB := TB_of 562 (by decide +kernel) (by decide +kernel)
theorem tb_564 : (Jvm.Cond.fieldLink "LieClock$Orders" (31 : Nat) "LieClock$Orders" "knownSet" "I") ∈ TB := TB_of 564 (by decide +kernel) (by decide +kernel)
theorem tb_565 : (Jvm.Cond.fieldLink "LieClock$Orders" (35 : Nat) "LieClock$Orders" "knownLate" "Z") ∈ TB := TB_of 565 (by decide +kernel) (by decide +kernel)
theorem tb_583 : (Jvm.Cond.classLink "LieClock" (89 : Nat) "LieClock$Ahead") ∈ TB := TB_of 583 (by decide +kernel) (by decide +kernel)
theorem tb_584 : (Jvm.Cond.instantiable "LieClock$Ahead" (8 : Nat)) ∈ TB := TB_of 584 (by decide +kernel) (by decide +kernel)
theorem tb_585 : (Jvm.Cond.methodLink "LieClock" (91 : Nat) ({ cls := "LieClock$Ahead", name := "<init>", desc := "(LLieClock$Nodes;)V" } : Jvm.MethodName)) ∈ TB := TB_of 585 (by decide +kernel) (by decide +kernel)
theorem tb_586 : (Jvm.Cond.instanceMethod ({ cls := "LieClock$Ahead", name := "<init>", desc := "(LLieClock$Nodes;)V" } : Jvm.MethodName)) ∈ TB := TB_of 586 (by decide +kernel) (by decide +kernel)
theorem tb_588 : (Jvm.Cond.methodLink "LieClock$Ahead" (3 : Nat) ({ cls := "java/lang/Object", name := "<init>", desc := "()V" } : Jvm.MethodName)) ∈ TB := TB_of 588 (by decide +kernel) (by decide +kernel)
theorem tb_589 : (Jvm.Cond.classLink "LieClock$Ahead" (9 : Nat) "LieClock$State") ∈ TB := TB_of 589 (by decide +kernel) (by decide +kernel)
theorem tb_590 : (Jvm.Cond.methodLink "LieClock$Ahead" (11 : Nat) ({ cls := "LieClock$State", name := "<init>", desc := "(Z)V" } : Jvm.MethodName)) ∈ TB := TB_of 590 (by decide +kernel) (by decide +kernel)
theorem tb_591 : (Jvm.Cond.fieldLink "LieClock$Ahead" (24 : Nat) "LieClock$Ahead" "nodes" "LLieClock$Nodes;") ∈ TB := TB_of 591 (by decide +kernel) (by decide +kernel)
theorem tb_592 : (Jvm.Cond.fieldLink "LieClock$Ahead" (14 : Nat) "LieClock$Ahead" "probe" "LLieClock$State;") ∈ TB := TB_of 592 (by decide +kernel) (by decide +kernel)
theorem tb_593 : (Jvm.Cond.fieldLink "LieClock$Ahead" (20 : Nat) "LieClock$Ahead" "path" "[I") ∈ TB := TB_of 593 (by decide +kernel) (by decide +kernel)
theorem tb_620 : (Jvm.Cond.classLink "LieClock" (98 : Nat) "LieClock$Book") ∈ TB := TB_of 620 (by decide +kernel) (by decide +kernel)
theorem tb_621 : (Jvm.Cond.instantiable "LieClock$Book" (8 : Nat)) ∈ TB := TB_of 621 (by decide +kernel) (by decide +kernel)
theorem tb_622 : (Jvm.Cond.methodLink "LieClock" (100 : Nat) ({ cls := "LieClock$Book", name := "<init>", desc := "(LLieClock$Nodes;)V" } : Jvm.MethodName)) ∈ TB := TB_of 622 (by decide +kernel) (by decide +kernel)
theorem tb_623 : (Jvm.Cond.instanceMethod ({ cls := "LieClock$Book", name := "<init>", desc := "(LLieClock$Nodes;)V" } : Jvm.MethodName)) ∈ TB := TB_of 623 (by decide +kernel) (by decide +kernel)
theorem tb_625 : (Jvm.Cond.methodLink "LieClock$Book" (3 : Nat) ({ cls := "java/lang/Object", name := "<init>", desc := "()V" } : Jvm.MethodName)) ∈ TB := TB_of 625 (by decide +kernel) (by decide +kernel)
theorem tb_626 : (Jvm.Cond.classLink "LieClock$Book" (9 : Nat) "LieClock$State") ∈ TB := TB_of 626 (by decide +kernel) (by decide +kernel)
theorem tb_627 : (Jvm.Cond.methodLink "LieClock$Book" (11 : Nat) ({ cls := "LieClock$State", name := "<init>", desc := "(Z)V" } : Jvm.MethodName)) ∈ TB := TB_of 627 (by decide +kernel) (by decide +kernel)
theorem tb_628 : (Jvm.Cond.fieldLink "LieClock$Book" (38 : Nat) "LieClock$Book" "nodes" "LLieClock$Nodes;") ∈ TB := TB_of 628 (by decide +kernel) (by decide +kernel)
theorem tb_629 : (Jvm.Cond.fieldLink "LieClock$Book" (14 : Nat) "LieClock$Book" "probe" "LLieClock$State;") ∈ TB := TB_of 629 (by decide +kernel) (by decide +kernel)
theorem tb_630 : (Jvm.Cond.fieldLink "LieClock$Book" (20 : Nat) "LieClock$Book" "readings" "[I") ∈ TB := TB_of 630 (by decide +kernel) (by decide +kernel)
theorem tb_631 : (Jvm.Cond.fieldLink "LieClock$Book" (42 : Nat) "LieClock$Book" "size" "I") ∈ TB := TB_of 631 (by decide +kernel) (by decide +kernel)
theorem tb_633 : (Jvm.Cond.fieldLink "LieClock$Book" (24 : Nat) "LieClock$Book" "known" "[Z") ∈ TB := TB_of 633 (by decide +kernel) (by decide +kernel)
theorem tb_634 : (Jvm.Cond.fieldLink "LieClock$Book" (28 : Nat) "LieClock$Book" "rows" "[J") ∈ TB := TB_of 634 (by decide +kernel) (by decide +kernel)
theorem tb_636 : (Jvm.Cond.fieldLink "LieClock$Book" (32 : Nat) "LieClock$Book" "sure" "[I") ∈ TB := TB_of 636 (by decide +kernel) (by decide +kernel)
theorem tb_638 : (Jvm.Cond.fieldLink "LieClock$Book" (35 : Nat) "LieClock$Book" "liarsIn" "[I") ∈ TB := TB_of 638 (by decide +kernel) (by decide +kernel)
theorem tb_657 : (Jvm.Cond.fieldLink "LieClock" (16 : Nat) "LieClock" "tape" "LLieClock$Tape;") ∈ TB := TB_of 657 (by decide +kernel) (by decide +kernel)
theorem tb_658 : (Jvm.Cond.fieldLink "LieClock" (9 : Nat) "LieClock" "faultPlace" "I") ∈ TB := TB_of 658 (by decide +kernel) (by decide +kernel)
theorem tb_659 : (Jvm.Cond.fieldLink "LieClock" (35 : Nat) "LieClock" "parser" "LLieClock$Parser;") ∈ TB := TB_of 659 (by decide +kernel) (by decide +kernel)
theorem tb_660 : (Jvm.Cond.fieldLink "LieClock" (23 : Nat) "LieClock" "told" "LLieClock$Told;") ∈ TB := TB_of 660 (by decide +kernel) (by decide +kernel)
theorem tb_661 : (Jvm.Cond.fieldLink "LieClock" (27 : Nat) "LieClock" "spare" "LLieClock$Told;") ∈ TB := TB_of 661 (by decide +kernel) (by decide +kernel)
theorem tb_662 : (Jvm.Cond.fieldLink "LieClock" (47 : Nat) "LieClock" "now" "LLieClock$State;") ∈ TB := TB_of 662 (by decide +kernel) (by decide +kernel)
theorem tb_663 : (Jvm.Cond.fieldLink "LieClock" (54 : Nat) "LieClock" "probe" "LLieClock$State;") ∈ TB := TB_of 663 (by decide +kernel) (by decide +kernel)
theorem tb_664 : (Jvm.Cond.fieldLink "LieClock" (57 : Nat) "LieClock" "past" "[LLieClock$State;") ∈ TB := TB_of 664 (by decide +kernel) (by decide +kernel)
theorem tb_665 : (Jvm.Cond.fieldLink "LieClock" (119 : Nat) "LieClock" "undoable" "I") ∈ TB := TB_of 665 (by decide +kernel) (by decide +kernel)
theorem tb_666 : (Jvm.Cond.fieldLink "LieClock" (225 : Nat) "LieClock" "pastEnd" "I") ∈ TB := TB_of 666 (by decide +kernel) (by decide +kernel)
theorem tb_667 : (Jvm.Cond.fieldLink "LieClock" (61 : Nat) "LieClock" "slots" "[LLieClock$State;") ∈ TB := TB_of 667 (by decide +kernel) (by decide +kernel)
theorem tb_668 : (Jvm.Cond.fieldLink "LieClock" (64 : Nat) "LieClock" "slotTapes" "[LLieClock$Tape;") ∈ TB := TB_of 668 (by decide +kernel) (by decide +kernel)
theorem tb_669 : (Jvm.Cond.fieldLink "LieClock" (68 : Nat) "LieClock" "held" "[Z") ∈ TB := TB_of 669 (by decide +kernel) (by decide +kernel)
theorem tb_670 : (Jvm.Cond.fieldLink "LieClock" (78 : Nat) "LieClock" "sets" "LLieClock$Sets;") ∈ TB := TB_of 670 (by decide +kernel) (by decide +kernel)
theorem tb_671 : (Jvm.Cond.fieldLink "LieClock" (85 : Nat) "LieClock" "orders" "LLieClock$Orders;") ∈ TB := TB_of 671 (by decide +kernel) (by decide +kernel)
theorem tb_672 : (Jvm.Cond.fieldLink "LieClock" (94 : Nat) "LieClock" "aheads" "LLieClock$Ahead;") ∈ TB := TB_of 672 (by decide +kernel) (by decide +kernel)
theorem tb_673 : (Jvm.Cond.fieldLink "LieClock" (101 : Nat) "LieClock" "book" "LLieClock$Book;") ∈ TB := TB_of 673 (by decide +kernel) (by decide +kernel)
theorem tb_709 : (Jvm.Cond.methodLink "LieClockLaw" (13 : Nat) ({ cls := "LieClock", name := "feed", desc := "(IIIII)I" } : Jvm.MethodName)) ∈ TB := TB_of 709 (by decide +kernel) (by decide +kernel)
theorem tb_710 : (Jvm.Cond.instanceMethod ({ cls := "LieClock", name := "feed", desc := "(IIIII)I" } : Jvm.MethodName)) ∈ TB := TB_of 710 (by decide +kernel) (by decide +kernel)
theorem tb_711 : (Jvm.Cond.selects "LieClock" ({ cls := "LieClock", name := "feed", desc := "(IIIII)I" } : Jvm.MethodName) ({ cls := "LieClock", name := "feed", desc := "(IIIII)I" } : Jvm.MethodName)) ∈ TB := TB_of 711 (by decide +kernel) (by decide +kernel)
theorem tb_713 : (Jvm.Cond.methodLink "LieClock" (108 : Nat) ({ cls := "LieClock$Tape", name := "append", desc := "(I)V" } : Jvm.MethodName)) ∈ TB := TB_of 713 (by decide +kernel) (by decide +kernel)
theorem tb_714 : (Jvm.Cond.instanceMethod ({ cls := "LieClock$Tape", name := "append", desc := "(I)V" } : Jvm.MethodName)) ∈ TB := TB_of 714 (by decide +kernel) (by decide +kernel)
theorem tb_715 : (Jvm.Cond.selects "LieClock$Tape" ({ cls := "LieClock$Tape", name := "append", desc := "(I)V" } : Jvm.MethodName) ({ cls := "LieClock$Tape", name := "append", desc := "(I)V" } : Jvm.MethodName)) ∈ TB := TB_of 715 (by decide +kernel) (by decide +kernel)
theorem tb_717 : (Jvm.Cond.methodLink "LieClockLaw" (18 : Nat) ({ cls := "LieClock", name := "back", desc := "(I)I" } : Jvm.MethodName)) ∈ TB := TB_of 717 (by decide +kernel) (by decide +kernel)
theorem tb_718 : (Jvm.Cond.instanceMethod ({ cls := "LieClock", name := "back", desc := "(I)I" } : Jvm.MethodName)) ∈ TB := TB_of 718 (by decide +kernel) (by decide +kernel)
theorem tb_719 : (Jvm.Cond.selects "LieClock" ({ cls := "LieClock", name := "back", desc := "(I)I" } : Jvm.MethodName) ({ cls := "LieClock", name := "back", desc := "(I)I" } : Jvm.MethodName)) ∈ TB := TB_of 719 (by decide +kernel) (by decide +kernel)
theorem tb_721 : (Jvm.Cond.methodLink "LieClockLaw" (23 : Nat) ({ cls := "LieClock", name := "read", desc := "()I" } : Jvm.MethodName)) ∈ TB := TB_of 721 (by decide +kernel) (by decide +kernel)
theorem tb_722 : (Jvm.Cond.instanceMethod ({ cls := "LieClock", name := "read", desc := "()I" } : Jvm.MethodName)) ∈ TB := TB_of 722 (by decide +kernel) (by decide +kernel)
theorem tb_723 : (Jvm.Cond.selects "LieClock" ({ cls := "LieClock", name := "read", desc := "()I" } : Jvm.MethodName) ({ cls := "LieClock", name := "read", desc := "()I" } : Jvm.MethodName)) ∈ TB := TB_of 723 (by decide +kernel) (by decide +kernel)
theorem tb_725 : (Jvm.Cond.methodLink "LieClock" (112 : Nat) ({ cls := "LieClock$Parser", name := "parse", desc := "(LLieClock$Tape;LLieClock$Told;)I" } : Jvm.MethodName)) ∈ TB := TB_of 725 (by decide +kernel) (by decide +kernel)
theorem tb_726 : (Jvm.Cond.instanceMethod ({ cls := "LieClock$Parser", name := "parse", desc := "(LLieClock$Tape;LLieClock$Told;)I" } : Jvm.MethodName)) ∈ TB := TB_of 726 (by decide +kernel) (by decide +kernel)
theorem tb_727 : (Jvm.Cond.selects "LieClock$Parser" ({ cls := "LieClock$Parser", name := "parse", desc := "(LLieClock$Tape;LLieClock$Told;)I" } : Jvm.MethodName) ({ cls := "LieClock$Parser", name := "parse", desc := "(LLieClock$Tape;LLieClock$Told;)I" } : Jvm.MethodName)) ∈ TB := TB_of 727 (by decide +kernel) (by decide +kernel)
theorem tb_729 : (Jvm.Cond.methodLink "LieClock$Parser" (22 : Nat) ({ cls := "LieClock$Tokens", name := "cut", desc := "(LLieClock$Tape;)V" } : Jvm.MethodName)) ∈ TB := TB_of 729 (by decide +kernel) (by decide +kernel)
theorem tb_730 : (Jvm.Cond.instanceMethod ({ cls := "LieClock$Tokens", name := "cut", desc := "(LLieClock$Tape;)V" } : Jvm.MethodName)) ∈ TB := TB_of 730 (by decide +kernel) (by decide +kernel)
theorem tb_731 : (Jvm.Cond.selects "LieClock$Tokens" ({ cls := "LieClock$Tokens", name := "cut", desc := "(LLieClock$Tape;)V" } : Jvm.MethodName) ({ cls := "LieClock$Tokens", name := "cut", desc := "(LLieClock$Tape;)V" } : Jvm.MethodName)) ∈ TB := TB_of 731 (by decide +kernel) (by decide +kernel)
theorem tb_733 : (Jvm.Cond.methodLink "LieClock$Tokens" (45 : Nat) ({ cls := "LieClock$Tokens", name := "skipBlanks", desc := "(LLieClock$Tape;I)I" } : Jvm.MethodName)) ∈ TB := TB_of 733 (by decide +kernel) (by decide +kernel)
theorem tb_734 : (Jvm.Cond.static ({ cls := "LieClock$Tokens", name := "skipBlanks", desc := "(LLieClock$Tape;I)I" } : Jvm.MethodName)) ∈ TB := TB_of 734 (by decide +kernel) (by decide +kernel)
theorem tb_736 : (Jvm.Cond.methodLink "LieClock$Tokens" (56 : Nat) ({ cls := "LieClock$Tape", name := "at", desc := "(I)I" } : Jvm.MethodName)) ∈ TB := TB_of 736 (by decide +kernel) (by decide +kernel)
theorem tb_737 : (Jvm.Cond.instanceMethod ({ cls := "LieClock$Tape", name := "at", desc := "(I)I" } : Jvm.MethodName)) ∈ TB := TB_of 737 (by decide +kernel) (by decide +kernel)
theorem tb_738 : (Jvm.Cond.selects "LieClock$Tape" ({ cls := "LieClock$Tape", name := "at", desc := "(I)I" } : Jvm.MethodName) ({ cls := "LieClock$Tape", name := "at", desc := "(I)I" } : Jvm.MethodName)) ∈ TB := TB_of 738 (by decide +kernel) (by decide +kernel)
theorem tb_743 : (Jvm.Cond.methodLink "LieClock$Tokens" (49 : Nat) ({ cls := "LieClock$Tokens", name := "cutOne", desc := "(LLieClock$Tape;I)I" } : Jvm.MethodName)) ∈ TB := TB_of 743 (by decide +kernel) (by decide +kernel)
theorem tb_745 : (Jvm.Cond.instanceMethod ({ cls := "LieClock$Tokens", name := "cutOne", desc := "(LLieClock$Tape;I)I" } : Jvm.MethodName)) ∈ TB := TB_of 745 (by decide +kernel) (by decide +kernel)
theorem tb_747 : (Jvm.Cond.methodLink "LieClock$Tokens" (64 : Nat) ({ cls := "LieClock$Tokens", name := "isLetter", desc := "(I)Z" } : Jvm.MethodName)) ∈ TB := TB_of 747 (by decide +kernel) (by decide +kernel)
theorem tb_748 : (Jvm.Cond.static ({ cls := "LieClock$Tokens", name := "isLetter", desc := "(I)Z" } : Jvm.MethodName)) ∈ TB := TB_of 748 (by decide +kernel) (by decide +kernel)
theorem tb_758 : (Jvm.Cond.methodLink "LieClock$Tokens" (76 : Nat) ({ cls := "LieClock$Tokens", name := "add", desc := "(IIJ)V" } : Jvm.MethodName)) ∈ TB := TB_of 758 (by decide +kernel) (by decide +kernel)
theorem tb_760 : (Jvm.Cond.instanceMethod ({ cls := "LieClock$Tokens", name := "add", desc := "(IIJ)V" } : Jvm.MethodName)) ∈ TB := TB_of 760 (by decide +kernel) (by decide +kernel)
theorem tb_762 : (Jvm.Cond.methodLink "LieClock$Tokens" (70 : Nat) ({ cls := "LieClock$Tokens", name := "isDigit", desc := "(I)Z" } : Jvm.MethodName)) ∈ TB := TB_of 762 (by decide +kernel) (by decide +kernel)
theorem tb_763 : (Jvm.Cond.static ({ cls := "LieClock$Tokens", name := "isDigit", desc := "(I)Z" } : Jvm.MethodName)) ∈ TB := TB_of 763 (by decide +kernel) (by decide +kernel)
theorem tb_788 : (Jvm.Cond.static ({ cls := "java/lang/Math", name := "max", desc := "(II)I" } : Jvm.MethodName)) ∈ TB := TB_of 788 (by decide +kernel) (by decide +kernel)
theorem tb_791 : (Jvm.Cond.static ({ cls := "java/lang/Math", name := "min", desc := "(II)I" } : Jvm.MethodName)) ∈ TB := TB_of 791 (by decide +kernel) (by decide +kernel)
theorem tb_831 : (Jvm.Cond.methodLink "LieClock$Parser" (26 : Nat) ({ cls := "LieClock$Told", name := "clear", desc := "()V" } : Jvm.MethodName)) ∈ TB := TB_of 831 (by decide +kernel) (by decide +kernel)
theorem tb_832 : (Jvm.Cond.instanceMethod ({ cls := "LieClock$Told", name := "clear", desc := "()V" } : Jvm.MethodName)) ∈ TB := TB_of 832 (by decide +kernel) (by decide +kernel)
theorem tb_833 : (Jvm.Cond.selects "LieClock$Told" ({ cls := "LieClock$Told", name := "clear", desc := "()V" } : Jvm.MethodName) ({ cls := "LieClock$Told", name := "clear", desc := "()V" } : Jvm.MethodName)) ∈ TB := TB_of 833 (by decide +kernel) (by decide +kernel)
theorem tb_835 : (Jvm.Cond.methodLink "LieClock$Told" (75 : Nat) ({ cls := "LieClock$Law", name := "clear", desc := "()V" } : Jvm.MethodName)) ∈ TB := TB_of 835 (by decide +kernel) (by decide +kernel)
theorem tb_836 : (Jvm.Cond.instanceMethod ({ cls := "LieClock$Law", name := "clear", desc := "()V" } : Jvm.MethodName)) ∈ TB := TB_of 836 (by decide +kernel) (by decide +kernel)
theorem tb_837 : (Jvm.Cond.selects "LieClock$Law" ({ cls := "LieClock$Law", name := "clear", desc := "()V" } : Jvm.MethodName) ({ cls := "LieClock$Law", name := "clear", desc := "()V" } : Jvm.MethodName)) ∈ TB := TB_of 837 (by decide +kernel) (by decide +kernel)
theorem tb_965 : (Jvm.Cond.methodLink "LieClock$Parser" (78 : Nat) ({ cls := "LieClock$Told", name := "finish", desc := "()V" } : Jvm.MethodName)) ∈ TB := TB_of 965 (by decide +kernel) (by decide +kernel)
theorem tb_966 : (Jvm.Cond.methodLink "LieClock" (116 : Nat) ({ cls := "LieClock$Parser", name := "faultPlace", desc := "()I" } : Jvm.MethodName)) ∈ TB := TB_of 966 (by decide +kernel) (by decide +kernel)
theorem tb_967 : (Jvm.Cond.instanceMethod ({ cls := "LieClock$Parser", name := "faultPlace", desc := "()I" } : Jvm.MethodName)) ∈ TB := TB_of 967 (by decide +kernel) (by decide +kernel)
theorem tb_968 : (Jvm.Cond.selects "LieClock$Parser" ({ cls := "LieClock$Parser", name := "faultPlace", desc := "()I" } : Jvm.MethodName) ({ cls := "LieClock$Parser", name := "faultPlace", desc := "()I" } : Jvm.MethodName)) ∈ TB := TB_of 968 (by decide +kernel) (by decide +kernel)
theorem tb_970 : (Jvm.Cond.methodLink "LieClock" (122 : Nat) ({ cls := "LieClock$Book", name := "clear", desc := "()V" } : Jvm.MethodName)) ∈ TB := TB_of 970 (by decide +kernel) (by decide +kernel)
theorem tb_971 : (Jvm.Cond.instanceMethod ({ cls := "LieClock$Book", name := "clear", desc := "()V" } : Jvm.MethodName)) ∈ TB := TB_of 971 (by decide +kernel) (by decide +kernel)
theorem tb_972 : (Jvm.Cond.selects "LieClock$Book" ({ cls := "LieClock$Book", name := "clear", desc := "()V" } : Jvm.MethodName) ({ cls := "LieClock$Book", name := "clear", desc := "()V" } : Jvm.MethodName)) ∈ TB := TB_of 972 (by decide +kernel) (by decide +kernel)
theorem tb_974 : (Jvm.Cond.methodLink "LieClock" (125 : Nat) ({ cls := "LieClock", name := "forgetSearches", desc := "()V" } : Jvm.MethodName)) ∈ TB := TB_of 974 (by decide +kernel) (by decide +kernel)
theorem tb_976 : (Jvm.Cond.instanceMethod ({ cls := "LieClock", name := "forgetSearches", desc := "()V" } : Jvm.MethodName)) ∈ TB := TB_of 976 (by decide +kernel) (by decide +kernel)
theorem tb_978 : (Jvm.Cond.methodLink "LieClockLaw" (28 : Nat) ({ cls := "LieClock", name := "place", desc := "()I" } : Jvm.MethodName)) ∈ TB := TB_of 978 (by decide +kernel) (by decide +kernel)
theorem tb_979 : (Jvm.Cond.instanceMethod ({ cls := "LieClock", name := "place", desc := "()I" } : Jvm.MethodName)) ∈ TB := TB_of 979 (by decide +kernel) (by decide +kernel)
theorem tb_980 : (Jvm.Cond.selects "LieClock" ({ cls := "LieClock", name := "place", desc := "()I" } : Jvm.MethodName) ({ cls := "LieClock", name := "place", desc := "()I" } : Jvm.MethodName)) ∈ TB := TB_of 980 (by decide +kernel) (by decide +kernel)
theorem tb_982 : (Jvm.Cond.methodLink "LieClockLaw" (32 : Nat) ({ cls := "LieClock", name := "clock", desc := "()I" } : Jvm.MethodName)) ∈ TB := TB_of 982 (by decide +kernel) (by decide +kernel)
theorem tb_983 : (Jvm.Cond.instanceMethod ({ cls := "LieClock", name := "clock", desc := "()I" } : Jvm.MethodName)) ∈ TB := TB_of 983 (by decide +kernel) (by decide +kernel)
theorem tb_984 : (Jvm.Cond.selects "LieClock" ({ cls := "LieClock", name := "clock", desc := "()I" } : Jvm.MethodName) ({ cls := "LieClock", name := "clock", desc := "()I" } : Jvm.MethodName)) ∈ TB := TB_of 984 (by decide +kernel) (by decide +kernel)
theorem tb_986 : (Jvm.Cond.methodLink "LieClockLaw" (36 : Nat) ({ cls := "LieClock", name := "fact", desc := "(II)I" } : Jvm.MethodName)) ∈ TB := TB_of 986 (by decide +kernel) (by decide +kernel)
theorem tb_987 : (Jvm.Cond.instanceMethod ({ cls := "LieClock", name := "fact", desc := "(II)I" } : Jvm.MethodName)) ∈ TB := TB_of 987 (by decide +kernel) (by decide +kernel)
theorem tb_988 : (Jvm.Cond.selects "LieClock" ({ cls := "LieClock", name := "fact", desc := "(II)I" } : Jvm.MethodName) ({ cls := "LieClock", name := "fact", desc := "(II)I" } : Jvm.MethodName)) ∈ TB := TB_of 988 (by decide +kernel) (by decide +kernel)
theorem tb_990 : (Jvm.Cond.methodLink "LieClockLaw" (41 : Nat) ({ cls := "LieClock", name := "word", desc := "(II)I" } : Jvm.MethodName)) ∈ TB := TB_of 990 (by decide +kernel) (by decide +kernel)
theorem tb_991 : (Jvm.Cond.instanceMethod ({ cls := "LieClock", name := "word", desc := "(II)I" } : Jvm.MethodName)) ∈ TB := TB_of 991 (by decide +kernel) (by decide +kernel)
theorem tb_992 : (Jvm.Cond.selects "LieClock" ({ cls := "LieClock", name := "word", desc := "(II)I" } : Jvm.MethodName) ({ cls := "LieClock", name := "word", desc := "(II)I" } : Jvm.MethodName)) ∈ TB := TB_of 992 (by decide +kernel) (by decide +kernel)
theorem tb_994 : (Jvm.Cond.methodLink "LieClock" (140 : Nat) ({ cls := "LieClock$Told", name := "hasWord", desc := "(I)Z" } : Jvm.MethodName)) ∈ TB := TB_of 994 (by decide +kernel) (by decide +kernel)
theorem tb_995 : (Jvm.Cond.instanceMethod ({ cls := "LieClock$Told", name := "hasWord", desc := "(I)Z" } : Jvm.MethodName)) ∈ TB := TB_of 995 (by decide +kernel) (by decide +kernel)
theorem tb_996 : (Jvm.Cond.selects "LieClock$Told" ({ cls := "LieClock$Told", name := "hasWord", desc := "(I)Z" } : Jvm.MethodName) ({ cls := "LieClock$Told", name := "hasWord", desc := "(I)Z" } : Jvm.MethodName)) ∈ TB := TB_of 996 (by decide +kernel) (by decide +kernel)
theorem tb_998 : (Jvm.Cond.methodLink "LieClock" (168 : Nat) ({ cls := "java/lang/Long", name := "bitCount", desc := "(J)I" } : Jvm.MethodName)) ∈ TB := TB_of 998 (by decide +kernel) (by decide +kernel)
theorem tb_999 : (Jvm.Cond.static ({ cls := "java/lang/Long", name := "bitCount", desc := "(J)I" } : Jvm.MethodName)) ∈ TB := TB_of 999 (by decide +kernel) (by decide +kernel)
theorem tb_1001 : (Jvm.Cond.constantLong "java/lang/Long" (314 : Nat) (6148914691236517205 : Int64)) ∈ TB := TB_of 1001 (by decide +kernel) (by decide +kernel)
theorem tb_1002 : (Jvm.Cond.constantLong "java/lang/Long" (316 : Nat) (3689348814741910323 : Int64)) ∈ TB := TB_of 1002 (by decide +kernel) (by decide +kernel)
theorem tb_1003 : (Jvm.Cond.constantLong "java/lang/Long" (318 : Nat) (1085102592571150095 : Int64)) ∈ TB := TB_of 1003 (by decide +kernel) (by decide +kernel)
theorem tb_1004 : (Jvm.Cond.methodLink "LieClockLaw" (45 : Nat) ({ cls := "LieClock", name := "witness", desc := "(II)I" } : Jvm.MethodName)) ∈ TB := TB_of 1004 (by decide +kernel) (by decide +kernel)
theorem tb_1005 : (Jvm.Cond.instanceMethod ({ cls := "LieClock", name := "witness", desc := "(II)I" } : Jvm.MethodName)) ∈ TB := TB_of 1005 (by decide +kernel) (by decide +kernel)
theorem tb_1006 : (Jvm.Cond.selects "LieClock" ({ cls := "LieClock", name := "witness", desc := "(II)I" } : Jvm.MethodName) ({ cls := "LieClock", name := "witness", desc := "(II)I" } : Jvm.MethodName)) ∈ TB := TB_of 1006 (by decide +kernel) (by decide +kernel)
theorem tb_1008 : (Jvm.Cond.methodLink "LieClock" (180 : Nat) ({ cls := "java/lang/Integer", name := "bitCount", desc := "(I)I" } : Jvm.MethodName)) ∈ TB := TB_of 1008 (by decide +kernel) (by decide +kernel)
theorem tb_1009 : (Jvm.Cond.static ({ cls := "java/lang/Integer", name := "bitCount", desc := "(I)I" } : Jvm.MethodName)) ∈ TB := TB_of 1009 (by decide +kernel) (by decide +kernel)
theorem tb_1011 : (Jvm.Cond.constant "java/lang/Integer" (265 : Nat) (1431655765 : Int32)) ∈ TB := TB_of 1011 (by decide +kernel) (by decide +kernel)
theorem tb_1012 : (Jvm.Cond.constant "java/lang/Integer" (266 : Nat) (858993459 : Int32)) ∈ TB := TB_of 1012 (by decide +kernel) (by decide +kernel)
theorem tb_1013 : (Jvm.Cond.constant "java/lang/Integer" (267 : Nat) (252645135 : Int32)) ∈ TB := TB_of 1013 (by decide +kernel) (by decide +kernel)
theorem tb_1014 : (Jvm.Cond.methodLink "LieClock" (188 : Nat) ({ cls := "LieClock$Told", name := "together", desc := "(I)J" } : Jvm.MethodName)) ∈ TB := TB_of 1014 (by decide +kernel) (by decide +kernel)
theorem tb_1015 : (Jvm.Cond.instanceMethod ({ cls := "LieClock$Told", name := "together", desc := "(I)J" } : Jvm.MethodName)) ∈ TB := TB_of 1015 (by decide +kernel) (by decide +kernel)
theorem tb_1016 : (Jvm.Cond.selects "LieClock$Told" ({ cls := "LieClock$Told", name := "together", desc := "(I)J" } : Jvm.MethodName) ({ cls := "LieClock$Told", name := "together", desc := "(I)J" } : Jvm.MethodName)) ∈ TB := TB_of 1016 (by decide +kernel) (by decide +kernel)
theorem tb_1018 : (Jvm.Cond.methodLink "LieClockLaw" (49 : Nat) ({ cls := "LieClock", name := "share", desc := "(I)I" } : Jvm.MethodName)) ∈ TB := TB_of 1018 (by decide +kernel) (by decide +kernel)
theorem tb_1019 : (Jvm.Cond.instanceMethod ({ cls := "LieClock", name := "share", desc := "(I)I" } : Jvm.MethodName)) ∈ TB := TB_of 1019 (by decide +kernel) (by decide +kernel)
theorem tb_1020 : (Jvm.Cond.selects "LieClock" ({ cls := "LieClock", name := "share", desc := "(I)I" } : Jvm.MethodName) ({ cls := "LieClock", name := "share", desc := "(I)I" } : Jvm.MethodName)) ∈ TB := TB_of 1020 (by decide +kernel) (by decide +kernel)
theorem tb_1022 : (Jvm.Cond.constant "LieClock" (192 : Nat) (-1000000 : Int32)) ∈ TB := TB_of 1022 (by decide +kernel) (by decide +kernel)
theorem tb_1023 : (Jvm.Cond.methodLink "LieClockLaw" (53 : Nat) ({ cls := "LieClock", name := "hearing", desc := "(II)I" } : Jvm.MethodName)) ∈ TB := TB_of 1023 (by decide +kernel) (by decide +kernel)
theorem tb_1024 : (Jvm.Cond.instanceMethod ({ cls := "LieClock", name := "hearing", desc := "(II)I" } : Jvm.MethodName)) ∈ TB := TB_of 1024 (by decide +kernel) (by decide +kernel)
theorem tb_1025 : (Jvm.Cond.selects "LieClock" ({ cls := "LieClock", name := "hearing", desc := "(II)I" } : Jvm.MethodName) ({ cls := "LieClock", name := "hearing", desc := "(II)I" } : Jvm.MethodName)) ∈ TB := TB_of 1025 (by decide +kernel) (by decide +kernel)
theorem tb_1027 : (Jvm.Cond.methodLink "LieClock" (196 : Nat) ({ cls := "LieClock$Told", name := "hasCase", desc := "(I)Z" } : Jvm.MethodName)) ∈ TB := TB_of 1027 (by decide +kernel) (by decide +kernel)
theorem tb_1028 : (Jvm.Cond.instanceMethod ({ cls := "LieClock$Told", name := "hasCase", desc := "(I)Z" } : Jvm.MethodName)) ∈ TB := TB_of 1028 (by decide +kernel) (by decide +kernel)
theorem tb_1029 : (Jvm.Cond.selects "LieClock$Told" ({ cls := "LieClock$Told", name := "hasCase", desc := "(I)Z" } : Jvm.MethodName) ({ cls := "LieClock$Told", name := "hasCase", desc := "(I)Z" } : Jvm.MethodName)) ∈ TB := TB_of 1029 (by decide +kernel) (by decide +kernel)
theorem tb_1036 : (Jvm.Cond.methodLink "LieClockLaw" (57 : Nat) ({ cls := "LieClock", name := "say", desc := "(I)I" } : Jvm.MethodName)) ∈ TB := TB_of 1036 (by decide +kernel) (by decide +kernel)
theorem tb_1037 : (Jvm.Cond.instanceMethod ({ cls := "LieClock", name := "say", desc := "(I)I" } : Jvm.MethodName)) ∈ TB := TB_of 1037 (by decide +kernel) (by decide +kernel)
theorem tb_1038 : (Jvm.Cond.selects "LieClock" ({ cls := "LieClock", name := "say", desc := "(I)I" } : Jvm.MethodName) ({ cls := "LieClock", name := "say", desc := "(I)I" } : Jvm.MethodName)) ∈ TB := TB_of 1038 (by decide +kernel) (by decide +kernel)
theorem tb_1040 : (Jvm.Cond.methodLink "LieClock" (212 : Nat) ({ cls := "LieClock", name := "keepForUndo", desc := "()V" } : Jvm.MethodName)) ∈ TB := TB_of 1040 (by decide +kernel) (by decide +kernel)
theorem tb_1042 : (Jvm.Cond.instanceMethod ({ cls := "LieClock", name := "keepForUndo", desc := "()V" } : Jvm.MethodName)) ∈ TB := TB_of 1042 (by decide +kernel) (by decide +kernel)
theorem tb_1044 : (Jvm.Cond.methodLink "LieClock" (228 : Nat) ({ cls := "LieClock$State", name := "copyFrom", desc := "(LLieClock$State;)V" } : Jvm.MethodName)) ∈ TB := TB_of 1044 (by decide +kernel) (by decide +kernel)
theorem tb_1045 : (Jvm.Cond.instanceMethod ({ cls := "LieClock$State", name := "copyFrom", desc := "(LLieClock$State;)V" } : Jvm.MethodName)) ∈ TB := TB_of 1045 (by decide +kernel) (by decide +kernel)
theorem tb_1046 : (Jvm.Cond.selects "LieClock$State" ({ cls := "LieClock$State", name := "copyFrom", desc := "(LLieClock$State;)V" } : Jvm.MethodName) ({ cls := "LieClock$State", name := "copyFrom", desc := "(LLieClock$State;)V" } : Jvm.MethodName)) ∈ TB := TB_of 1046 (by decide +kernel) (by decide +kernel)
theorem tb_1048 : (Jvm.Cond.methodLink "LieClock$State" (69 : Nat) ({ cls := "LieClock$State", name := "copyMoment", desc := "(LLieClock$State;)V" } : Jvm.MethodName)) ∈ TB := TB_of 1048 (by decide +kernel) (by decide +kernel)
theorem tb_1049 : (Jvm.Cond.instanceMethod ({ cls := "LieClock$State", name := "copyMoment", desc := "(LLieClock$State;)V" } : Jvm.MethodName)) ∈ TB := TB_of 1049 (by decide +kernel) (by decide +kernel)
theorem tb_1050 : (Jvm.Cond.selects "LieClock$State" ({ cls := "LieClock$State", name := "copyMoment", desc := "(LLieClock$State;)V" } : Jvm.MethodName) ({ cls := "LieClock$State", name := "copyMoment", desc := "(LLieClock$State;)V" } : Jvm.MethodName)) ∈ TB := TB_of 1050 (by decide +kernel) (by decide +kernel)
theorem tb_1052 : (Jvm.Cond.methodLink "LieClock$State" (73 : Nat) ({ cls := "java/lang/System", name := "arraycopy", desc := "(Ljava/lang/Object;ILjava/lang/Object;II)V" } : Jvm.MethodName)) ∈ TB := TB_of 1052 (by decide +kernel) (by decide +kernel)
theorem tb_1053 : (Jvm.Cond.static ({ cls := "java/lang/System", name := "arraycopy", desc := "(Ljava/lang/Object;ILjava/lang/Object;II)V" } : Jvm.MethodName)) ∈ TB := TB_of 1053 (by decide +kernel) (by decide +kernel)
theorem tb_1054 : (Jvm.Cond.native ({ cls := "java/lang/System", name := "arraycopy", desc := "(Ljava/lang/Object;ILjava/lang/Object;II)V" } : Jvm.MethodName)) ∈ TB := TB_of 1054 (by decide +kernel) (by decide +kernel)
theorem tb_1055 : (Jvm.Cond.methodLink "LieClock" (318 : Nat) ({ cls := "java/lang/Math", name := "min", desc := "(II)I" } : Jvm.MethodName)) ∈ TB := TB_of 1055 (by decide +kernel) (by decide +kernel)
theorem tb_1061 : (Jvm.Cond.instanceMethod ({ cls := "LieClock$State", name := "goForward", desc := "(LLieClock$Told;I)V" } : Jvm.MethodName)) ∈ TB := TB_of 1061 (by decide +kernel) (by decide +kernel)
theorem tb_1062 : (Jvm.Cond.selects "LieClock$State" ({ cls := "LieClock$State", name := "goForward", desc := "(LLieClock$Told;I)V" } : Jvm.MethodName) ({ cls := "LieClock$State", name := "goForward", desc := "(LLieClock$Told;I)V" } : Jvm.MethodName)) ∈ TB := TB_of 1062 (by decide +kernel) (by decide +kernel)
theorem tb_1064 : (Jvm.Cond.constant "LieClock$State" (112 : Nat) (100000 : Int32)) ∈ TB := TB_of 1064 (by decide +kernel) (by decide +kernel)
theorem tb_1065 : (Jvm.Cond.methodLink "LieClock$State" (113 : Nat) ({ cls := "java/lang/Math", name := "min", desc := "(II)I" } : Jvm.MethodName)) ∈ TB := TB_of 1065 (by decide +kernel) (by decide +kernel)
theorem tb_1099 : (Jvm.Cond.methodLink "LieClockLaw" (61 : Nat) ({ cls := "LieClock", name := "look", desc := "(I)I" } : Jvm.MethodName)) ∈ TB := TB_of 1099 (by decide +kernel) (by decide +kernel)
theorem tb_1100 : (Jvm.Cond.instanceMethod ({ cls := "LieClock", name := "look", desc := "(I)I" } : Jvm.MethodName)) ∈ TB := TB_of 1100 (by decide +kernel) (by decide +kernel)
theorem tb_1101 : (Jvm.Cond.selects "LieClock" ({ cls := "LieClock", name := "look", desc := "(I)I" } : Jvm.MethodName) ({ cls := "LieClock", name := "look", desc := "(I)I" } : Jvm.MethodName)) ∈ TB := TB_of 1101 (by decide +kernel) (by decide +kernel)
theorem tb_1107 : (Jvm.Cond.methodLink "LieClockLaw" (65 : Nat) ({ cls := "LieClock", name := "pause", desc := "(I)I" } : Jvm.MethodName)) ∈ TB := TB_of 1107 (by decide +kernel) (by decide +kernel)
theorem tb_1108 : (Jvm.Cond.instanceMethod ({ cls := "LieClock", name := "pause", desc := "(I)I" } : Jvm.MethodName)) ∈ TB := TB_of 1108 (by decide +kernel) (by decide +kernel)
theorem tb_1109 : (Jvm.Cond.selects "LieClock" ({ cls := "LieClock", name := "pause", desc := "(I)I" } : Jvm.MethodName) ({ cls := "LieClock", name := "pause", desc := "(I)I" } : Jvm.MethodName)) ∈ TB := TB_of 1109 (by decide +kernel) (by decide +kernel)
theorem tb_1111 : (Jvm.Cond.methodLink "LieClock" (221 : Nat) ({ cls := "LieClock$State", name := "goForward", desc := "(LLieClock$Told;I)V" } : Jvm.MethodName)) ∈ TB := TB_of 1111 (by decide +kernel) (by decide +kernel)
theorem tb_1112 : (Jvm.Cond.methodLink "LieClockLaw" (69 : Nat) ({ cls := "LieClock", name := "undo", desc := "()Z" } : Jvm.MethodName)) ∈ TB := TB_of 1112 (by decide +kernel) (by decide +kernel)
theorem tb_1113 : (Jvm.Cond.instanceMethod ({ cls := "LieClock", name := "undo", desc := "()Z" } : Jvm.MethodName)) ∈ TB := TB_of 1113 (by decide +kernel) (by decide +kernel)
theorem tb_1114 : (Jvm.Cond.selects "LieClock" ({ cls := "LieClock", name := "undo", desc := "()Z" } : Jvm.MethodName) ({ cls := "LieClock", name := "undo", desc := "()Z" } : Jvm.MethodName)) ∈ TB := TB_of 1114 (by decide +kernel) (by decide +kernel)
theorem tb_1116 : (Jvm.Cond.methodLink "LieClockLaw" (74 : Nat) ({ cls := "LieClock", name := "would", desc := "(I)I" } : Jvm.MethodName)) ∈ TB := TB_of 1116 (by decide +kernel) (by decide +kernel)
theorem tb_1117 : (Jvm.Cond.instanceMethod ({ cls := "LieClock", name := "would", desc := "(I)I" } : Jvm.MethodName)) ∈ TB := TB_of 1117 (by decide +kernel) (by decide +kernel)
theorem tb_1118 : (Jvm.Cond.selects "LieClock" ({ cls := "LieClock", name := "would", desc := "(I)I" } : Jvm.MethodName) ({ cls := "LieClock", name := "would", desc := "(I)I" } : Jvm.MethodName)) ∈ TB := TB_of 1118 (by decide +kernel) (by decide +kernel)
theorem tb_1121 : (Jvm.Cond.methodLink "LieClockLaw" (78 : Nat) ({ cls := "LieClock", name := "ahead", desc := "(III)I" } : Jvm.MethodName)) ∈ TB := TB_of 1121 (by decide +kernel) (by decide +kernel)
theorem tb_1122 : (Jvm.Cond.instanceMethod ({ cls := "LieClock", name := "ahead", desc := "(III)I" } : Jvm.MethodName)) ∈ TB := TB_of 1122 (by decide +kernel) (by decide +kernel)
theorem tb_1123 : (Jvm.Cond.selects "LieClock" ({ cls := "LieClock", name := "ahead", desc := "(III)I" } : Jvm.MethodName) ({ cls := "LieClock", name := "ahead", desc := "(III)I" } : Jvm.MethodName)) ∈ TB := TB_of 1123 (by decide +kernel) (by decide +kernel)
theorem tb_1125 : (Jvm.Cond.methodLink "LieClock" (235 : Nat) ({ cls := "LieClock", name := "areTwoCases", desc := "(II)Z" } : Jvm.MethodName)) ∈ TB := TB_of 1125 (by decide +kernel) (by decide +kernel)
theorem tb_1127 : (Jvm.Cond.instanceMethod ({ cls := "LieClock", name := "areTwoCases", desc := "(II)Z" } : Jvm.MethodName)) ∈ TB := TB_of 1127 (by decide +kernel) (by decide +kernel)
theorem tb_1134 : (Jvm.Cond.instanceMethod ({ cls := "LieClock$Nodes", name := "clear", desc := "()V" } : Jvm.MethodName)) ∈ TB := TB_of 1134 (by decide +kernel) (by decide +kernel)
theorem tb_1135 : (Jvm.Cond.selects "LieClock$Nodes" ({ cls := "LieClock$Nodes", name := "clear", desc := "()V" } : Jvm.MethodName) ({ cls := "LieClock$Nodes", name := "clear", desc := "()V" } : Jvm.MethodName)) ∈ TB := TB_of 1135 (by decide +kernel) (by decide +kernel)
theorem tb_1137 : (Jvm.Cond.methodLink "LieClock$Nodes" (35 : Nat) ({ cls := "java/util/Arrays", name := "fill", desc := "([II)V" } : Jvm.MethodName)) ∈ TB := TB_of 1137 (by decide +kernel) (by decide +kernel)
theorem tb_1140 : (Jvm.Cond.instanceMethod ({ cls := "LieClock$Nodes", name := "add", desc := "(LLieClock$State;IJI)V" } : Jvm.MethodName)) ∈ TB := TB_of 1140 (by decide +kernel) (by decide +kernel)
theorem tb_1141 : (Jvm.Cond.selects "LieClock$Nodes" ({ cls := "LieClock$Nodes", name := "add", desc := "(LLieClock$State;IJI)V" } : Jvm.MethodName) ({ cls := "LieClock$Nodes", name := "add", desc := "(LLieClock$State;IJI)V" } : Jvm.MethodName)) ∈ TB := TB_of 1141 (by decide +kernel) (by decide +kernel)
theorem tb_1143 : (Jvm.Cond.methodLink "LieClock$Nodes" (56 : Nat) ({ cls := "LieClock$Nodes", name := "slotOf", desc := "(LLieClock$State;I)I" } : Jvm.MethodName)) ∈ TB := TB_of 1143 (by decide +kernel) (by decide +kernel)
theorem tb_1145 : (Jvm.Cond.instanceMethod ({ cls := "LieClock$Nodes", name := "slotOf", desc := "(LLieClock$State;I)I" } : Jvm.MethodName)) ∈ TB := TB_of 1145 (by decide +kernel) (by decide +kernel)
theorem tb_1147 : (Jvm.Cond.methodLink "LieClock$Nodes" (63 : Nat) ({ cls := "LieClock$Nodes", name := "packed", desc := "(LLieClock$State;)I" } : Jvm.MethodName)) ∈ TB := TB_of 1147 (by decide +kernel) (by decide +kernel)
theorem tb_1148 : (Jvm.Cond.static ({ cls := "LieClock$Nodes", name := "packed", desc := "(LLieClock$State;)I" } : Jvm.MethodName)) ∈ TB := TB_of 1148 (by decide +kernel) (by decide +kernel)
theorem tb_1150 : (Jvm.Cond.methodLink "LieClock$Nodes" (70 : Nat) ({ cls := "LieClock$Nodes", name := "hash", desc := "(III)I" } : Jvm.MethodName)) ∈ TB := TB_of 1150 (by decide +kernel) (by decide +kernel)
theorem tb_1151 : (Jvm.Cond.static ({ cls := "LieClock$Nodes", name := "hash", desc := "(III)I" } : Jvm.MethodName)) ∈ TB := TB_of 1151 (by decide +kernel) (by decide +kernel)
theorem tb_1153 : (Jvm.Cond.constant "LieClock$Nodes" (67 : Nat) (-1640531535 : Int32)) ∈ TB := TB_of 1153 (by decide +kernel) (by decide +kernel)
theorem tb_1154 : (Jvm.Cond.constant "LieClock$Nodes" (68 : Nat) (-2048144789 : Int32)) ∈ TB := TB_of 1154 (by decide +kernel) (by decide +kernel)
theorem tb_1155 : (Jvm.Cond.constant "LieClock$Nodes" (69 : Nat) (-1028477387 : Int32)) ∈ TB := TB_of 1155 (by decide +kernel) (by decide +kernel)
theorem tb_1203 : (Jvm.Cond.methodLink "LieClockLaw" (83 : Nat) ({ cls := "LieClock", name := "aheadAt", desc := "(III)I" } : Jvm.MethodName)) ∈ TB := TB_of 1203 (by decide +kernel) (by decide +kernel)
theorem tb_1204 : (Jvm.Cond.instanceMethod ({ cls := "LieClock", name := "aheadAt", desc := "(III)I" } : Jvm.MethodName)) ∈ TB := TB_of 1204 (by decide +kernel) (by decide +kernel)
theorem tb_1205 : (Jvm.Cond.selects "LieClock" ({ cls := "LieClock", name := "aheadAt", desc := "(III)I" } : Jvm.MethodName) ({ cls := "LieClock", name := "aheadAt", desc := "(III)I" } : Jvm.MethodName)) ∈ TB := TB_of 1205 (by decide +kernel) (by decide +kernel)
theorem tb_1207 : (Jvm.Cond.methodLink "LieClockLaw" (87 : Nat) ({ cls := "LieClock", name := "order", desc := "(IZ)I" } : Jvm.MethodName)) ∈ TB := TB_of 1207 (by decide +kernel) (by decide +kernel)
theorem tb_1208 : (Jvm.Cond.instanceMethod ({ cls := "LieClock", name := "order", desc := "(IZ)I" } : Jvm.MethodName)) ∈ TB := TB_of 1208 (by decide +kernel) (by decide +kernel)
theorem tb_1209 : (Jvm.Cond.selects "LieClock" ({ cls := "LieClock", name := "order", desc := "(IZ)I" } : Jvm.MethodName) ({ cls := "LieClock", name := "order", desc := "(IZ)I" } : Jvm.MethodName)) ∈ TB := TB_of 1209 (by decide +kernel) (by decide +kernel)
theorem tb_1211 : (Jvm.Cond.methodLink "LieClock" (250 : Nat) ({ cls := "LieClock", name := "canBeOrdered", desc := "(I)Z" } : Jvm.MethodName)) ∈ TB := TB_of 1211 (by decide +kernel) (by decide +kernel)
theorem tb_1213 : (Jvm.Cond.instanceMethod ({ cls := "LieClock", name := "canBeOrdered", desc := "(I)Z" } : Jvm.MethodName)) ∈ TB := TB_of 1213 (by decide +kernel) (by decide +kernel)
theorem tb_1215 : (Jvm.Cond.methodLink "LieClock" (278 : Nat) ({ cls := "LieClock$Told", name := "hasSet", desc := "(I)Z" } : Jvm.MethodName)) ∈ TB := TB_of 1215 (by decide +kernel) (by decide +kernel)
theorem tb_1216 : (Jvm.Cond.instanceMethod ({ cls := "LieClock$Told", name := "hasSet", desc := "(I)Z" } : Jvm.MethodName)) ∈ TB := TB_of 1216 (by decide +kernel) (by decide +kernel)
theorem tb_1217 : (Jvm.Cond.selects "LieClock$Told" ({ cls := "LieClock$Told", name := "hasSet", desc := "(I)Z" } : Jvm.MethodName) ({ cls := "LieClock$Told", name := "hasSet", desc := "(I)Z" } : Jvm.MethodName)) ∈ TB := TB_of 1217 (by decide +kernel) (by decide +kernel)
theorem tb_1219 : (Jvm.Cond.methodLink "LieClock" (253 : Nat) ({ cls := "LieClock$Orders", name := "find", desc := "(LLieClock$Told;LLieClock$State;IZ)V" } : Jvm.MethodName)) ∈ TB := TB_of 1219 (by decide +kernel) (by decide +kernel)
theorem tb_1220 : (Jvm.Cond.instanceMethod ({ cls := "LieClock$Orders", name := "find", desc := "(LLieClock$Told;LLieClock$State;IZ)V" } : Jvm.MethodName)) ∈ TB := TB_of 1220 (by decide +kernel) (by decide +kernel)
theorem tb_1221 : (Jvm.Cond.selects "LieClock$Orders" ({ cls := "LieClock$Orders", name := "find", desc := "(LLieClock$Told;LLieClock$State;IZ)V" } : Jvm.MethodName) ({ cls := "LieClock$Orders", name := "find", desc := "(LLieClock$Told;LLieClock$State;IZ)V" } : Jvm.MethodName)) ∈ TB := TB_of 1221 (by decide +kernel) (by decide +kernel)
theorem tb_1223 : (Jvm.Cond.methodLink "LieClock$Orders" (41 : Nat) ({ cls := "LieClock$State", name := "copyMoment", desc := "(LLieClock$State;)V" } : Jvm.MethodName)) ∈ TB := TB_of 1223 (by decide +kernel) (by decide +kernel)
theorem tb_1224 : (Jvm.Cond.methodLink "LieClock$Orders" (45 : Nat) ({ cls := "LieClock$Orders", name := "extend", desc := "(LLieClock$Told;II)V" } : Jvm.MethodName)) ∈ TB := TB_of 1224 (by decide +kernel) (by decide +kernel)
theorem tb_1226 : (Jvm.Cond.instanceMethod ({ cls := "LieClock$Orders", name := "extend", desc := "(LLieClock$Told;II)V" } : Jvm.MethodName)) ∈ TB := TB_of 1226 (by decide +kernel) (by decide +kernel)
theorem tb_1228 : (Jvm.Cond.methodLink "LieClock$Orders" (49 : Nat) ({ cls := "java/lang/Math", name := "min", desc := "(II)I" } : Jvm.MethodName)) ∈ TB := TB_of 1228 (by decide +kernel) (by decide +kernel)
theorem tb_1229 : (Jvm.Cond.methodLink "LieClock$Orders" (55 : Nat) ({ cls := "java/lang/Math", name := "max", desc := "(II)I" } : Jvm.MethodName)) ∈ TB := TB_of 1229 (by decide +kernel) (by decide +kernel)
theorem tb_1230 : (Jvm.Cond.methodLink "LieClock$Orders" (61 : Nat) ({ cls := "LieClock$Orders", name := "judge", desc := "(I)V" } : Jvm.MethodName)) ∈ TB := TB_of 1230 (by decide +kernel) (by decide +kernel)
theorem tb_1232 : (Jvm.Cond.instanceMethod ({ cls := "LieClock$Orders", name := "judge", desc := "(I)V" } : Jvm.MethodName)) ∈ TB := TB_of 1232 (by decide +kernel) (by decide +kernel)
theorem tb_1234 : (Jvm.Cond.methodLink "LieClock$Orders" (77 : Nat) ({ cls := "java/lang/System", name := "arraycopy", desc := "(Ljava/lang/Object;ILjava/lang/Object;II)V" } : Jvm.MethodName)) ∈ TB := TB_of 1234 (by decide +kernel) (by decide +kernel)
theorem tb_1236 : (Jvm.Cond.methodLink "LieClockLaw" (92 : Nat) ({ cls := "LieClock", name := "orderAt", desc := "(IZI)I" } : Jvm.MethodName)) ∈ TB := TB_of 1236 (by decide +kernel) (by decide +kernel)
theorem tb_1237 : (Jvm.Cond.instanceMethod ({ cls := "LieClock", name := "orderAt", desc := "(IZI)I" } : Jvm.MethodName)) ∈ TB := TB_of 1237 (by decide +kernel) (by decide +kernel)
theorem tb_1238 : (Jvm.Cond.selects "LieClock" ({ cls := "LieClock", name := "orderAt", desc := "(IZI)I" } : Jvm.MethodName) ({ cls := "LieClock", name := "orderAt", desc := "(IZI)I" } : Jvm.MethodName)) ∈ TB := TB_of 1238 (by decide +kernel) (by decide +kernel)
theorem tb_1240 : (Jvm.Cond.methodLink "LieClockLaw" (97 : Nat) ({ cls := "LieClock", name := "never", desc := "(II)I" } : Jvm.MethodName)) ∈ TB := TB_of 1240 (by decide +kernel) (by decide +kernel)
theorem tb_1241 : (Jvm.Cond.instanceMethod ({ cls := "LieClock", name := "never", desc := "(II)I" } : Jvm.MethodName)) ∈ TB := TB_of 1241 (by decide +kernel) (by decide +kernel)
theorem tb_1242 : (Jvm.Cond.selects "LieClock" ({ cls := "LieClock", name := "never", desc := "(II)I" } : Jvm.MethodName) ({ cls := "LieClock", name := "never", desc := "(II)I" } : Jvm.MethodName)) ∈ TB := TB_of 1242 (by decide +kernel) (by decide +kernel)
theorem tb_1244 : (Jvm.Cond.methodLink "LieClock" (262 : Nat) ({ cls := "LieClock$Orders", name := "canAvoid", desc := "(LLieClock$Told;LLieClock$State;II)Z" } : Jvm.MethodName)) ∈ TB := TB_of 1244 (by decide +kernel) (by decide +kernel)
theorem tb_1245 : (Jvm.Cond.instanceMethod ({ cls := "LieClock$Orders", name := "canAvoid", desc := "(LLieClock$Told;LLieClock$State;II)Z" } : Jvm.MethodName)) ∈ TB := TB_of 1245 (by decide +kernel) (by decide +kernel)
theorem tb_1246 : (Jvm.Cond.selects "LieClock$Orders" ({ cls := "LieClock$Orders", name := "canAvoid", desc := "(LLieClock$Told;LLieClock$State;II)Z" } : Jvm.MethodName) ({ cls := "LieClock$Orders", name := "canAvoid", desc := "(LLieClock$Told;LLieClock$State;II)Z" } : Jvm.MethodName)) ∈ TB := TB_of 1246 (by decide +kernel) (by decide +kernel)
theorem tb_1248 : (Jvm.Cond.methodLink "LieClock$Orders" (83 : Nat) ({ cls := "LieClock$Orders", name := "avoids", desc := "(LLieClock$Told;III)Z" } : Jvm.MethodName)) ∈ TB := TB_of 1248 (by decide +kernel) (by decide +kernel)
theorem tb_1250 : (Jvm.Cond.instanceMethod ({ cls := "LieClock$Orders", name := "avoids", desc := "(LLieClock$Told;III)Z" } : Jvm.MethodName)) ∈ TB := TB_of 1250 (by decide +kernel) (by decide +kernel)
theorem tb_1252 : (Jvm.Cond.methodLink "LieClockLaw" (101 : Nat) ({ cls := "LieClock", name := "smallest", desc := "()I" } : Jvm.MethodName)) ∈ TB := TB_of 1252 (by decide +kernel) (by decide +kernel)
theorem tb_1253 : (Jvm.Cond.instanceMethod ({ cls := "LieClock", name := "smallest", desc := "()I" } : Jvm.MethodName)) ∈ TB := TB_of 1253 (by decide +kernel) (by decide +kernel)
theorem tb_1254 : (Jvm.Cond.selects "LieClock" ({ cls := "LieClock", name := "smallest", desc := "()I" } : Jvm.MethodName) ({ cls := "LieClock", name := "smallest", desc := "()I" } : Jvm.MethodName)) ∈ TB := TB_of 1254 (by decide +kernel) (by decide +kernel)
theorem tb_1256 : (Jvm.Cond.methodLink "LieClock" (269 : Nat) ({ cls := "LieClock$Sets", name := "takeWords", desc := "(LLieClock$Told;I)V" } : Jvm.MethodName)) ∈ TB := TB_of 1256 (by decide +kernel) (by decide +kernel)
theorem tb_1257 : (Jvm.Cond.instanceMethod ({ cls := "LieClock$Sets", name := "takeWords", desc := "(LLieClock$Told;I)V" } : Jvm.MethodName)) ∈ TB := TB_of 1257 (by decide +kernel) (by decide +kernel)
theorem tb_1258 : (Jvm.Cond.selects "LieClock$Sets" ({ cls := "LieClock$Sets", name := "takeWords", desc := "(LLieClock$Told;I)V" } : Jvm.MethodName) ({ cls := "LieClock$Sets", name := "takeWords", desc := "(LLieClock$Told;I)V" } : Jvm.MethodName)) ∈ TB := TB_of 1258 (by decide +kernel) (by decide +kernel)
theorem tb_1264 : (Jvm.Cond.constantLong "LieClock" (272 : Nat) (-1 : Int64)) ∈ TB := TB_of 1264 (by decide +kernel) (by decide +kernel)
theorem tb_1265 : (Jvm.Cond.methodLink "LieClock" (274 : Nat) ({ cls := "LieClock$Sets", name := "fewest", desc := "(JJJ)I" } : Jvm.MethodName)) ∈ TB := TB_of 1265 (by decide +kernel) (by decide +kernel)
theorem tb_1266 : (Jvm.Cond.instanceMethod ({ cls := "LieClock$Sets", name := "fewest", desc := "(JJJ)I" } : Jvm.MethodName)) ∈ TB := TB_of 1266 (by decide +kernel) (by decide +kernel)
theorem tb_1267 : (Jvm.Cond.selects "LieClock$Sets" ({ cls := "LieClock$Sets", name := "fewest", desc := "(JJJ)I" } : Jvm.MethodName) ({ cls := "LieClock$Sets", name := "fewest", desc := "(JJJ)I" } : Jvm.MethodName)) ∈ TB := TB_of 1267 (by decide +kernel) (by decide +kernel)
theorem tb_1269 : (Jvm.Cond.methodLink "LieClock$Sets" (52 : Nat) ({ cls := "LieClock$Sets", name := "isEnough", desc := "(J)Z" } : Jvm.MethodName)) ∈ TB := TB_of 1269 (by decide +kernel) (by decide +kernel)
theorem tb_1271 : (Jvm.Cond.instanceMethod ({ cls := "LieClock$Sets", name := "isEnough", desc := "(J)Z" } : Jvm.MethodName)) ∈ TB := TB_of 1271 (by decide +kernel) (by decide +kernel)
theorem tb_1273 : (Jvm.Cond.constantLong "LieClock$Sets" (56 : Nat) (-1 : Int64)) ∈ TB := TB_of 1273 (by decide +kernel) (by decide +kernel)
theorem tb_1278 : (Jvm.Cond.methodLink "LieClockLaw" (105 : Nat) ({ cls := "LieClock", name := "states", desc := "(I)I" } : Jvm.MethodName)) ∈ TB := TB_of 1278 (by decide +kernel) (by decide +kernel)
theorem tb_1279 : (Jvm.Cond.instanceMethod ({ cls := "LieClock", name := "states", desc := "(I)I" } : Jvm.MethodName)) ∈ TB := TB_of 1279 (by decide +kernel) (by decide +kernel)
theorem tb_1280 : (Jvm.Cond.selects "LieClock" ({ cls := "LieClock", name := "states", desc := "(I)I" } : Jvm.MethodName) ({ cls := "LieClock", name := "states", desc := "(I)I" } : Jvm.MethodName)) ∈ TB := TB_of 1280 (by decide +kernel) (by decide +kernel)
theorem tb_1282 : (Jvm.Cond.methodLink "LieClockLaw" (109 : Nat) ({ cls := "LieClock", name := "looks", desc := "(I)I" } : Jvm.MethodName)) ∈ TB := TB_of 1282 (by decide +kernel) (by decide +kernel)
theorem tb_1283 : (Jvm.Cond.instanceMethod ({ cls := "LieClock", name := "looks", desc := "(I)I" } : Jvm.MethodName)) ∈ TB := TB_of 1283 (by decide +kernel) (by decide +kernel)
theorem tb_1284 : (Jvm.Cond.selects "LieClock" ({ cls := "LieClock", name := "looks", desc := "(I)I" } : Jvm.MethodName) ({ cls := "LieClock", name := "looks", desc := "(I)I" } : Jvm.MethodName)) ∈ TB := TB_of 1284 (by decide +kernel) (by decide +kernel)
theorem tb_1291 : (Jvm.Cond.methodLink "LieClockLaw" (113 : Nat) ({ cls := "LieClock", name := "settled", desc := "(I)I" } : Jvm.MethodName)) ∈ TB := TB_of 1291 (by decide +kernel) (by decide +kernel)
theorem tb_1292 : (Jvm.Cond.instanceMethod ({ cls := "LieClock", name := "settled", desc := "(I)I" } : Jvm.MethodName)) ∈ TB := TB_of 1292 (by decide +kernel) (by decide +kernel)
theorem tb_1293 : (Jvm.Cond.selects "LieClock" ({ cls := "LieClock", name := "settled", desc := "(I)I" } : Jvm.MethodName) ({ cls := "LieClock", name := "settled", desc := "(I)I" } : Jvm.MethodName)) ∈ TB := TB_of 1293 (by decide +kernel) (by decide +kernel)
theorem tb_1295 : (Jvm.Cond.methodLink "LieClockLaw" (117 : Nat) ({ cls := "LieClock", name := "write", desc := "(I)I" } : Jvm.MethodName)) ∈ TB := TB_of 1295 (by decide +kernel) (by decide +kernel)
theorem tb_1296 : (Jvm.Cond.instanceMethod ({ cls := "LieClock", name := "write", desc := "(I)I" } : Jvm.MethodName)) ∈ TB := TB_of 1296 (by decide +kernel) (by decide +kernel)
theorem tb_1297 : (Jvm.Cond.selects "LieClock" ({ cls := "LieClock", name := "write", desc := "(I)I" } : Jvm.MethodName) ({ cls := "LieClock", name := "write", desc := "(I)I" } : Jvm.MethodName)) ∈ TB := TB_of 1297 (by decide +kernel) (by decide +kernel)
theorem tb_1299 : (Jvm.Cond.constant "LieClock" (287 : Nat) (-100000 : Int32)) ∈ TB := TB_of 1299 (by decide +kernel) (by decide +kernel)
theorem tb_1300 : (Jvm.Cond.constant "LieClock" (288 : Nat) (100000 : Int32)) ∈ TB := TB_of 1300 (by decide +kernel) (by decide +kernel)
theorem tb_1301 : (Jvm.Cond.methodLink "LieClock" (289 : Nat) ({ cls := "LieClock$Book", name := "add", desc := "(I)I" } : Jvm.MethodName)) ∈ TB := TB_of 1301 (by decide +kernel) (by decide +kernel)
theorem tb_1302 : (Jvm.Cond.instanceMethod ({ cls := "LieClock$Book", name := "add", desc := "(I)I" } : Jvm.MethodName)) ∈ TB := TB_of 1302 (by decide +kernel) (by decide +kernel)
theorem tb_1303 : (Jvm.Cond.selects "LieClock$Book" ({ cls := "LieClock$Book", name := "add", desc := "(I)I" } : Jvm.MethodName) ({ cls := "LieClock$Book", name := "add", desc := "(I)I" } : Jvm.MethodName)) ∈ TB := TB_of 1303 (by decide +kernel) (by decide +kernel)
theorem tb_1305 : (Jvm.Cond.methodLink "LieClockLaw" (121 : Nat) ({ cls := "LieClock", name := "burn", desc := "()I" } : Jvm.MethodName)) ∈ TB := TB_of 1305 (by decide +kernel) (by decide +kernel)
theorem tb_1306 : (Jvm.Cond.instanceMethod ({ cls := "LieClock", name := "burn", desc := "()I" } : Jvm.MethodName)) ∈ TB := TB_of 1306 (by decide +kernel) (by decide +kernel)
theorem tb_1307 : (Jvm.Cond.selects "LieClock" ({ cls := "LieClock", name := "burn", desc := "()I" } : Jvm.MethodName) ({ cls := "LieClock", name := "burn", desc := "()I" } : Jvm.MethodName)) ∈ TB := TB_of 1307 (by decide +kernel) (by decide +kernel)
theorem tb_1309 : (Jvm.Cond.methodLink "LieClockLaw" (125 : Nat) ({ cls := "LieClock", name := "fits", desc := "(I)J" } : Jvm.MethodName)) ∈ TB := TB_of 1309 (by decide +kernel) (by decide +kernel)
theorem tb_1310 : (Jvm.Cond.instanceMethod ({ cls := "LieClock", name := "fits", desc := "(I)J" } : Jvm.MethodName)) ∈ TB := TB_of 1310 (by decide +kernel) (by decide +kernel)
theorem tb_1311 : (Jvm.Cond.selects "LieClock" ({ cls := "LieClock", name := "fits", desc := "(I)J" } : Jvm.MethodName) ({ cls := "LieClock", name := "fits", desc := "(I)J" } : Jvm.MethodName)) ∈ TB := TB_of 1311 (by decide +kernel) (by decide +kernel)
theorem tb_1313 : (Jvm.Cond.methodLink "LieClock" (295 : Nat) ({ cls := "LieClock$Book", name := "find", desc := "(LLieClock$Told;I)V" } : Jvm.MethodName)) ∈ TB := TB_of 1313 (by decide +kernel) (by decide +kernel)
theorem tb_1314 : (Jvm.Cond.instanceMethod ({ cls := "LieClock$Book", name := "find", desc := "(LLieClock$Told;I)V" } : Jvm.MethodName)) ∈ TB := TB_of 1314 (by decide +kernel) (by decide +kernel)
theorem tb_1315 : (Jvm.Cond.selects "LieClock$Book" ({ cls := "LieClock$Book", name := "find", desc := "(LLieClock$Told;I)V" } : Jvm.MethodName) ({ cls := "LieClock$Book", name := "find", desc := "(LLieClock$Told;I)V" } : Jvm.MethodName)) ∈ TB := TB_of 1315 (by decide +kernel) (by decide +kernel)
theorem tb_1317 : (Jvm.Cond.methodLink "LieClock$Book" (54 : Nat) ({ cls := "LieClock$Nodes", name := "clear", desc := "()V" } : Jvm.MethodName)) ∈ TB := TB_of 1317 (by decide +kernel) (by decide +kernel)
theorem tb_1318 : (Jvm.Cond.methodLink "LieClock$Book" (59 : Nat) ({ cls := "LieClock$State", name := "begin", desc := "(LLieClock$Told;)V" } : Jvm.MethodName)) ∈ TB := TB_of 1318 (by decide +kernel) (by decide +kernel)
theorem tb_1319 : (Jvm.Cond.methodLink "LieClock$Book" (63 : Nat) ({ cls := "LieClock$Nodes", name := "add", desc := "(LLieClock$State;IJI)V" } : Jvm.MethodName)) ∈ TB := TB_of 1319 (by decide +kernel) (by decide +kernel)
theorem tb_1332 : (Jvm.Cond.methodLink "LieClockLaw" (130 : Nat) ({ cls := "LieClock", name := "surely", desc := "(I)I" } : Jvm.MethodName)) ∈ TB := TB_of 1332 (by decide +kernel) (by decide +kernel)
theorem tb_1333 : (Jvm.Cond.instanceMethod ({ cls := "LieClock", name := "surely", desc := "(I)I" } : Jvm.MethodName)) ∈ TB := TB_of 1333 (by decide +kernel) (by decide +kernel)
theorem tb_1334 : (Jvm.Cond.selects "LieClock" ({ cls := "LieClock", name := "surely", desc := "(I)I" } : Jvm.MethodName) ({ cls := "LieClock", name := "surely", desc := "(I)I" } : Jvm.MethodName)) ∈ TB := TB_of 1334 (by decide +kernel) (by decide +kernel)
theorem tb_1336 : (Jvm.Cond.methodLink "LieClockLaw" (134 : Nat) ({ cls := "LieClock", name := "liars", desc := "(I)I" } : Jvm.MethodName)) ∈ TB := TB_of 1336 (by decide +kernel) (by decide +kernel)
theorem tb_1337 : (Jvm.Cond.instanceMethod ({ cls := "LieClock", name := "liars", desc := "(I)I" } : Jvm.MethodName)) ∈ TB := TB_of 1337 (by decide +kernel) (by decide +kernel)
theorem tb_1338 : (Jvm.Cond.selects "LieClock" ({ cls := "LieClock", name := "liars", desc := "(I)I" } : Jvm.MethodName) ({ cls := "LieClock", name := "liars", desc := "(I)I" } : Jvm.MethodName)) ∈ TB := TB_of 1338 (by decide +kernel) (by decide +kernel)
theorem tb_1340 : (Jvm.Cond.methodLink "LieClockLaw" (138 : Nat) ({ cls := "LieClock", name := "hold", desc := "(I)Z" } : Jvm.MethodName)) ∈ TB := TB_of 1340 (by decide +kernel) (by decide +kernel)
theorem tb_1341 : (Jvm.Cond.instanceMethod ({ cls := "LieClock", name := "hold", desc := "(I)Z" } : Jvm.MethodName)) ∈ TB := TB_of 1341 (by decide +kernel) (by decide +kernel)
theorem tb_1342 : (Jvm.Cond.selects "LieClock" ({ cls := "LieClock", name := "hold", desc := "(I)Z" } : Jvm.MethodName) ({ cls := "LieClock", name := "hold", desc := "(I)Z" } : Jvm.MethodName)) ∈ TB := TB_of 1342 (by decide +kernel) (by decide +kernel)
theorem tb_1344 : (Jvm.Cond.methodLink "LieClock" (306 : Nat) ({ cls := "LieClock$Tape", name := "copyFrom", desc := "(LLieClock$Tape;)V" } : Jvm.MethodName)) ∈ TB := TB_of 1344 (by decide +kernel) (by decide +kernel)
theorem tb_1345 : (Jvm.Cond.instanceMethod ({ cls := "LieClock$Tape", name := "copyFrom", desc := "(LLieClock$Tape;)V" } : Jvm.MethodName)) ∈ TB := TB_of 1345 (by decide +kernel) (by decide +kernel)
theorem tb_1346 : (Jvm.Cond.selects "LieClock$Tape" ({ cls := "LieClock$Tape", name := "copyFrom", desc := "(LLieClock$Tape;)V" } : Jvm.MethodName) ({ cls := "LieClock$Tape", name := "copyFrom", desc := "(LLieClock$Tape;)V" } : Jvm.MethodName)) ∈ TB := TB_of 1346 (by decide +kernel) (by decide +kernel)
theorem tb_1348 : (Jvm.Cond.methodLink "LieClock$Tape" (19 : Nat) ({ cls := "java/lang/System", name := "arraycopy", desc := "(Ljava/lang/Object;ILjava/lang/Object;II)V" } : Jvm.MethodName)) ∈ TB := TB_of 1348 (by decide +kernel) (by decide +kernel)
theorem tb_1349 : (Jvm.Cond.methodLink "LieClockLaw" (143 : Nat) ({ cls := "LieClock", name := "restore", desc := "(I)Z" } : Jvm.MethodName)) ∈ TB := TB_of 1349 (by decide +kernel) (by decide +kernel)
theorem tb_1350 : (Jvm.Cond.instanceMethod ({ cls := "LieClock", name := "restore", desc := "(I)Z" } : Jvm.MethodName)) ∈ TB := TB_of 1350 (by decide +kernel) (by decide +kernel)
theorem tb_1351 : (Jvm.Cond.selects "LieClock" ({ cls := "LieClock", name := "restore", desc := "(I)Z" } : Jvm.MethodName) ({ cls := "LieClock", name := "restore", desc := "(I)Z" } : Jvm.MethodName)) ∈ TB := TB_of 1351 (by decide +kernel) (by decide +kernel)
theorem tb_1353 : (Jvm.Cond.methodLink "LieClockLaw" (147 : Nat) ({ cls := "LieClock", name := "count", desc := "(I)I" } : Jvm.MethodName)) ∈ TB := TB_of 1353 (by decide +kernel) (by decide +kernel)
theorem tb_1354 : (Jvm.Cond.instanceMethod ({ cls := "LieClock", name := "count", desc := "(I)I" } : Jvm.MethodName)) ∈ TB := TB_of 1354 (by decide +kernel) (by decide +kernel)
theorem tb_1355 : (Jvm.Cond.selects "LieClock" ({ cls := "LieClock", name := "count", desc := "(I)I" } : Jvm.MethodName) ({ cls := "LieClock", name := "count", desc := "(I)I" } : Jvm.MethodName)) ∈ TB := TB_of 1355 (by decide +kernel) (by decide +kernel)
theorem tb_1357 : (Jvm.Cond.methodLink "LieClock" (315 : Nat) ({ cls := "LieClock", name := "heldSlots", desc := "()I" } : Jvm.MethodName)) ∈ TB := TB_of 1357 (by decide +kernel) (by decide +kernel)
theorem tb_1359 : (Jvm.Cond.instanceMethod ({ cls := "LieClock", name := "heldSlots", desc := "()I" } : Jvm.MethodName)) ∈ TB := TB_of 1359 (by decide +kernel) (by decide +kernel)
theorem tb_1361 : (Jvm.Cond.classLink "LieClockLaw" (10 : Nat) "LieClockModel") ∈ TB := TB_of 1361 (by decide +kernel) (by decide +kernel)
theorem tb_1362 : (Jvm.Cond.instantiable "LieClockModel" (69 : Nat)) ∈ TB := TB_of 1362 (by decide +kernel) (by decide +kernel)
theorem tb_1363 : (Jvm.Cond.methodLink "LieClockLaw" (12 : Nat) ({ cls := "LieClockModel", name := "<init>", desc := "()V" } : Jvm.MethodName)) ∈ TB := TB_of 1363 (by decide +kernel) (by decide +kernel)
theorem tb_1364 : (Jvm.Cond.instanceMethod ({ cls := "LieClockModel", name := "<init>", desc := "()V" } : Jvm.MethodName)) ∈ TB := TB_of 1364 (by decide +kernel) (by decide +kernel)
theorem tb_1366 : (Jvm.Cond.methodLink "LieClockModel" (7 : Nat) ({ cls := "java/lang/Object", name := "<init>", desc := "()V" } : Jvm.MethodName)) ∈ TB := TB_of 1366 (by decide +kernel) (by decide +kernel)
theorem tb_1367 : (Jvm.Cond.constant "LieClockModel" (134 : Nat) (65536 : Int32)) ∈ TB := TB_of 1367 (by decide +kernel) (by decide +kernel)
theorem tb_1368 : (Jvm.Cond.methodLink "LieClockModel" (150 : Nat) ({ cls := "LieClockModel", name := "word", desc := "(IIIIIII)J" } : Jvm.MethodName)) ∈ TB := TB_of 1368 (by decide +kernel) (by decide +kernel)
theorem tb_1369 : (Jvm.Cond.static ({ cls := "LieClockModel", name := "word", desc := "(IIIIIII)J" } : Jvm.MethodName)) ∈ TB := TB_of 1369 (by decide +kernel) (by decide +kernel)
theorem tb_1371 : (Jvm.Cond.methodLink "LieClockModel" (166 : Nat) ({ cls := "LieClockModel", name := "appends", desc := "(JI)J" } : Jvm.MethodName)) ∈ TB := TB_of 1371 (by decide +kernel) (by decide +kernel)
theorem tb_1372 : (Jvm.Cond.static ({ cls := "LieClockModel", name := "appends", desc := "(JI)J" } : Jvm.MethodName)) ∈ TB := TB_of 1372 (by decide +kernel) (by decide +kernel)
theorem tb_1374 : (Jvm.Cond.constantLong "LieClockModel" (164 : Nat) (27 : Int64)) ∈ TB := TB_of 1374 (by decide +kernel) (by decide +kernel)
theorem tb_1375 : (Jvm.Cond.fieldLink "LieClockModel" (13 : Nat) "LieClockModel" "tape" "[B") ∈ TB := TB_of 1375 (by decide +kernel) (by decide +kernel)
theorem tb_1376 : (Jvm.Cond.fieldLink "LieClockModel" (154 : Nat) "LieClockModel" "taped" "I") ∈ TB := TB_of 1376 (by decide +kernel) (by decide +kernel)
theorem tb_1377 : (Jvm.Cond.fieldLink "LieClockModel" (17 : Nat) "LieClockModel" "text" "[B") ∈ TB := TB_of 1377 (by decide +kernel) (by decide +kernel)
theorem tb_1378 : (Jvm.Cond.fieldLink "LieClockModel" (161 : Nat) "LieClockModel" "size" "I") ∈ TB := TB_of 1378 (by decide +kernel) (by decide +kernel)
theorem tb_1379 : (Jvm.Cond.fieldLink "LieClockModel" (20 : Nat) "LieClockModel" "tKind" "[I") ∈ TB := TB_of 1379 (by decide +kernel) (by decide +kernel)
theorem tb_1380 : (Jvm.Cond.fieldLink "LieClockModel" (24 : Nat) "LieClockModel" "tPlace" "[I") ∈ TB := TB_of 1380 (by decide +kernel) (by decide +kernel)
theorem tb_1381 : (Jvm.Cond.fieldLink "LieClockModel" (27 : Nat) "LieClockModel" "tValue" "[I") ∈ TB := TB_of 1381 (by decide +kernel) (by decide +kernel)
theorem tb_1382 : (Jvm.Cond.fieldLink "LieClockModel" (30 : Nat) "LieClockModel" "tName" "[J") ∈ TB := TB_of 1382 (by decide +kernel) (by decide +kernel)
theorem tb_1383 : (Jvm.Cond.fieldLink "LieClockModel" (34 : Nat) "LieClockModel" "keys" "[J") ∈ TB := TB_of 1383 (by decide +kernel) (by decide +kernel)
theorem tb_1384 : (Jvm.Cond.fieldLink "LieClockModel" (170 : Nat) "LieClockModel" "tokens" "I") ∈ TB := TB_of 1384 (by decide +kernel) (by decide +kernel)
theorem tb_1385 : (Jvm.Cond.fieldLink "LieClockModel" (195 : Nat) "LieClockModel" "t" "I") ∈ TB := TB_of 1385 (by decide +kernel) (by decide +kernel)
theorem tb_1386 : (Jvm.Cond.fieldLink "LieClockModel" (219 : Nat) "LieClockModel" "open" "I") ∈ TB := TB_of 1386 (by decide +kernel) (by decide +kernel)
theorem tb_1387 : (Jvm.Cond.fieldLink "LieClockModel" (192 : Nat) "LieClockModel" "fault" "I") ∈ TB := TB_of 1387 (by decide +kernel) (by decide +kernel)
theorem tb_1389 : (Jvm.Cond.fieldLink "LieClockModel" (201 : Nat) "LieClockModel" "worst" "I") ∈ TB := TB_of 1389 (by decide +kernel) (by decide +kernel)
theorem tb_1391 : (Jvm.Cond.fieldLink "LieClockModel" (37 : Nat) "LieClockModel" "place" "I") ∈ TB := TB_of 1391 (by decide +kernel) (by decide +kernel)
theorem tb_1392 : (Jvm.Cond.fieldLink "LieClockModel" (222 : Nat) "LieClockModel" "live" "I") ∈ TB := TB_of 1392 (by decide +kernel) (by decide +kernel)
theorem tb_1393 : (Jvm.Cond.fieldLink "LieClockModel" (225 : Nat) "LieClockModel" "side" "I") ∈ TB := TB_of 1393 (by decide +kernel) (by decide +kernel)
theorem tb_1394 : (Jvm.Cond.fieldLink "LieClockModel" (228 : Nat) "LieClockModel" "names" "I") ∈ TB := TB_of 1394 (by decide +kernel) (by decide +kernel)
theorem tb_1395 : (Jvm.Cond.fieldLink "LieClockModel" (40 : Nat) "LieClockModel" "nameOf" "[J") ∈ TB := TB_of 1395 (by decide +kernel) (by decide +kernel)
theorem tb_1396 : (Jvm.Cond.fieldLink "LieClockModel" (43 : Nat) "LieClockModel" "nameSort" "[I") ∈ TB := TB_of 1396 (by decide +kernel) (by decide +kernel)
theorem tb_1397 : (Jvm.Cond.fieldLink "LieClockModel" (46 : Nat) "LieClockModel" "nameAt" "[I") ∈ TB := TB_of 1397 (by decide +kernel) (by decide +kernel)
theorem tb_1398 : (Jvm.Cond.fieldLink "LieClockModel" (49 : Nat) "LieClockModel" "facts" "[I") ∈ TB := TB_of 1398 (by decide +kernel) (by decide +kernel)
theorem tb_1399 : (Jvm.Cond.fieldLink "LieClockModel" (52 : Nat) "LieClockModel" "truth" "[I") ∈ TB := TB_of 1399 (by decide +kernel) (by decide +kernel)
theorem tb_1400 : (Jvm.Cond.fieldLink "LieClockModel" (55 : Nat) "LieClockModel" "openTold" "[I") ∈ TB := TB_of 1400 (by decide +kernel) (by decide +kernel)
theorem tb_1401 : (Jvm.Cond.fieldLink "LieClockModel" (58 : Nat) "LieClockModel" "witnesses" "[I") ∈ TB := TB_of 1401 (by decide +kernel) (by decide +kernel)
theorem tb_1402 : (Jvm.Cond.fieldLink "LieClockModel" (61 : Nat) "LieClockModel" "words" "[I") ∈ TB := TB_of 1402 (by decide +kernel) (by decide +kernel)
theorem tb_1403 : (Jvm.Cond.fieldLink "LieClockModel" (64 : Nat) "LieClockModel" "wordOf" "[I") ∈ TB := TB_of 1403 (by decide +kernel) (by decide +kernel)
theorem tb_1404 : (Jvm.Cond.fieldLink "LieClockModel" (67 : Nat) "LieClockModel" "isSelf" "[Z") ∈ TB := TB_of 1404 (by decide +kernel) (by decide +kernel)
theorem tb_1405 : (Jvm.Cond.fieldLink "LieClockModel" (71 : Nat) "LieClockModel" "wordHolds" "[J") ∈ TB := TB_of 1405 (by decide +kernel) (by decide +kernel)
theorem tb_1406 : (Jvm.Cond.fieldLink "LieClockModel" (74 : Nat) "LieClockModel" "cases" "[I") ∈ TB := TB_of 1406 (by decide +kernel) (by decide +kernel)
theorem tb_1407 : (Jvm.Cond.fieldLink "LieClockModel" (77 : Nat) "LieClockModel" "due" "[I") ∈ TB := TB_of 1407 (by decide +kernel) (by decide +kernel)
theorem tb_1408 : (Jvm.Cond.fieldLink "LieClockModel" (80 : Nat) "LieClockModel" "guilty" "[J") ∈ TB := TB_of 1408 (by decide +kernel) (by decide +kernel)
theorem tb_1409 : (Jvm.Cond.fieldLink "LieClockModel" (83 : Nat) "LieClockModel" "lawFrom" "[I") ∈ TB := TB_of 1409 (by decide +kernel) (by decide +kernel)
theorem tb_1410 : (Jvm.Cond.fieldLink "LieClockModel" (86 : Nat) "LieClockModel" "lawTo" "[I") ∈ TB := TB_of 1410 (by decide +kernel) (by decide +kernel)
theorem tb_1411 : (Jvm.Cond.fieldLink "LieClockModel" (89 : Nat) "LieClockModel" "clockTold" "[I") ∈ TB := TB_of 1411 (by decide +kernel) (by decide +kernel)
theorem tb_1412 : (Jvm.Cond.fieldLink "LieClockModel" (231 : Nat) "LieClockModel" "codes" "I") ∈ TB := TB_of 1412 (by decide +kernel) (by decide +kernel)
theorem tb_1413 : (Jvm.Cond.fieldLink "LieClockModel" (92 : Nat) "LieClockModel" "code" "[I") ∈ TB := TB_of 1413 (by decide +kernel) (by decide +kernel)
theorem tb_1414 : (Jvm.Cond.fieldLink "LieClockModel" (95 : Nat) "LieClockModel" "codeInt" "[I") ∈ TB := TB_of 1414 (by decide +kernel) (by decide +kernel)
theorem tb_1415 : (Jvm.Cond.fieldLink "LieClockModel" (98 : Nat) "LieClockModel" "orBits" "[J") ∈ TB := TB_of 1415 (by decide +kernel) (by decide +kernel)
theorem tb_1416 : (Jvm.Cond.fieldLink "LieClockModel" (101 : Nat) "LieClockModel" "andBits" "[J") ∈ TB := TB_of 1416 (by decide +kernel) (by decide +kernel)
theorem tb_1417 : (Jvm.Cond.fieldLink "LieClockModel" (104 : Nat) "LieClockModel" "isNot" "[Z") ∈ TB := TB_of 1417 (by decide +kernel) (by decide +kernel)
theorem tb_1418 : (Jvm.Cond.fieldLink "LieClockModel" (107 : Nat) "LieClockModel" "waits" "[I") ∈ TB := TB_of 1418 (by decide +kernel) (by decide +kernel)
theorem tb_1420 : (Jvm.Cond.fieldLink "LieClockModel" (110 : Nat) "LieClockModel" "variables" "[I") ∈ TB := TB_of 1420 (by decide +kernel) (by decide +kernel)
theorem tb_1421 : (Jvm.Cond.fieldLink "LieClockModel" (113 : Nat) "LieClockModel" "pile" "[I") ∈ TB := TB_of 1421 (by decide +kernel) (by decide +kernel)
theorem tb_1423 : (Jvm.Cond.fieldLink "LieClockModel" (116 : Nat) "LieClockModel" "now" "[I") ∈ TB := TB_of 1423 (by decide +kernel) (by decide +kernel)
theorem tb_1424 : (Jvm.Cond.fieldLink "LieClockModel" (119 : Nat) "LieClockModel" "row" "[I") ∈ TB := TB_of 1424 (by decide +kernel) (by decide +kernel)
theorem tb_1425 : (Jvm.Cond.fieldLink "LieClockModel" (337 : Nat) "LieClockModel" "isMet" "Z") ∈ TB := TB_of 1425 (by decide +kernel) (by decide +kernel)
theorem tb_1426 : (Jvm.Cond.fieldLink "LieClockModel" (334 : Nat) "LieClockModel" "asked" "I") ∈ TB := TB_of 1426 (by decide +kernel) (by decide +kernel)
theorem tb_1427 : (Jvm.Cond.fieldLink "LieClockModel" (240 : Nat) "LieClockModel" "undos" "I") ∈ TB := TB_of 1427 (by decide +kernel) (by decide +kernel)
theorem tb_1428 : (Jvm.Cond.fieldLink "LieClockModel" (122 : Nat) "LieClockModel" "history" "[I") ∈ TB := TB_of 1428 (by decide +kernel) (by decide +kernel)
theorem tb_1430 : (Jvm.Cond.fieldLink "LieClockModel" (125 : Nat) "LieClockModel" "said" "[I") ∈ TB := TB_of 1430 (by decide +kernel) (by decide +kernel)
theorem tb_1431 : (Jvm.Cond.fieldLink "LieClockModel" (411 : Nat) "LieClockModel" "inOrder" "I") ∈ TB := TB_of 1431 (by decide +kernel) (by decide +kernel)
theorem tb_1432 : (Jvm.Cond.fieldLink "LieClockModel" (128 : Nat) "LieClockModel" "order" "[I") ∈ TB := TB_of 1432 (by decide +kernel) (by decide +kernel)
theorem tb_1433 : (Jvm.Cond.fieldLink "LieClockModel" (131 : Nat) "LieClockModel" "bestOrder" "[I") ∈ TB := TB_of 1433 (by decide +kernel) (by decide +kernel)
theorem tb_1434 : (Jvm.Cond.fieldLink "LieClockModel" (135 : Nat) "LieClockModel" "holdsAll" "[J") ∈ TB := TB_of 1434 (by decide +kernel) (by decide +kernel)
theorem tb_1435 : (Jvm.Cond.fieldLink "LieClockModel" (243 : Nat) "LieClockModel" "readings" "I") ∈ TB := TB_of 1435 (by decide +kernel) (by decide +kernel)
theorem tb_1436 : (Jvm.Cond.fieldLink "LieClockModel" (138 : Nat) "LieClockModel" "reading" "[I") ∈ TB := TB_of 1436 (by decide +kernel) (by decide +kernel)
theorem tb_1437 : (Jvm.Cond.fieldLink "LieClockModel" (432 : Nat) "LieClockModel" "rowsThatFit" "J") ∈ TB := TB_of 1437 (by decide +kernel) (by decide +kernel)
theorem tb_1438 : (Jvm.Cond.fieldLink "LieClockModel" (436 : Nat) "LieClockModel" "wordsInAll" "I") ∈ TB := TB_of 1438 (by decide +kernel) (by decide +kernel)
theorem tb_1439 : (Jvm.Cond.fieldLink "LieClockModel" (439 : Nat) "LieClockModel" "liarsInAll" "I") ∈ TB := TB_of 1439 (by decide +kernel) (by decide +kernel)
theorem tb_1440 : (Jvm.Cond.fieldLink "LieClockModel" (141 : Nat) "LieClockModel" "stood" "[I") ∈ TB := TB_of 1440 (by decide +kernel) (by decide +kernel)
theorem tb_1441 : (Jvm.Cond.fieldLink "LieClockModel" (144 : Nat) "LieClockModel" "isHeld" "[Z") ∈ TB := TB_of 1441 (by decide +kernel) (by decide +kernel)
theorem tb_1442 : (Jvm.Cond.fieldLink "LieClockModel" (147 : Nat) "LieClockModel" "held" "[I") ∈ TB := TB_of 1442 (by decide +kernel) (by decide +kernel)
theorem tb_1582 : (Jvm.Cond.methodLink "LieClockLaw" (17 : Nat) ({ cls := "LieClockModel", name := "feed", desc := "(IIIII)I" } : Jvm.MethodName)) ∈ TB := TB_of 1582 (by decide +kernel) (by decide +kernel)
theorem tb_1583 : (Jvm.Cond.instanceMethod ({ cls := "LieClockModel", name := "feed", desc := "(IIIII)I" } : Jvm.MethodName)) ∈ TB := TB_of 1583 (by decide +kernel) (by decide +kernel)
theorem tb_1584 : (Jvm.Cond.selects "LieClockModel" ({ cls := "LieClockModel", name := "feed", desc := "(IIIII)I" } : Jvm.MethodName) ({ cls := "LieClockModel", name := "feed", desc := "(IIIII)I" } : Jvm.MethodName)) ∈ TB := TB_of 1584 (by decide +kernel) (by decide +kernel)
theorem tb_1586 : (Jvm.Cond.methodLink "LieClockModel" (157 : Nat) ({ cls := "LieClockModel", name := "put", desc := "(I)V" } : Jvm.MethodName)) ∈ TB := TB_of 1586 (by decide +kernel) (by decide +kernel)
theorem tb_1588 : (Jvm.Cond.instanceMethod ({ cls := "LieClockModel", name := "put", desc := "(I)V" } : Jvm.MethodName)) ∈ TB := TB_of 1588 (by decide +kernel) (by decide +kernel)
theorem tb_1590 : (Jvm.Cond.methodLink "LieClockLaw" (22 : Nat) ({ cls := "LieClockModel", name := "back", desc := "(I)I" } : Jvm.MethodName)) ∈ TB := TB_of 1590 (by decide +kernel) (by decide +kernel)
theorem tb_1591 : (Jvm.Cond.instanceMethod ({ cls := "LieClockModel", name := "back", desc := "(I)I" } : Jvm.MethodName)) ∈ TB := TB_of 1591 (by decide +kernel) (by decide +kernel)
theorem tb_1592 : (Jvm.Cond.selects "LieClockModel" ({ cls := "LieClockModel", name := "back", desc := "(I)I" } : Jvm.MethodName) ({ cls := "LieClockModel", name := "back", desc := "(I)I" } : Jvm.MethodName)) ∈ TB := TB_of 1592 (by decide +kernel) (by decide +kernel)
theorem tb_1594 : (Jvm.Cond.methodLink "LieClockLaw" (27 : Nat) ({ cls := "LieClockModel", name := "read", desc := "()I" } : Jvm.MethodName)) ∈ TB := TB_of 1594 (by decide +kernel) (by decide +kernel)
theorem tb_1595 : (Jvm.Cond.instanceMethod ({ cls := "LieClockModel", name := "read", desc := "()I" } : Jvm.MethodName)) ∈ TB := TB_of 1595 (by decide +kernel) (by decide +kernel)
theorem tb_1596 : (Jvm.Cond.selects "LieClockModel" ({ cls := "LieClockModel", name := "read", desc := "()I" } : Jvm.MethodName) ({ cls := "LieClockModel", name := "read", desc := "()I" } : Jvm.MethodName)) ∈ TB := TB_of 1596 (by decide +kernel) (by decide +kernel)
theorem tb_1598 : (Jvm.Cond.methodLink "LieClockModel" (216 : Nat) ({ cls := "LieClockModel", name := "cut", desc := "()V" } : Jvm.MethodName)) ∈ TB := TB_of 1598 (by decide +kernel) (by decide +kernel)
theorem tb_1600 : (Jvm.Cond.instanceMethod ({ cls := "LieClockModel", name := "cut", desc := "()V" } : Jvm.MethodName)) ∈ TB := TB_of 1600 (by decide +kernel) (by decide +kernel)
theorem tb_1602 : (Jvm.Cond.methodLink "LieClockModel" (173 : Nat) ({ cls := "LieClockModel", name := "byteAt", desc := "(I)I" } : Jvm.MethodName)) ∈ TB := TB_of 1602 (by decide +kernel) (by decide +kernel)
theorem tb_1604 : (Jvm.Cond.instanceMethod ({ cls := "LieClockModel", name := "byteAt", desc := "(I)I" } : Jvm.MethodName)) ∈ TB := TB_of 1604 (by decide +kernel) (by decide +kernel)
theorem tb_1606 : (Jvm.Cond.methodLink "LieClockModel" (177 : Nat) ({ cls := "LieClockModel", name := "token", desc := "(IIIJ)V" } : Jvm.MethodName)) ∈ TB := TB_of 1606 (by decide +kernel) (by decide +kernel)
theorem tb_1608 : (Jvm.Cond.instanceMethod ({ cls := "LieClockModel", name := "token", desc := "(IIIJ)V" } : Jvm.MethodName)) ∈ TB := TB_of 1608 (by decide +kernel) (by decide +kernel)
theorem tb_1620 : (Jvm.Cond.methodLink "LieClockModel" (210 : Nat) ({ cls := "LieClockModel", name := "is", desc := "(I)Z" } : Jvm.MethodName)) ∈ TB := TB_of 1620 (by decide +kernel) (by decide +kernel)
theorem tb_1622 : (Jvm.Cond.instanceMethod ({ cls := "LieClockModel", name := "is", desc := "(I)Z" } : Jvm.MethodName)) ∈ TB := TB_of 1622 (by decide +kernel) (by decide +kernel)
theorem tb_1680 : (Jvm.Cond.constantLong "LieClockModel" (290 : Nat) (-1 : Int64)) ∈ TB := TB_of 1680 (by decide +kernel) (by decide +kernel)
theorem tb_1716 : (Jvm.Cond.methodLink "LieClockModel" (237 : Nat) ({ cls := "LieClockModel", name := "begins", desc := "()V" } : Jvm.MethodName)) ∈ TB := TB_of 1716 (by decide +kernel) (by decide +kernel)
theorem tb_1718 : (Jvm.Cond.instanceMethod ({ cls := "LieClockModel", name := "begins", desc := "()V" } : Jvm.MethodName)) ∈ TB := TB_of 1718 (by decide +kernel) (by decide +kernel)
theorem tb_1720 : (Jvm.Cond.methodLink "LieClockLaw" (31 : Nat) ({ cls := "LieClockModel", name := "place", desc := "()I" } : Jvm.MethodName)) ∈ TB := TB_of 1720 (by decide +kernel) (by decide +kernel)
theorem tb_1721 : (Jvm.Cond.instanceMethod ({ cls := "LieClockModel", name := "place", desc := "()I" } : Jvm.MethodName)) ∈ TB := TB_of 1721 (by decide +kernel) (by decide +kernel)
theorem tb_1722 : (Jvm.Cond.selects "LieClockModel" ({ cls := "LieClockModel", name := "place", desc := "()I" } : Jvm.MethodName) ({ cls := "LieClockModel", name := "place", desc := "()I" } : Jvm.MethodName)) ∈ TB := TB_of 1722 (by decide +kernel) (by decide +kernel)
theorem tb_1724 : (Jvm.Cond.methodLink "LieClockLaw" (35 : Nat) ({ cls := "LieClockModel", name := "clock", desc := "()I" } : Jvm.MethodName)) ∈ TB := TB_of 1724 (by decide +kernel) (by decide +kernel)
theorem tb_1725 : (Jvm.Cond.instanceMethod ({ cls := "LieClockModel", name := "clock", desc := "()I" } : Jvm.MethodName)) ∈ TB := TB_of 1725 (by decide +kernel) (by decide +kernel)
theorem tb_1726 : (Jvm.Cond.selects "LieClockModel" ({ cls := "LieClockModel", name := "clock", desc := "()I" } : Jvm.MethodName) ({ cls := "LieClockModel", name := "clock", desc := "()I" } : Jvm.MethodName)) ∈ TB := TB_of 1726 (by decide +kernel) (by decide +kernel)
theorem tb_1728 : (Jvm.Cond.methodLink "LieClockLaw" (40 : Nat) ({ cls := "LieClockModel", name := "fact", desc := "(II)I" } : Jvm.MethodName)) ∈ TB := TB_of 1728 (by decide +kernel) (by decide +kernel)
theorem tb_1729 : (Jvm.Cond.instanceMethod ({ cls := "LieClockModel", name := "fact", desc := "(II)I" } : Jvm.MethodName)) ∈ TB := TB_of 1729 (by decide +kernel) (by decide +kernel)
theorem tb_1730 : (Jvm.Cond.selects "LieClockModel" ({ cls := "LieClockModel", name := "fact", desc := "(II)I" } : Jvm.MethodName) ({ cls := "LieClockModel", name := "fact", desc := "(II)I" } : Jvm.MethodName)) ∈ TB := TB_of 1730 (by decide +kernel) (by decide +kernel)
theorem tb_1732 : (Jvm.Cond.methodLink "LieClockModel" (323 : Nat) ({ cls := "LieClockModel", name := "in", desc := "(III)Z" } : Jvm.MethodName)) ∈ TB := TB_of 1732 (by decide +kernel) (by decide +kernel)
theorem tb_1733 : (Jvm.Cond.static ({ cls := "LieClockModel", name := "in", desc := "(III)Z" } : Jvm.MethodName)) ∈ TB := TB_of 1733 (by decide +kernel) (by decide +kernel)
theorem tb_1735 : (Jvm.Cond.methodLink "LieClockLaw" (44 : Nat) ({ cls := "LieClockModel", name := "word", desc := "(II)I" } : Jvm.MethodName)) ∈ TB := TB_of 1735 (by decide +kernel) (by decide +kernel)
theorem tb_1736 : (Jvm.Cond.instanceMethod ({ cls := "LieClockModel", name := "word", desc := "(II)I" } : Jvm.MethodName)) ∈ TB := TB_of 1736 (by decide +kernel) (by decide +kernel)
theorem tb_1737 : (Jvm.Cond.selects "LieClockModel" ({ cls := "LieClockModel", name := "word", desc := "(II)I" } : Jvm.MethodName) ({ cls := "LieClockModel", name := "word", desc := "(II)I" } : Jvm.MethodName)) ∈ TB := TB_of 1737 (by decide +kernel) (by decide +kernel)
theorem tb_1739 : (Jvm.Cond.methodLink "LieClockModel" (371 : Nat) ({ cls := "LieClockModel", name := "isWord", desc := "(I)Z" } : Jvm.MethodName)) ∈ TB := TB_of 1739 (by decide +kernel) (by decide +kernel)
theorem tb_1741 : (Jvm.Cond.instanceMethod ({ cls := "LieClockModel", name := "isWord", desc := "(I)Z" } : Jvm.MethodName)) ∈ TB := TB_of 1741 (by decide +kernel) (by decide +kernel)
theorem tb_1755 : (Jvm.Cond.methodLink "LieClockModel" (377 : Nat) ({ cls := "LieClockModel", name := "many", desc := "(J)I" } : Jvm.MethodName)) ∈ TB := TB_of 1755 (by decide +kernel) (by decide +kernel)
theorem tb_1756 : (Jvm.Cond.static ({ cls := "LieClockModel", name := "many", desc := "(J)I" } : Jvm.MethodName)) ∈ TB := TB_of 1756 (by decide +kernel) (by decide +kernel)
theorem tb_1758 : (Jvm.Cond.methodLink "LieClockLaw" (48 : Nat) ({ cls := "LieClockModel", name := "witness", desc := "(II)I" } : Jvm.MethodName)) ∈ TB := TB_of 1758 (by decide +kernel) (by decide +kernel)
theorem tb_1759 : (Jvm.Cond.instanceMethod ({ cls := "LieClockModel", name := "witness", desc := "(II)I" } : Jvm.MethodName)) ∈ TB := TB_of 1759 (by decide +kernel) (by decide +kernel)
theorem tb_1760 : (Jvm.Cond.selects "LieClockModel" ({ cls := "LieClockModel", name := "witness", desc := "(II)I" } : Jvm.MethodName) ({ cls := "LieClockModel", name := "witness", desc := "(II)I" } : Jvm.MethodName)) ∈ TB := TB_of 1760 (by decide +kernel) (by decide +kernel)
theorem tb_1762 : (Jvm.Cond.methodLink "LieClockModel" (381 : Nat) ({ cls := "LieClockModel", name := "isWitness", desc := "(I)Z" } : Jvm.MethodName)) ∈ TB := TB_of 1762 (by decide +kernel) (by decide +kernel)
theorem tb_1764 : (Jvm.Cond.instanceMethod ({ cls := "LieClockModel", name := "isWitness", desc := "(I)Z" } : Jvm.MethodName)) ∈ TB := TB_of 1764 (by decide +kernel) (by decide +kernel)
theorem tb_1766 : (Jvm.Cond.methodLink "LieClockModel" (384 : Nat) ({ cls := "LieClockModel", name := "copies", desc := "()V" } : Jvm.MethodName)) ∈ TB := TB_of 1766 (by decide +kernel) (by decide +kernel)
theorem tb_1768 : (Jvm.Cond.instanceMethod ({ cls := "LieClockModel", name := "copies", desc := "()V" } : Jvm.MethodName)) ∈ TB := TB_of 1768 (by decide +kernel) (by decide +kernel)
theorem tb_1774 : (Jvm.Cond.methodLink "LieClockModel" (346 : Nat) ({ cls := "LieClockModel", name := "bits", desc := "(I)I" } : Jvm.MethodName)) ∈ TB := TB_of 1774 (by decide +kernel) (by decide +kernel)
theorem tb_1775 : (Jvm.Cond.static ({ cls := "LieClockModel", name := "bits", desc := "(I)I" } : Jvm.MethodName)) ∈ TB := TB_of 1775 (by decide +kernel) (by decide +kernel)
theorem tb_1781 : (Jvm.Cond.methodLink "LieClockModel" (330 : Nat) ({ cls := "LieClockModel", name := "mayBe", desc := "(I)J" } : Jvm.MethodName)) ∈ TB := TB_of 1781 (by decide +kernel) (by decide +kernel)
theorem tb_1783 : (Jvm.Cond.instanceMethod ({ cls := "LieClockModel", name := "mayBe", desc := "(I)J" } : Jvm.MethodName)) ∈ TB := TB_of 1783 (by decide +kernel) (by decide +kernel)
theorem tb_1785 : (Jvm.Cond.methodLink "LieClockLaw" (52 : Nat) ({ cls := "LieClockModel", name := "share", desc := "(I)I" } : Jvm.MethodName)) ∈ TB := TB_of 1785 (by decide +kernel) (by decide +kernel)
theorem tb_1786 : (Jvm.Cond.instanceMethod ({ cls := "LieClockModel", name := "share", desc := "(I)I" } : Jvm.MethodName)) ∈ TB := TB_of 1786 (by decide +kernel) (by decide +kernel)
theorem tb_1787 : (Jvm.Cond.selects "LieClockModel" ({ cls := "LieClockModel", name := "share", desc := "(I)I" } : Jvm.MethodName) ({ cls := "LieClockModel", name := "share", desc := "(I)I" } : Jvm.MethodName)) ∈ TB := TB_of 1787 (by decide +kernel) (by decide +kernel)
theorem tb_1789 : (Jvm.Cond.constant "LieClockModel" (387 : Nat) (-1000000 : Int32)) ∈ TB := TB_of 1789 (by decide +kernel) (by decide +kernel)
theorem tb_1790 : (Jvm.Cond.methodLink "LieClockLaw" (56 : Nat) ({ cls := "LieClockModel", name := "hearing", desc := "(II)I" } : Jvm.MethodName)) ∈ TB := TB_of 1790 (by decide +kernel) (by decide +kernel)
theorem tb_1791 : (Jvm.Cond.instanceMethod ({ cls := "LieClockModel", name := "hearing", desc := "(II)I" } : Jvm.MethodName)) ∈ TB := TB_of 1791 (by decide +kernel) (by decide +kernel)
theorem tb_1792 : (Jvm.Cond.selects "LieClockModel" ({ cls := "LieClockModel", name := "hearing", desc := "(II)I" } : Jvm.MethodName) ({ cls := "LieClockModel", name := "hearing", desc := "(II)I" } : Jvm.MethodName)) ∈ TB := TB_of 1792 (by decide +kernel) (by decide +kernel)
theorem tb_1794 : (Jvm.Cond.methodLink "LieClockModel" (388 : Nat) ({ cls := "LieClockModel", name := "isCase", desc := "(I)Z" } : Jvm.MethodName)) ∈ TB := TB_of 1794 (by decide +kernel) (by decide +kernel)
theorem tb_1796 : (Jvm.Cond.instanceMethod ({ cls := "LieClockModel", name := "isCase", desc := "(I)Z" } : Jvm.MethodName)) ∈ TB := TB_of 1796 (by decide +kernel) (by decide +kernel)
theorem tb_1802 : (Jvm.Cond.methodLink "LieClockLaw" (60 : Nat) ({ cls := "LieClockModel", name := "say", desc := "(I)I" } : Jvm.MethodName)) ∈ TB := TB_of 1802 (by decide +kernel) (by decide +kernel)
theorem tb_1803 : (Jvm.Cond.instanceMethod ({ cls := "LieClockModel", name := "say", desc := "(I)I" } : Jvm.MethodName)) ∈ TB := TB_of 1803 (by decide +kernel) (by decide +kernel)
theorem tb_1804 : (Jvm.Cond.selects "LieClockModel" ({ cls := "LieClockModel", name := "say", desc := "(I)I" } : Jvm.MethodName) ({ cls := "LieClockModel", name := "say", desc := "(I)I" } : Jvm.MethodName)) ∈ TB := TB_of 1804 (by decide +kernel) (by decide +kernel)
theorem tb_1810 : (Jvm.Cond.methodLink "LieClockModel" (365 : Nat) ({ cls := "LieClockModel", name := "forward", desc := "(I)V" } : Jvm.MethodName)) ∈ TB := TB_of 1810 (by decide +kernel) (by decide +kernel)
theorem tb_1812 : (Jvm.Cond.instanceMethod ({ cls := "LieClockModel", name := "forward", desc := "(I)V" } : Jvm.MethodName)) ∈ TB := TB_of 1812 (by decide +kernel) (by decide +kernel)
theorem tb_1814 : (Jvm.Cond.constant "LieClockModel" (333 : Nat) (100000 : Int32)) ∈ TB := TB_of 1814 (by decide +kernel) (by decide +kernel)
theorem tb_1819 : (Jvm.Cond.methodLink "LieClockModel" (349 : Nat) ({ cls := "LieClockModel", name := "heardAll", desc := "()I" } : Jvm.MethodName)) ∈ TB := TB_of 1819 (by decide +kernel) (by decide +kernel)
theorem tb_1821 : (Jvm.Cond.instanceMethod ({ cls := "LieClockModel", name := "heardAll", desc := "()I" } : Jvm.MethodName)) ∈ TB := TB_of 1821 (by decide +kernel) (by decide +kernel)
theorem tb_1831 : (Jvm.Cond.constant "LieClockModel" (364 : Nat) (-100000 : Int32)) ∈ TB := TB_of 1831 (by decide +kernel) (by decide +kernel)
theorem tb_1832 : (Jvm.Cond.methodLink "LieClockModel" (394 : Nat) ({ cls := "LieClockModel", name := "keeps", desc := "()V" } : Jvm.MethodName)) ∈ TB := TB_of 1832 (by decide +kernel) (by decide +kernel)
theorem tb_1834 : (Jvm.Cond.instanceMethod ({ cls := "LieClockModel", name := "keeps", desc := "()V" } : Jvm.MethodName)) ∈ TB := TB_of 1834 (by decide +kernel) (by decide +kernel)
theorem tb_1836 : (Jvm.Cond.methodLink "LieClockLaw" (64 : Nat) ({ cls := "LieClockModel", name := "look", desc := "(I)I" } : Jvm.MethodName)) ∈ TB := TB_of 1836 (by decide +kernel) (by decide +kernel)
theorem tb_1837 : (Jvm.Cond.instanceMethod ({ cls := "LieClockModel", name := "look", desc := "(I)I" } : Jvm.MethodName)) ∈ TB := TB_of 1837 (by decide +kernel) (by decide +kernel)
theorem tb_1838 : (Jvm.Cond.selects "LieClockModel" ({ cls := "LieClockModel", name := "look", desc := "(I)I" } : Jvm.MethodName) ({ cls := "LieClockModel", name := "look", desc := "(I)I" } : Jvm.MethodName)) ∈ TB := TB_of 1838 (by decide +kernel) (by decide +kernel)
theorem tb_1840 : (Jvm.Cond.methodLink "LieClockLaw" (68 : Nat) ({ cls := "LieClockModel", name := "pause", desc := "(I)I" } : Jvm.MethodName)) ∈ TB := TB_of 1840 (by decide +kernel) (by decide +kernel)
theorem tb_1841 : (Jvm.Cond.instanceMethod ({ cls := "LieClockModel", name := "pause", desc := "(I)I" } : Jvm.MethodName)) ∈ TB := TB_of 1841 (by decide +kernel) (by decide +kernel)
theorem tb_1842 : (Jvm.Cond.selects "LieClockModel" ({ cls := "LieClockModel", name := "pause", desc := "(I)I" } : Jvm.MethodName) ({ cls := "LieClockModel", name := "pause", desc := "(I)I" } : Jvm.MethodName)) ∈ TB := TB_of 1842 (by decide +kernel) (by decide +kernel)
theorem tb_1844 : (Jvm.Cond.methodLink "LieClockLaw" (73 : Nat) ({ cls := "LieClockModel", name := "undo", desc := "()Z" } : Jvm.MethodName)) ∈ TB := TB_of 1844 (by decide +kernel) (by decide +kernel)
theorem tb_1845 : (Jvm.Cond.instanceMethod ({ cls := "LieClockModel", name := "undo", desc := "()Z" } : Jvm.MethodName)) ∈ TB := TB_of 1845 (by decide +kernel) (by decide +kernel)
theorem tb_1846 : (Jvm.Cond.selects "LieClockModel" ({ cls := "LieClockModel", name := "undo", desc := "()Z" } : Jvm.MethodName) ({ cls := "LieClockModel", name := "undo", desc := "()Z" } : Jvm.MethodName)) ∈ TB := TB_of 1846 (by decide +kernel) (by decide +kernel)
theorem tb_1848 : (Jvm.Cond.methodLink "LieClockLaw" (77 : Nat) ({ cls := "LieClockModel", name := "would", desc := "(I)I" } : Jvm.MethodName)) ∈ TB := TB_of 1848 (by decide +kernel) (by decide +kernel)
theorem tb_1849 : (Jvm.Cond.instanceMethod ({ cls := "LieClockModel", name := "would", desc := "(I)I" } : Jvm.MethodName)) ∈ TB := TB_of 1849 (by decide +kernel) (by decide +kernel)
theorem tb_1850 : (Jvm.Cond.selects "LieClockModel" ({ cls := "LieClockModel", name := "would", desc := "(I)I" } : Jvm.MethodName) ({ cls := "LieClockModel", name := "would", desc := "(I)I" } : Jvm.MethodName)) ∈ TB := TB_of 1850 (by decide +kernel) (by decide +kernel)
theorem tb_1852 : (Jvm.Cond.methodLink "LieClockLaw" (82 : Nat) ({ cls := "LieClockModel", name := "ahead", desc := "(III)I" } : Jvm.MethodName)) ∈ TB := TB_of 1852 (by decide +kernel) (by decide +kernel)
theorem tb_1853 : (Jvm.Cond.instanceMethod ({ cls := "LieClockModel", name := "ahead", desc := "(III)I" } : Jvm.MethodName)) ∈ TB := TB_of 1853 (by decide +kernel) (by decide +kernel)
theorem tb_1854 : (Jvm.Cond.selects "LieClockModel" ({ cls := "LieClockModel", name := "ahead", desc := "(III)I" } : Jvm.MethodName) ({ cls := "LieClockModel", name := "ahead", desc := "(III)I" } : Jvm.MethodName)) ∈ TB := TB_of 1854 (by decide +kernel) (by decide +kernel)
theorem tb_1868 : (Jvm.Cond.methodLink "LieClockLaw" (86 : Nat) ({ cls := "LieClockModel", name := "aheadAt", desc := "(III)I" } : Jvm.MethodName)) ∈ TB := TB_of 1868 (by decide +kernel) (by decide +kernel)
theorem tb_1869 : (Jvm.Cond.instanceMethod ({ cls := "LieClockModel", name := "aheadAt", desc := "(III)I" } : Jvm.MethodName)) ∈ TB := TB_of 1869 (by decide +kernel) (by decide +kernel)
theorem tb_1870 : (Jvm.Cond.selects "LieClockModel" ({ cls := "LieClockModel", name := "aheadAt", desc := "(III)I" } : Jvm.MethodName) ({ cls := "LieClockModel", name := "aheadAt", desc := "(III)I" } : Jvm.MethodName)) ∈ TB := TB_of 1870 (by decide +kernel) (by decide +kernel)
theorem tb_1872 : (Jvm.Cond.methodLink "LieClockLaw" (91 : Nat) ({ cls := "LieClockModel", name := "order", desc := "(IZ)I" } : Jvm.MethodName)) ∈ TB := TB_of 1872 (by decide +kernel) (by decide +kernel)
theorem tb_1873 : (Jvm.Cond.instanceMethod ({ cls := "LieClockModel", name := "order", desc := "(IZ)I" } : Jvm.MethodName)) ∈ TB := TB_of 1873 (by decide +kernel) (by decide +kernel)
theorem tb_1874 : (Jvm.Cond.selects "LieClockModel" ({ cls := "LieClockModel", name := "order", desc := "(IZ)I" } : Jvm.MethodName) ({ cls := "LieClockModel", name := "order", desc := "(IZ)I" } : Jvm.MethodName)) ∈ TB := TB_of 1874 (by decide +kernel) (by decide +kernel)
theorem tb_1876 : (Jvm.Cond.methodLink "LieClockModel" (420 : Nat) ({ cls := "LieClockModel", name := "isSet", desc := "(I)Z" } : Jvm.MethodName)) ∈ TB := TB_of 1876 (by decide +kernel) (by decide +kernel)
theorem tb_1878 : (Jvm.Cond.instanceMethod ({ cls := "LieClockModel", name := "isSet", desc := "(I)Z" } : Jvm.MethodName)) ∈ TB := TB_of 1878 (by decide +kernel) (by decide +kernel)
theorem tb_1880 : (Jvm.Cond.methodLink "LieClockModel" (423 : Nat) ({ cls := "LieClockModel", name := "orders", desc := "(IZ)I" } : Jvm.MethodName)) ∈ TB := TB_of 1880 (by decide +kernel) (by decide +kernel)
theorem tb_1882 : (Jvm.Cond.instanceMethod ({ cls := "LieClockModel", name := "orders", desc := "(IZ)I" } : Jvm.MethodName)) ∈ TB := TB_of 1882 (by decide +kernel) (by decide +kernel)
theorem tb_1884 : (Jvm.Cond.methodLink "LieClockModel" (414 : Nat) ({ cls := "LieClockModel", name := "fillsOrder", desc := "(I)V" } : Jvm.MethodName)) ∈ TB := TB_of 1884 (by decide +kernel) (by decide +kernel)
theorem tb_1886 : (Jvm.Cond.instanceMethod ({ cls := "LieClockModel", name := "fillsOrder", desc := "(I)V" } : Jvm.MethodName)) ∈ TB := TB_of 1886 (by decide +kernel) (by decide +kernel)
theorem tb_1888 : (Jvm.Cond.methodLink "LieClockModel" (417 : Nat) ({ cls := "LieClockModel", name := "nextOrder", desc := "()Z" } : Jvm.MethodName)) ∈ TB := TB_of 1888 (by decide +kernel) (by decide +kernel)
theorem tb_1890 : (Jvm.Cond.instanceMethod ({ cls := "LieClockModel", name := "nextOrder", desc := "()Z" } : Jvm.MethodName)) ∈ TB := TB_of 1890 (by decide +kernel) (by decide +kernel)
theorem tb_1892 : (Jvm.Cond.methodLink "LieClockLaw" (96 : Nat) ({ cls := "LieClockModel", name := "orderAt", desc := "(IZI)I" } : Jvm.MethodName)) ∈ TB := TB_of 1892 (by decide +kernel) (by decide +kernel)
theorem tb_1893 : (Jvm.Cond.instanceMethod ({ cls := "LieClockModel", name := "orderAt", desc := "(IZI)I" } : Jvm.MethodName)) ∈ TB := TB_of 1893 (by decide +kernel) (by decide +kernel)
theorem tb_1894 : (Jvm.Cond.selects "LieClockModel" ({ cls := "LieClockModel", name := "orderAt", desc := "(IZI)I" } : Jvm.MethodName) ({ cls := "LieClockModel", name := "orderAt", desc := "(IZI)I" } : Jvm.MethodName)) ∈ TB := TB_of 1894 (by decide +kernel) (by decide +kernel)
theorem tb_1897 : (Jvm.Cond.methodLink "LieClockLaw" (100 : Nat) ({ cls := "LieClockModel", name := "never", desc := "(II)I" } : Jvm.MethodName)) ∈ TB := TB_of 1897 (by decide +kernel) (by decide +kernel)
theorem tb_1898 : (Jvm.Cond.instanceMethod ({ cls := "LieClockModel", name := "never", desc := "(II)I" } : Jvm.MethodName)) ∈ TB := TB_of 1898 (by decide +kernel) (by decide +kernel)
theorem tb_1899 : (Jvm.Cond.selects "LieClockModel" ({ cls := "LieClockModel", name := "never", desc := "(II)I" } : Jvm.MethodName) ({ cls := "LieClockModel", name := "never", desc := "(II)I" } : Jvm.MethodName)) ∈ TB := TB_of 1899 (by decide +kernel) (by decide +kernel)
theorem tb_1901 : (Jvm.Cond.methodLink "LieClockLaw" (104 : Nat) ({ cls := "LieClockModel", name := "smallest", desc := "()I" } : Jvm.MethodName)) ∈ TB := TB_of 1901 (by decide +kernel) (by decide +kernel)
theorem tb_1902 : (Jvm.Cond.instanceMethod ({ cls := "LieClockModel", name := "smallest", desc := "()I" } : Jvm.MethodName)) ∈ TB := TB_of 1902 (by decide +kernel) (by decide +kernel)
theorem tb_1903 : (Jvm.Cond.selects "LieClockModel" ({ cls := "LieClockModel", name := "smallest", desc := "()I" } : Jvm.MethodName) ({ cls := "LieClockModel", name := "smallest", desc := "()I" } : Jvm.MethodName)) ∈ TB := TB_of 1903 (by decide +kernel) (by decide +kernel)
theorem tb_1905 : (Jvm.Cond.constant "LieClockModel" (428 : Nat) (65535 : Int32)) ∈ TB := TB_of 1905 (by decide +kernel) (by decide +kernel)
theorem tb_1906 : (Jvm.Cond.methodLink "LieClockModel" (429 : Nat) ({ cls := "LieClockModel", name := "fillsSets", desc := "(I)V" } : Jvm.MethodName)) ∈ TB := TB_of 1906 (by decide +kernel) (by decide +kernel)
theorem tb_1908 : (Jvm.Cond.instanceMethod ({ cls := "LieClockModel", name := "fillsSets", desc := "(I)V" } : Jvm.MethodName)) ∈ TB := TB_of 1908 (by decide +kernel) (by decide +kernel)
theorem tb_1910 : (Jvm.Cond.methodLink "LieClockLaw" (108 : Nat) ({ cls := "LieClockModel", name := "states", desc := "(I)I" } : Jvm.MethodName)) ∈ TB := TB_of 1910 (by decide +kernel) (by decide +kernel)
theorem tb_1911 : (Jvm.Cond.instanceMethod ({ cls := "LieClockModel", name := "states", desc := "(I)I" } : Jvm.MethodName)) ∈ TB := TB_of 1911 (by decide +kernel) (by decide +kernel)
theorem tb_1912 : (Jvm.Cond.selects "LieClockModel" ({ cls := "LieClockModel", name := "states", desc := "(I)I" } : Jvm.MethodName) ({ cls := "LieClockModel", name := "states", desc := "(I)I" } : Jvm.MethodName)) ∈ TB := TB_of 1912 (by decide +kernel) (by decide +kernel)
theorem tb_1914 : (Jvm.Cond.methodLink "LieClockLaw" (112 : Nat) ({ cls := "LieClockModel", name := "looks", desc := "(I)I" } : Jvm.MethodName)) ∈ TB := TB_of 1914 (by decide +kernel) (by decide +kernel)
theorem tb_1915 : (Jvm.Cond.instanceMethod ({ cls := "LieClockModel", name := "looks", desc := "(I)I" } : Jvm.MethodName)) ∈ TB := TB_of 1915 (by decide +kernel) (by decide +kernel)
theorem tb_1916 : (Jvm.Cond.selects "LieClockModel" ({ cls := "LieClockModel", name := "looks", desc := "(I)I" } : Jvm.MethodName) ({ cls := "LieClockModel", name := "looks", desc := "(I)I" } : Jvm.MethodName)) ∈ TB := TB_of 1916 (by decide +kernel) (by decide +kernel)
theorem tb_1918 : (Jvm.Cond.methodLink "LieClockLaw" (116 : Nat) ({ cls := "LieClockModel", name := "settled", desc := "(I)I" } : Jvm.MethodName)) ∈ TB := TB_of 1918 (by decide +kernel) (by decide +kernel)
theorem tb_1919 : (Jvm.Cond.instanceMethod ({ cls := "LieClockModel", name := "settled", desc := "(I)I" } : Jvm.MethodName)) ∈ TB := TB_of 1919 (by decide +kernel) (by decide +kernel)
theorem tb_1920 : (Jvm.Cond.selects "LieClockModel" ({ cls := "LieClockModel", name := "settled", desc := "(I)I" } : Jvm.MethodName) ({ cls := "LieClockModel", name := "settled", desc := "(I)I" } : Jvm.MethodName)) ∈ TB := TB_of 1920 (by decide +kernel) (by decide +kernel)
theorem tb_1922 : (Jvm.Cond.methodLink "LieClockLaw" (120 : Nat) ({ cls := "LieClockModel", name := "write", desc := "(I)I" } : Jvm.MethodName)) ∈ TB := TB_of 1922 (by decide +kernel) (by decide +kernel)
theorem tb_1923 : (Jvm.Cond.instanceMethod ({ cls := "LieClockModel", name := "write", desc := "(I)I" } : Jvm.MethodName)) ∈ TB := TB_of 1923 (by decide +kernel) (by decide +kernel)
theorem tb_1924 : (Jvm.Cond.selects "LieClockModel" ({ cls := "LieClockModel", name := "write", desc := "(I)I" } : Jvm.MethodName) ({ cls := "LieClockModel", name := "write", desc := "(I)I" } : Jvm.MethodName)) ∈ TB := TB_of 1924 (by decide +kernel) (by decide +kernel)
theorem tb_1926 : (Jvm.Cond.methodLink "LieClockLaw" (124 : Nat) ({ cls := "LieClockModel", name := "burn", desc := "()I" } : Jvm.MethodName)) ∈ TB := TB_of 1926 (by decide +kernel) (by decide +kernel)
theorem tb_1927 : (Jvm.Cond.instanceMethod ({ cls := "LieClockModel", name := "burn", desc := "()I" } : Jvm.MethodName)) ∈ TB := TB_of 1927 (by decide +kernel) (by decide +kernel)
theorem tb_1928 : (Jvm.Cond.selects "LieClockModel" ({ cls := "LieClockModel", name := "burn", desc := "()I" } : Jvm.MethodName) ({ cls := "LieClockModel", name := "burn", desc := "()I" } : Jvm.MethodName)) ∈ TB := TB_of 1928 (by decide +kernel) (by decide +kernel)
theorem tb_1930 : (Jvm.Cond.methodLink "LieClockLaw" (129 : Nat) ({ cls := "LieClockModel", name := "fits", desc := "(I)J" } : Jvm.MethodName)) ∈ TB := TB_of 1930 (by decide +kernel) (by decide +kernel)
theorem tb_1931 : (Jvm.Cond.instanceMethod ({ cls := "LieClockModel", name := "fits", desc := "(I)J" } : Jvm.MethodName)) ∈ TB := TB_of 1931 (by decide +kernel) (by decide +kernel)
theorem tb_1932 : (Jvm.Cond.selects "LieClockModel" ({ cls := "LieClockModel", name := "fits", desc := "(I)J" } : Jvm.MethodName) ({ cls := "LieClockModel", name := "fits", desc := "(I)J" } : Jvm.MethodName)) ∈ TB := TB_of 1932 (by decide +kernel) (by decide +kernel)
theorem tb_1934 : (Jvm.Cond.methodLink "LieClockModel" (445 : Nat) ({ cls := "LieClockModel", name := "fillsBook", desc := "(I)V" } : Jvm.MethodName)) ∈ TB := TB_of 1934 (by decide +kernel) (by decide +kernel)
theorem tb_1936 : (Jvm.Cond.instanceMethod ({ cls := "LieClockModel", name := "fillsBook", desc := "(I)V" } : Jvm.MethodName)) ∈ TB := TB_of 1936 (by decide +kernel) (by decide +kernel)
theorem tb_1938 : (Jvm.Cond.methodLink "LieClockModel" (442 : Nat) ({ cls := "LieClockModel", name := "fitsOne", desc := "(I)V" } : Jvm.MethodName)) ∈ TB := TB_of 1938 (by decide +kernel) (by decide +kernel)
theorem tb_1940 : (Jvm.Cond.instanceMethod ({ cls := "LieClockModel", name := "fitsOne", desc := "(I)V" } : Jvm.MethodName)) ∈ TB := TB_of 1940 (by decide +kernel) (by decide +kernel)
theorem tb_1942 : (Jvm.Cond.methodLink "LieClockLaw" (133 : Nat) ({ cls := "LieClockModel", name := "surely", desc := "(I)I" } : Jvm.MethodName)) ∈ TB := TB_of 1942 (by decide +kernel) (by decide +kernel)
theorem tb_1943 : (Jvm.Cond.instanceMethod ({ cls := "LieClockModel", name := "surely", desc := "(I)I" } : Jvm.MethodName)) ∈ TB := TB_of 1943 (by decide +kernel) (by decide +kernel)
theorem tb_1944 : (Jvm.Cond.selects "LieClockModel" ({ cls := "LieClockModel", name := "surely", desc := "(I)I" } : Jvm.MethodName) ({ cls := "LieClockModel", name := "surely", desc := "(I)I" } : Jvm.MethodName)) ∈ TB := TB_of 1944 (by decide +kernel) (by decide +kernel)
theorem tb_1946 : (Jvm.Cond.methodLink "LieClockLaw" (137 : Nat) ({ cls := "LieClockModel", name := "liars", desc := "(I)I" } : Jvm.MethodName)) ∈ TB := TB_of 1946 (by decide +kernel) (by decide +kernel)
theorem tb_1947 : (Jvm.Cond.instanceMethod ({ cls := "LieClockModel", name := "liars", desc := "(I)I" } : Jvm.MethodName)) ∈ TB := TB_of 1947 (by decide +kernel) (by decide +kernel)
theorem tb_1948 : (Jvm.Cond.selects "LieClockModel" ({ cls := "LieClockModel", name := "liars", desc := "(I)I" } : Jvm.MethodName) ({ cls := "LieClockModel", name := "liars", desc := "(I)I" } : Jvm.MethodName)) ∈ TB := TB_of 1948 (by decide +kernel) (by decide +kernel)
theorem tb_1950 : (Jvm.Cond.methodLink "LieClockLaw" (142 : Nat) ({ cls := "LieClockModel", name := "hold", desc := "(I)Z" } : Jvm.MethodName)) ∈ TB := TB_of 1950 (by decide +kernel) (by decide +kernel)
theorem tb_1951 : (Jvm.Cond.instanceMethod ({ cls := "LieClockModel", name := "hold", desc := "(I)Z" } : Jvm.MethodName)) ∈ TB := TB_of 1951 (by decide +kernel) (by decide +kernel)
theorem tb_1952 : (Jvm.Cond.selects "LieClockModel" ({ cls := "LieClockModel", name := "hold", desc := "(I)Z" } : Jvm.MethodName) ({ cls := "LieClockModel", name := "hold", desc := "(I)Z" } : Jvm.MethodName)) ∈ TB := TB_of 1952 (by decide +kernel) (by decide +kernel)
theorem tb_1954 : (Jvm.Cond.methodLink "LieClockLaw" (146 : Nat) ({ cls := "LieClockModel", name := "restore", desc := "(I)Z" } : Jvm.MethodName)) ∈ TB := TB_of 1954 (by decide +kernel) (by decide +kernel)
theorem tb_1955 : (Jvm.Cond.instanceMethod ({ cls := "LieClockModel", name := "restore", desc := "(I)Z" } : Jvm.MethodName)) ∈ TB := TB_of 1955 (by decide +kernel) (by decide +kernel)
theorem tb_1956 : (Jvm.Cond.selects "LieClockModel" ({ cls := "LieClockModel", name := "restore", desc := "(I)Z" } : Jvm.MethodName) ({ cls := "LieClockModel", name := "restore", desc := "(I)Z" } : Jvm.MethodName)) ∈ TB := TB_of 1956 (by decide +kernel) (by decide +kernel)
theorem tb_1958 : (Jvm.Cond.methodLink "LieClockLaw" (150 : Nat) ({ cls := "LieClockModel", name := "count", desc := "(I)I" } : Jvm.MethodName)) ∈ TB := TB_of 1958 (by decide +kernel) (by decide +kernel)
theorem tb_1959 : (Jvm.Cond.instanceMethod ({ cls := "LieClockModel", name := "count", desc := "(I)I" } : Jvm.MethodName)) ∈ TB := TB_of 1959 (by decide +kernel) (by decide +kernel)
theorem tb_1960 : (Jvm.Cond.selects "LieClockModel" ({ cls := "LieClockModel", name := "count", desc := "(I)I" } : Jvm.MethodName) ({ cls := "LieClockModel", name := "count", desc := "(I)I" } : Jvm.MethodName)) ∈ TB := TB_of 1960 (by decide +kernel) (by decide +kernel)
theorem tb_1962 : (Jvm.Cond.fieldLink "java/lang/String" (9 : Nat) "java/lang/String" "value" "[B") ∈ TB := TB_of 1962 (by decide +kernel) (by decide +kernel)
theorem tb_1963 : (Jvm.Cond.fieldLink "java/lang/String" (15 : Nat) "java/lang/String" "coder" "B") ∈ TB := TB_of 1963 (by decide +kernel) (by decide +kernel)
theorem nw_34 : (Jvm.Cond.methodLinkNest "LieClock" (15 : Nat) ({ cls := "LieClock$Tape", name := "<init>", desc := "()V" } : Jvm.MethodName) "LieClock") ∈ NWs := NW_of 34 (by decide +kernel) rfl
theorem nw_39 : (Jvm.Cond.fieldLinkNest "LieClock" (105 : Nat) "LieClock$Tape" "length" "I" "LieClock") ∈ NWs := NW_of 39 (by decide +kernel) rfl
theorem nw_41 : (Jvm.Cond.fieldLinkNest "LieClock$Tokens" (52 : Nat) "LieClock$Tape" "length" "I" "LieClock") ∈ NWs := NW_of 41 (by decide +kernel) rfl
theorem nw_50 : (Jvm.Cond.methodLinkNest "LieClock" (22 : Nat) ({ cls := "LieClock$Told", name := "<init>", desc := "()V" } : Jvm.MethodName) "LieClock") ∈ NWs := NW_of 50 (by decide +kernel) rfl
theorem nw_56 : (Jvm.Cond.methodLinkNest "LieClock$Told" (39 : Nat) ({ cls := "LieClock$Law", name := "<init>", desc := "()V" } : Jvm.MethodName) "LieClock") ∈ NWs := NW_of 56 (by decide +kernel) rfl
theorem nw_63 : (Jvm.Cond.fieldLinkNest "LieClock$Told" (88 : Nat) "LieClock$Law" "length" "I" "LieClock") ∈ NWs := NW_of 63 (by decide +kernel) rfl
theorem nw_80 : (Jvm.Cond.fieldLinkNest "LieClock$State" (56 : Nat) "LieClock$Told" "facts" "I" "LieClock") ∈ NWs := NW_of 80 (by decide +kernel) rfl
theorem nw_82 : (Jvm.Cond.fieldLinkNest "LieClock" (131 : Nat) "LieClock$Told" "facts" "I" "LieClock") ∈ NWs := NW_of 82 (by decide +kernel) rfl
theorem nw_87 : (Jvm.Cond.fieldLinkNest "LieClock$State" (40 : Nat) "LieClock$Told" "opens" "I" "LieClock") ∈ NWs := NW_of 87 (by decide +kernel) rfl
theorem nw_91 : (Jvm.Cond.fieldLinkNest "LieClock" (174 : Nat) "LieClock$Told" "witnesses" "I" "LieClock") ∈ NWs := NW_of 91 (by decide +kernel) rfl
theorem nw_93 : (Jvm.Cond.fieldLinkNest "LieClock$Sets" (26 : Nat) "LieClock$Told" "words" "I" "LieClock") ∈ NWs := NW_of 93 (by decide +kernel) rfl
theorem nw_100 : (Jvm.Cond.fieldLinkNest "LieClock" (266 : Nat) "LieClock$Told" "words" "I" "LieClock") ∈ NWs := NW_of 100 (by decide +kernel) rfl
theorem nw_109 : (Jvm.Cond.fieldLinkNest "LieClock$State" (119 : Nat) "LieClock$Told" "cases" "I" "LieClock") ∈ NWs := NW_of 109 (by decide +kernel) rfl
theorem nw_111 : (Jvm.Cond.fieldLinkNest "LieClock" (309 : Nat) "LieClock$Told" "cases" "I" "LieClock") ∈ NWs := NW_of 111 (by decide +kernel) rfl
theorem nw_112 : (Jvm.Cond.fieldLinkNest "LieClock$State" (25 : Nat) "LieClock$Told" "begin" "I" "LieClock") ∈ NWs := NW_of 112 (by decide +kernel) rfl
theorem nw_115 : (Jvm.Cond.fieldLinkNest "LieClock$State" (49 : Nat) "LieClock$Told" "everything" "J" "LieClock") ∈ NWs := NW_of 115 (by decide +kernel) rfl
theorem nw_250 : (Jvm.Cond.fieldLinkNest "LieClock$Parser" (35 : Nat) "LieClock$Tokens" "kinds" "[I" "LieClock") ∈ NWs := NW_of 250 (by decide +kernel) rfl
theorem nw_308 : (Jvm.Cond.fieldLinkNest "LieClock$Nodes" (41 : Nat) "LieClock$State" "clock" "I" "LieClock") ∈ NWs := NW_of 308 (by decide +kernel) rfl
theorem nw_309 : (Jvm.Cond.fieldLinkNest "LieClock$Orders" (58 : Nat) "LieClock$State" "clock" "I" "LieClock") ∈ NWs := NW_of 309 (by decide +kernel) rfl
theorem nw_311 : (Jvm.Cond.fieldLinkNest "LieClock" (128 : Nat) "LieClock$State" "clock" "I" "LieClock") ∈ NWs := NW_of 311 (by decide +kernel) rfl
theorem nw_313 : (Jvm.Cond.fieldLinkNest "LieClock$Nodes" (47 : Nat) "LieClock$State" "said" "I" "LieClock") ∈ NWs := NW_of 313 (by decide +kernel) rfl
theorem nw_315 : (Jvm.Cond.fieldLinkNest "LieClock" (154 : Nat) "LieClock$State" "said" "I" "LieClock") ∈ NWs := NW_of 315 (by decide +kernel) rfl
theorem nw_317 : (Jvm.Cond.fieldLinkNest "LieClock$Nodes" (50 : Nat) "LieClock$State" "caught" "I" "LieClock") ∈ NWs := NW_of 317 (by decide +kernel) rfl
theorem nw_319 : (Jvm.Cond.fieldLinkNest "LieClock" (157 : Nat) "LieClock$State" "caught" "I" "LieClock") ∈ NWs := NW_of 319 (by decide +kernel) rfl
theorem nw_321 : (Jvm.Cond.fieldLinkNest "LieClock" (137 : Nat) "LieClock$State" "open" "I" "LieClock") ∈ NWs := NW_of 321 (by decide +kernel) rfl
theorem nw_323 : (Jvm.Cond.fieldLinkNest "LieClock$Nodes" (53 : Nat) "LieClock$State" "heard" "I" "LieClock") ∈ NWs := NW_of 323 (by decide +kernel) rfl
theorem nw_324 : (Jvm.Cond.fieldLinkNest "LieClock" (312 : Nat) "LieClock$State" "heard" "I" "LieClock") ∈ NWs := NW_of 324 (by decide +kernel) rfl
theorem nw_326 : (Jvm.Cond.fieldLinkNest "LieClock" (185 : Nat) "LieClock$State" "may" "J" "LieClock") ∈ NWs := NW_of 326 (by decide +kernel) rfl
theorem nw_380 : (Jvm.Cond.arrayOver (Jvm.ClassFile.FieldType.object "LieClock$State")) ∈ NWs := NW_of 380 (by decide +kernel) rfl
theorem nw_381 : (Jvm.Cond.arrayOver (Jvm.ClassFile.FieldType.object "LieClock$Tape")) ∈ NWs := NW_of 381 (by decide +kernel) rfl
theorem nw_384 : (Jvm.Cond.methodLinkNest "LieClock" (74 : Nat) ({ cls := "LieClock$Nodes", name := "<init>", desc := "()V" } : Jvm.MethodName) "LieClock") ∈ NWs := NW_of 384 (by decide +kernel) rfl
theorem nw_420 : (Jvm.Cond.methodLinkNest "LieClock" (77 : Nat) ({ cls := "LieClock$Sets", name := "<init>", desc := "()V" } : Jvm.MethodName) "LieClock") ∈ NWs := NW_of 420 (by decide +kernel) rfl
theorem nw_456 : (Jvm.Cond.fieldLinkNest "LieClock" (256 : Nat) "LieClock$Orders" "bestClock" "I" "LieClock") ∈ NWs := NW_of 456 (by decide +kernel) rfl
theorem nw_459 : (Jvm.Cond.fieldLinkNest "LieClock" (328 : Nat) "LieClock$Orders" "known" "Z" "LieClock") ∈ NWs := NW_of 459 (by decide +kernel) rfl
theorem nw_496 : (Jvm.Cond.fieldLinkNest "LieClock" (324 : Nat) "LieClock$Ahead" "known" "Z" "LieClock") ∈ NWs := NW_of 496 (by decide +kernel) rfl
theorem nw_528 : (Jvm.Cond.fieldLinkNest "LieClock" (292 : Nat) "LieClock$Book" "size" "I" "LieClock") ∈ NWs := NW_of 528 (by decide +kernel) rfl
theorem nw_531 : (Jvm.Cond.fieldLinkNest "LieClock" (297 : Nat) "LieClock$Book" "rows" "[J" "LieClock") ∈ NWs := NW_of 531 (by decide +kernel) rfl
theorem nw_533 : (Jvm.Cond.fieldLinkNest "LieClock" (300 : Nat) "LieClock$Book" "sure" "[I" "LieClock") ∈ NWs := NW_of 533 (by decide +kernel) rfl
theorem nw_535 : (Jvm.Cond.fieldLinkNest "LieClock" (303 : Nat) "LieClock$Book" "liarsIn" "[I" "LieClock") ∈ NWs := NW_of 535 (by decide +kernel) rfl
