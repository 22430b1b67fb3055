set_option maxRecDepth 100000 in
set_option maxHeartbeats 4000000 in
theorem cX0_expand_0 (l : Launch) (G : va_G) (cy : Nat → ClassId) (ev : Ew) (K0 ln0 : Nat → Nat) (Ls0 : List Nat) (hW0 : SW K0 ln0 Ls0) (sz : Nat) (hp0 : Nat → Nat → Value) (ok0 : Ok K0 hp0) (qa900 : Nat) (qa901 : Nat) (zi902 : Int32) (zi903 : Int32) (g0 : Nat) (kd900 : K0 qa900 = 1) (kd901 : K0 qa901 = 11) (bd902 : ((0 : Int) ≤ zi902.toInt ∧ zi902.toInt ≤ 131071)) (bd903 : ((1 : Int) ≤ zi903.toInt ∧ zi903.toInt ≤ 4)) (pdNS : NSx K0 ln0 hp0 g0) (xp0 : zi902.toInt < (g0 : Nat)) : Met l yX0_expand (WS yX0_expand cX0_expand 7 none) { frames := 5, cells := 196608, slots := 2748928, locals := 124 } (PB2 [.ref qa900, .ref qa901, .int zi902, .int zi903] sz G cy ev (va_pl Ls0 (cellOf cy K0 ln0 hp0))) (QGv (fun u : GU × Nat => GPx wsC K0 ln0 hp0 g0 u.1 u.2) G cy g0 (va_A (va_pl Ls0 (cellOf cy K0 ln0 hp0)) sz)) 196608 2748928 (va_A (va_pl Ls0 (cellOf cy K0 ln0 hp0)) sz) := by
  refine met_of2 (y := yX0_expand) (L := 7) (av := [.ref qa900, .ref qa901, .int zi902, .int zi903]) (Qc := fun A => QGv (fun u : GU × Nat => GPx wsC K0 ln0 hp0 g0 u.1 u.2) G cy g0 A) (plainFor_of_name (by decide)) (Nat.le_of_ble_eq_true rfl) ?_
  intro p e s m below meth c hsz hx hb hr hml hown hT hlocks hin hK A hA hE hw hS ls hl
  have hw : PW G cy K0 ln0 Ls0 A hp0 s.heap := hw
  have hown : s.vm.findClass "LieClock$Ahead" = some m.cls := hown
  have hl : lv_has ls 7 [(0, .ref qa900), (1, .ref qa901), (2, .int zi902), (3, .int zi903)] := hl
  obtain ⟨Q, hQ⟩ : ∃ Q : State → Prop, Q = MQ below (QGv (fun u : GU × Nat => GPx wsC K0 ln0 hp0 g0 u.1 u.2) G cy g0 A) ([.ref qa900, .ref qa901, .int zi902, .int zi903] : List Value).toArray s 196608 2748928 A := ⟨_, rfl⟩
  rw [← hQ]
  obtain ⟨K, ln, Ls, gn, hW, gex, gfx, ok1, hKe, hga, hge, kd900, kd901, pdNS, xp0, hw⟩ : ∃ (K ln : Nat → Nat) (Ls : List Nat) (gn : Nat), SW K ln Ls ∧ EXx K0 ln0 K ln ∧ FrX wsC K0 hp0 hp0 ∧ Ok K hp0 ∧ K = K0 ∧ g0 ≤ gn ∧ gn = g0 ∧ (K qa900 = 1) ∧ (K qa901 = 11) ∧ (NSx K ln hp0 gn) ∧ (zi902.toInt < (gn : Nat)) ∧ PW G cy K ln Ls A hp0 s.heap := ⟨K0, ln0, Ls0, g0, hW0, EXx.rf, FrX.rf, ok0, rfl, Nat.le_refl _, rfl, kd900, kd901, pdNS, xp0, hw⟩
  have hg0 : 256 ≤ g0 ∧ g0 ≤ 131072 := by have := NSx.bd pdNS; omega
  refine W.widen (k := gn - g0) (n := 14 * (gn - g0)) (Nat.zero_le _) (Nat.zero_le _) ?_
  have hgn := NSx.bd pdNS
  refine lv_aload_n hx hb dX0_expand_0 rfl (lv_at hl 0 rfl) ?_
  obtain ⟨qa2, eq1, kd3⟩ := rd_1000 ok1 kd900
  refine p_get (ci := 0) (v := .ref qa2) (C := RX0) (T := TX0) (N := 8) hx hb hT iw_X0 hown hK hw hW kd900 (by decide) rfl rfl 0 (by decide) eq1 (hT _ tb_591) (fun _ h9 => h9) dX0_expand_1 ?_
  obtain ⟨qa5, eq4, kd6⟩ := rd_4000 ok1 kd3
  have ln7 := (pdNS).ref kd3 (by decide) eq4
  refine p_getN (ci := 3) (v := .ref qa5) (C := RX3) (T := TX3) (N := 7) hx hb hT iw_X3 hown hK hw hW kd3 (by decide) rfl rfl 0 (by decide) eq4 (hK.fl nw_389) (fun _ h9 => h9) dX0_expand_4 ?_
  refine lv_iload_n hx hb dX0_expand_7 rfl (lv_at hl 2 rfl) ?_
  obtain ⟨zi9, eq8⟩ := rd_28000 ok1 kd6 ((zi902 : Int32).toNatClampNeg)
  refine p_iald (v := zi9) hx hb hK hw hW kd6 (by decide) rfl ln7 (vp_bv (by omega) (by omega)) eq8 dX0_expand_8 ?_
  refine lv_ldc (v := 65535) hx hb hown (hT _ tb_1192) dX0_expand_9 ?_
  refine lv_iand hx hb dX0_expand_11 (lv_topi (fun zi10 ea11 => ?_))
  have bd12 : (0 : Int) ≤ zi10.toInt ∧ zi10.toInt ≤ 65535 := b_and_r ea11 bc_65535 (by decide) (by decide) (by decide)
  refine lv_istore (lv' := [(4, .int zi10), (0, .ref qa900), (1, .ref qa901), (2, .int zi902), (3, .int zi903)]) hx hb dX0_expand_12 hl (by decide) rfl (fun ls hl => ?_)
  refine lv_iload hx hb dX0_expand_14 (lv_at hl 0 rfl) ?_
  refine lv_iload hx hb dX0_expand_16 (lv_at hl 0 rfl) ?_
  refine lv_ineg hx hb dX0_expand_18 (lv_topi (fun zi13 ea14 => ?_))
  refine lv_iand hx hb dX0_expand_19 (lv_topi (fun zi15 ea16 => ?_))
  have bd17 : (0 : Int) ≤ zi15.toInt ∧ zi15.toInt ≤ 65535 := b_and_l ea16 bd12 (by decide) (by decide) (by decide)
  refine lv_istore (lv' := [(5, .int zi15), (4, .int zi10), (0, .ref qa900), (1, .ref qa901), (2, .int zi902), (3, .int zi903)]) hx hb dX0_expand_20 hl (by decide) rfl (fun ls hl => ?_)
  refine lv_iconst (v := 0) hx hb dX0_expand_22 (by decide) ?_
  refine lv_istore (lv' := [(6, .int 0), (5, .int zi15), (4, .int zi10), (0, .ref qa900), (1, .ref qa901), (2, .int zi902), (3, .int zi903)]) hx hb dX0_expand_23 hl (by decide) rfl (fun ls hl => ?_)
  have lp1540 : ∀ (n1538 : Nat) (K ln : Nat → Nat) (Ls : List Nat) (gn : Nat) (hp1098 : Nat → Nat → Value) (zi1097 : Int32) (H : Heap) (locs : List Loc) (ls : Array Slot), 16 - zi1097.toInt < (n1538 : Int) → SW K ln Ls → EXx K0 ln0 K ln → FrX wsC K0 hp0 hp1098 → Ok K hp1098 → NSx K ln hp1098 gn → g0 ≤ gn → K qa900 = 1 → K qa901 = 11 → ((0 : Int) ≤ zi1097.toInt ∧ zi1097.toInt ≤ 16) → lv_has ls 7 [(0, .ref qa900), (1, .ref qa901), (2, .int zi902), (3, .int zi903), (4, .int zi10), (5, .int zi15), (6, .int zi1097)] → PW G cy K ln Ls A hp1098 H → va_S A s.heap H locs → W p l e ({ frames := 5, cells := 196608, slots := 2748928, locals := 124 } : Room) s m ([.ref qa900, .ref qa901, .int zi902, .int zi903] : List Value).toArray below meth c H locs (gn - g0) (14 * (gn - g0)) Q (F0 m 25 ls []) := by
    intro n1538
    induction n1538 with
    | zero =>
      intro K ln Ls gn hp1098 zi1097 H locs ls hm1541 hW gex gfx ok1099 pd1100 hga kd1101 kd1102 bd1103 hl hw hS
      exact absurd hm1541 (by have := bd1103; omega)
    | succ n1538 ih1539 =>
      intro K ln Ls gn hp1098 zi1097 H locs ls hm1541 hW gex gfx ok1099 pd1100 hga kd1101 kd1102 bd1103 hl hw hS
      have hgn := NSx.bd pd1100
      refine lv_iload hx hb dX0_expand_25 (lv_at hl 6 rfl) ?_
      refine lv_aload_n hx hb dX0_expand_27 rfl (lv_at hl 1 rfl) ?_
      obtain ⟨zi1543, eq1542, bd1544⟩ := rd_11004 ok1099 kd1102
      refine p_getN (ci := 10) (v := .int zi1543) (C := RX10) (T := TX10) (N := 20) hx hb hT iw_X10 hown hK hw hW kd1102 (by decide) rfl rfl 4 (by decide) eq1542 (hK.fl nw_96) (fun _ h9 => h9) dX0_expand_28 ?_
      refine lv_icmp_ge (tgt := 165) hx hb dX0_expand_31 (by decide) (fun cn1545 => ?_) (fun cn1545 => ?_)
      · skip
        have tf1546 : zi1543.toInt ≤ zi1097.toInt := (fa_le _ _).mp cn1545
        rw [hQ]
        exact kgz_v (n := g0) hx hb hr hlocks hS (((K, ln, Ls, hp1098), gn) : GU × Nat) hw ⟨gex, hW, ok1099, gfx, pd1100, (by omega)⟩ (show (gn - g0) ≤ gn - g0 from by omega) (show (14 * (gn - g0)) ≤ 14 * (gn - g0) from by omega) (show (gn - g0) ≤ 196608 from by omega) (show (14 * (gn - g0)) ≤ 2748928 from by omega) dX0_expand_165
      · skip
        have tf1547 : zi1097.toInt < zi1543.toInt := (fa_lt _ _).mp (Int32.not_le.mp cn1545)
        have bd1548 : (0 : Int) ≤ zi1097.toInt ∧ zi1097.toInt ≤ 15 := r_lt_x (Int32.not_le.mp cn1545) bd1103 bd1544 (by decide) (by decide)
        have bd1549 : (1 : Int) ≤ zi1543.toInt ∧ zi1543.toInt ≤ 16 := r_lt_y (Int32.not_le.mp cn1545) bd1103 bd1544 (by decide) (by decide)
        refine lv_iload hx hb dX0_expand_34 (lv_at hl 4 rfl) ?_
        refine lv_iload hx hb dX0_expand_36 (lv_at hl 6 rfl) ?_
        refine lv_ishr hx hb dX0_expand_38 (lv_topi (fun zi1550 ea1551 => ?_))
        refine lv_iconst (v := 1) hx hb dX0_expand_39 (by decide) ?_
        refine lv_iand hx hb dX0_expand_40 (lv_topi (fun zi1552 ea1553 => ?_))
        have bd1554 : (0 : Int) ≤ zi1552.toInt ∧ zi1552.toInt ≤ 1 := b_and_r ea1553 bc_1 (by decide) (by decide) (by decide)
        refine lv_if_eq (tgt := 56) hx hb dX0_expand_41 (by decide) (fun cn1555 => ?_) (fun cn1555 => ?_)
        · skip
          have bd1556 : (0 : Int) ≤ zi1552.toInt ∧ zi1552.toInt ≤ 0 := r_eq_x cn1555 bd1554 bc_0 (by decide) (by decide)
          refine lv_aload_n hx hb dX0_expand_56 rfl (lv_at hl 0 rfl) ?_
          obtain ⟨qa1558, eq1557, kd1559⟩ := rd_1000 ok1099 kd1101
          refine p_get (ci := 0) (v := .ref qa1558) (C := RX0) (T := TX0) (N := 8) hx hb hT iw_X0 hown hK hw hW kd1101 (by decide) rfl rfl 0 (by decide) eq1557 (hT _ tb_591) (fun _ h9 => h9) dX0_expand_57 ?_
          refine lv_iload_n hx hb dX0_expand_60 rfl (lv_at hl 2 rfl) ?_
          refine lv_aload_n hx hb dX0_expand_61 rfl (lv_at hl 0 rfl) ?_
          obtain ⟨qa1561, eq1560, kd1562⟩ := rd_1001 ok1099 kd1101
          refine p_get (ci := 0) (v := .ref qa1561) (C := RX0) (T := TX0) (N := 8) hx hb hT iw_X0 hown hK hw hW kd1101 (by decide) rfl rfl 1 (by decide) eq1560 (hT _ tb_592) (fun _ h9 => h9) dX0_expand_62 ?_
          refine kq_v hw hS hA (va_runV (As := [.int zi902, .ref qa1561]) (rest := []) ⟨hx, hb, hml, hown, hT⟩ (cX3_load_0 l G cy ev K ln Ls hW _ hp1098 ok1099 qa1558 zi902 qa1561 gn kd1559 kd1562 pd1100) (cwV 2 hT (good_V tb_1196 tb_1193 tb_1194 tb_1195 tb_117) rfl rfl rfl (by decide +kernel) ⟨Nat.le_of_ble_eq_true rfl, Nat.le_of_ble_eq_true rfl⟩) (pool_preV (ci := 3) hK hE hS hA hw hW kd1559 (by decide) rfl) rfl rfl hl.1 rfl (lv_room (Nat.le_of_ble_eq_true rfl)) dX0_expand_65 ⟨(show (gn - g0) + 0 ≤ 196608 from by omega), (show (14 * (gn - g0)) + 0 ≤ 2748928 from by omega)⟩) (fun hp1563 H locs hq1566 hw hS => ?_)
          obtain ⟨ok1564, F1565⟩ := hq1566
          have hw : PW G cy K ln Ls A hp1563 H := hw
          refine lv_aload_n hx hb dX0_expand_68 rfl (lv_at hl 0 rfl) ?_
          have eq1568 : hp1563 qa900 1 = .ref qa1561 := Eq.trans (Fr.at (cq := 1001) F1565 kd1101 (cd_o (by decide)) (by decide)) eq1560
          refine p_get (ci := 0) (v := .ref qa1561) (C := RX0) (T := TX0) (N := 8) hx hb hT iw_X0 hown hK hw hW kd1101 (by decide) rfl rfl 1 (by decide) eq1568 (hT _ tb_592) (fun _ h9 => h9) dX0_expand_69 ?_
          refine lv_iconst (v := 0) hx hb dX0_expand_72 (by decide) ?_
          refine p_putN (ci := 7) (v := .int 0) (ty := .int) (C := RX7) (T := TX7) (N := 13) hx hb hT iw_X7 tyX7 tyX7_ok nmX7 hown hK hw hS hW kd1562 (by decide) rfl rfl 6 (by decide) (hK.fl nw_327) (fun _ h9 => h9) rfl (by decide +kernel) rfl rfl dX0_expand_73 (fun hp1569 eh1570 H locs hw hS => ?_)
          have ok1571 := wr_8006 ok1564 kd1562 eh1570
          refine lv_aload_n hx hb dX0_expand_76 rfl (lv_at hl 0 rfl) ?_
          have eq1572 : hp1569 qa900 1 = .ref qa1561 := Eq.trans (up_at eh1570 (Or.inl (kd_ne kd1101 kd1562 (by decide)))) eq1568
          refine p_get (ci := 0) (v := .ref qa1561) (C := RX0) (T := TX0) (N := 8) hx hb hT iw_X0 hown hK hw hW kd1101 (by decide) rfl rfl 1 (by decide) eq1572 (hT _ tb_592) (fun _ h9 => h9) dX0_expand_77 ?_
          refine lv_aload_n hx hb dX0_expand_80 rfl (lv_at hl 1 rfl) ?_
          refine lv_iload hx hb dX0_expand_81 (lv_at hl 6 rfl) ?_
          refine kq_i hw hS hA (va_runV (As := [.ref qa901, .int zi1097]) (rest := []) ⟨hx, hb, hml, hown, hT⟩ (cX7_utter_0 l G cy ev K ln Ls hW _ hp1569 ok1571 qa1561 qa901 zi1097 kd1562 kd1102 (b_wid2 bd1548 (by decide) (by decide))) (cwV 2 hT (good_V tb_1059 tb_1198 tb_1057 tb_1058 tb_115) rfl rfl rfl (by decide +kernel) ⟨Nat.le_of_ble_eq_true rfl, Nat.le_of_ble_eq_true rfl⟩) (pool_preV (ci := 7) hK hE hS hA hw hW kd1562 (by decide) rfl) rfl rfl hl.1 rfl (lv_room (Nat.le_of_ble_eq_true rfl)) dX0_expand_83 ⟨(show (gn - g0) + 0 ≤ 196608 from by omega), (show (14 * (gn - g0)) + 0 ≤ 2748928 from by omega)⟩) (fun zi1577 hp1573 H locs hq1576 hw hS => ?_)
          obtain ⟨ok1574, F1575, bd1578⟩ := hq1576
          have hw : PW G cy K ln Ls A hp1573 H := hw
          refine lv_pop hx hb dX0_expand_86 rfl ?_
          refine lv_aload_n hx hb dX0_expand_87 rfl (lv_at hl 0 rfl) ?_
          have eq1579 : hp1573 qa900 1 = .ref qa1561 := Eq.trans (Fr.at (cq := 1001) F1575 kd1101 (cd_o (by decide)) (by decide)) eq1572
          refine p_get (ci := 0) (v := .ref qa1561) (C := RX0) (T := TX0) (N := 8) hx hb hT iw_X0 hown hK hw hW kd1101 (by decide) rfl rfl 1 (by decide) eq1579 (hT _ tb_592) (fun _ h9 => h9) dX0_expand_88 ?_
          obtain ⟨zi1581, eq1580⟩ := rd_8006 ok1574 kd1562
          refine p_getN (ci := 7) (v := .int zi1581) (C := RX7) (T := TX7) (N := 13) hx hb hT iw_X7 hown hK hw hW kd1562 (by decide) rfl rfl 6 (by decide) eq1580 (hK.fl nw_327) (fun _ h9 => h9) dX0_expand_91 ?_
          refine lv_aload_n hx hb dX0_expand_94 rfl (lv_at hl 0 rfl) ?_
          obtain ⟨zi1583, eq1582⟩ := rd_1007 ok1574 kd1101
          refine p_get (ci := 0) (v := .int zi1583) (C := RX0) (T := TX0) (N := 8) hx hb hT iw_X0 hown hK hw hW kd1101 (by decide) rfl rfl 7 (by decide) eq1582 (hT _ tb_602) (fun _ h9 => h9) dX0_expand_95 ?_
          refine lv_ishr hx hb dX0_expand_98 (lv_topi (fun zi1584 ea1585 => ?_))
          refine lv_iconst (v := 1) hx hb dX0_expand_99 (by decide) ?_
          refine lv_iand hx hb dX0_expand_100 (lv_topi (fun zi1586 ea1587 => ?_))
          have bd1588 : (0 : Int) ≤ zi1586.toInt ∧ zi1586.toInt ≤ 1 := b_and_r ea1587 bc_1 (by decide) (by decide) (by decide)
          refine lv_if_eq (tgt := 107) hx hb dX0_expand_101 (by decide) (fun cn1589 => ?_) (fun cn1589 => ?_)
          · skip
            have bd1590 : (0 : Int) ≤ zi1586.toInt ∧ zi1586.toInt ≤ 0 := r_eq_x cn1589 bd1588 bc_0 (by decide) (by decide)
            refine lv_aload_n hx hb dX0_expand_107 rfl (lv_at hl 0 rfl) ?_
            refine p_get (ci := 0) (v := .ref qa1561) (C := RX0) (T := TX0) (N := 8) hx hb hT iw_X0 hown hK hw hW kd1101 (by decide) rfl rfl 1 (by decide) eq1579 (hT _ tb_592) (fun _ h9 => h9) dX0_expand_108 ?_
            refine p_getN (ci := 7) (v := .int zi1581) (C := RX7) (T := TX7) (N := 13) hx hb hT iw_X7 hown hK hw hW kd1562 (by decide) rfl rfl 6 (by decide) eq1580 (hK.fl nw_327) (fun _ h9 => h9) dX0_expand_111 ?_
            refine lv_aload_n hx hb dX0_expand_114 rfl (lv_at hl 0 rfl) ?_
            obtain ⟨zi1592, eq1591⟩ := rd_1006 ok1574 kd1101
            refine p_get (ci := 0) (v := .int zi1592) (C := RX0) (T := TX0) (N := 8) hx hb hT iw_X0 hown hK hw hW kd1101 (by decide) rfl rfl 6 (by decide) eq1591 (hT _ tb_601) (fun _ h9 => h9) dX0_expand_115 ?_
            refine lv_ishr hx hb dX0_expand_118 (lv_topi (fun zi1593 ea1594 => ?_))
            refine lv_iconst (v := 1) hx hb dX0_expand_119 (by decide) ?_
            refine lv_iand hx hb dX0_expand_120 (lv_topi (fun zi1595 ea1596 => ?_))
            have bd1597 : (0 : Int) ≤ zi1595.toInt ∧ zi1595.toInt ≤ 1 := b_and_r ea1596 bc_1 (by decide) (by decide) (by decide)
            refine lv_if_eq (tgt := 134) hx hb dX0_expand_121 (by decide) (fun cn1598 => ?_) (fun cn1598 => ?_)
            · skip
              have bd1599 : (0 : Int) ≤ zi1595.toInt ∧ zi1595.toInt ≤ 0 := r_eq_x cn1598 bd1597 bc_0 (by decide) (by decide)
              refine lv_iload_n hx hb dX0_expand_134 rfl (lv_at hl 3 rfl) ?_
              refine lv_iconst (v := 4) hx hb dX0_expand_135 (by decide) ?_
              refine lv_icmp_ge (tgt := 159) hx hb dX0_expand_136 (by decide) (fun cn1600 => ?_) (fun cn1600 => ?_)
              · skip
                have bd1601 : (4 : Int) ≤ zi903.toInt ∧ zi903.toInt ≤ 4 := r_le_y cn1600 bc_4 bd903 (by decide) (by decide)
                obtain ⟨zi1602, ea1603⟩ : ∃ z : Int32, z = zi1097 + 1 := ⟨_, rfl⟩
                have bd1604 : (1 : Int) ≤ zi1602.toInt ∧ zi1602.toInt ≤ 16 := b_iadd ea1603 bd1548 bc_1 (by decide) (by decide) (by decide) (by decide)
                have qe1605 : zi1602.toInt = (zi1097 : Int32).toInt + (1 : Int32).toInt := e_iadd ea1603 bd1548 bc_1 (by decide) (by decide)
                have qe1606 : zi1602.toInt = zi1097.toInt + 1 := by have ha : (1 : Int32).toInt = 1 := (by decide); rw [ha] at qe1605; exact qe1605
                refine lv_iinc (v := zi1602) (lv' := [(6, .int zi1602), (0, .ref qa900), (1, .ref qa901), (2, .int zi902), (3, .int zi903), (4, .int zi10), (5, .int zi15)]) hx hb dX0_expand_159 hl (k := 6) rfl ea1603.symm (by decide) rfl (fun ls hl => ?_)
                refine lv_goto (tgt := 25) hx hb dX0_expand_162 (by decide) ?_
                have pd1607 : NSx K ln hp1573 gn := NSx_fr ok1099  (show Fr [3003, 3004, 8000, 8001, 8002, 8004, 8006, 8008, 27000, 40000, 41000, 42000] K hp1098 hp1573 from (Fr.tr (Fr.put (cq := 8006) (Fr.tr (Fr.rf) F1565 (by decide)) eh1570 kd1562 (cd_o (by decide)) (by decide)) F1575 (by decide))) (by decide) pd1100
                exact ih1539 K ln Ls gn hp1573 zi1602 _ _ ls (by have := hm1541; have := qe1606; omega) hW gex (FrX.tr gfx gex (FrX.of (show Fr [3003, 3004, 8000, 8001, 8002, 8004, 8006, 8008, 27000, 40000, 41000, 42000] K hp1098 hp1573 from (Fr.tr (Fr.put (cq := 8006) (Fr.tr (Fr.rf) F1565 (by decide)) eh1570 kd1562 (cd_o (by decide)) (by decide)) F1575 (by decide)))) (by decide +kernel)) ok1574 pd1607 (by omega) kd1101 kd1102 (b_wid2 bd1604 (by decide) (by decide)) (lv_sub hl [1, 2, 3, 4, 5, 6, 0] rfl) hw hS
              · skip
                have bd1608 : (1 : Int) ≤ zi903.toInt ∧ zi903.toInt ≤ 3 := r_lt_x (Int32.not_le.mp cn1600) bd903 bc_4 (by decide) (by decide)
                refine lv_aload_n hx hb dX0_expand_139 rfl (lv_at hl 0 rfl) ?_
                have eq1609 : hp1573 qa900 0 = .ref qa1558 := Eq.trans (Fr.at (cq := 1000) F1575 kd1101 (cd_o (by decide)) (by decide)) (Eq.trans (up_at eh1570 (Or.inl (kd_ne kd1101 kd1562 (by decide)))) (Eq.trans (Fr.at (cq := 1000) F1565 kd1101 (cd_o (by decide)) (by decide)) eq1557))
                refine p_get (ci := 0) (v := .ref qa1558) (C := RX0) (T := TX0) (N := 8) hx hb hT iw_X0 hown hK hw hW kd1101 (by decide) rfl rfl 0 (by decide) eq1609 (hT _ tb_591) (fun _ h9 => h9) dX0_expand_140 ?_
                refine lv_aload_n hx hb dX0_expand_143 rfl (lv_at hl 0 rfl) ?_
                refine p_get (ci := 0) (v := .ref qa1561) (C := RX0) (T := TX0) (N := 8) hx hb hT iw_X0 hown hK hw hW kd1101 (by decide) rfl rfl 1 (by decide) eq1579 (hT _ tb_592) (fun _ h9 => h9) dX0_expand_144 ?_
                refine lv_iload_n hx hb dX0_expand_147 rfl (lv_at hl 2 rfl) ?_
                refine lv_bipush (v := 16) hx hb dX0_expand_148 (by decide) ?_
                refine lv_imul hx hb dX0_expand_150 (lv_topi (fun zi1610 ea1611 => ?_))
                have bd1612 : (0 : Int) ≤ zi1610.toInt ∧ zi1610.toInt ≤ 2097136 := b_imul ea1611 bd902 bc_16 (by decide) (by decide) (by decide) (by decide) (by decide)
                have qe1613 : zi1610.toInt = (zi902 : Int32).toInt * (16 : Int32).toInt := e_imul (b := 131071) (d := 16) ea1611 (b_wid2 bd902 (by decide) (by decide)) (b_wid2 bc_16 (by decide) (by decide)) (by decide)
                have qe1614 : zi1610.toInt = zi902.toInt * 16 := by have ha : (16 : Int32).toInt = 16 := (by decide); rw [ha] at qe1613; exact qe1613
                refine lv_iload hx hb dX0_expand_151 (lv_at hl 6 rfl) ?_
                refine lv_iadd hx hb dX0_expand_153 (lv_topi (fun zi1615 ea1616 => ?_))
                have bd1617 : (0 : Int) ≤ zi1615.toInt ∧ zi1615.toInt ≤ 2097151 := b_iadd ea1616 bd1612 bd1548 (by decide) (by decide) (by decide) (by decide)
                have qe1618 : zi1615.toInt = zi1610.toInt + zi1097.toInt := e_iadd ea1616 bd1612 bd1548 (by decide) (by decide)
                refine lv_lconst (v := 1) hx hb dX0_expand_154 (by decide) ?_
                refine lv_iconst (v := 0) hx hb dX0_expand_155 (by decide) ?_
                have pd1619 : NSx K ln hp1573 gn := NSx_fr ok1099  (show Fr [3003, 3004, 8000, 8001, 8002, 8004, 8006, 8008, 27000, 40000, 41000, 42000] K hp1098 hp1573 from (Fr.tr (Fr.put (cq := 8006) (Fr.tr (Fr.rf) F1565 (by decide)) eh1570 kd1562 (cd_o (by decide)) (by decide)) F1575 (by decide))) (by decide) pd1100
                have gf1627 : FrX wsC K0 hp0 hp1573 := (FrX.tr gfx gex (FrX.of (show Fr [3003, 3004, 8000, 8001, 8002, 8004, 8006, 8008, 27000, 40000, 41000, 42000] K hp1098 hp1573 from (Fr.tr (Fr.put (cq := 8006) (Fr.tr (Fr.rf) F1565 (by decide)) eh1570 kd1562 (cd_o (by decide)) (by decide)) F1575 (by decide)))) (by decide +kernel))
                refine kg_v hw hS hA (va_runV (As := [.ref qa1561, .int zi1615, .long 1, .int 0]) (rest := []) ⟨hx, hb, hml, hown, hT⟩ (Met.szx (cX3_add_vG_0 l G cy ev K ln Ls hW _ hp1573 ok1574 qa1558 qa1561 zi1615 1 0 gn kd1559 kd1562 pd1619)) (cwV 4 hT (good_V tb_1142 tb_1139 tb_1140 tb_1141 tb_117) rfl rfl rfl (by decide +kernel) ⟨Nat.le_of_ble_eq_true rfl, Nat.le_of_ble_eq_true rfl⟩) (pool_preV (ci := 3) hK hE hS hA hw hW kd1559 (by decide) rfl) rfl rfl hl.1 rfl (lv_room (Nat.le_of_ble_eq_true rfl)) dX0_expand_156 ⟨(show (gn - g0) + 65536 ≤ 196608 from by omega), (show (14 * (gn - g0)) + 917504 ≤ 2748928 from by omega)⟩) (fun u gn H locs hq1620 hw hS => ?_)
                obtain ⟨K, ln, Ls, hp1621⟩ := u
                obtain ⟨ex1623, hW, ok1622, fx1624, pd1625, hle1626⟩ := hq1620
                have ex1623 : EXx _ _ K ln := ex1623
                have hW : SW K ln Ls := hW
                have ok1622 : Ok K hp1621 := ok1622
                have fx1624 : FrX _ _ _ hp1621 := fx1624
                have pd1625 : NSx K ln hp1621 gn := pd1625
                have hle1626 : _ ≤ gn := hle1626
                have hw : PW G cy K ln Ls A hp1621 H := hw
                have gfx : FrX wsC K0 hp0 hp1621 := FrX.tr gf1627 gex fx1624 (by decide +kernel)
                have gex := EXx.tr gex ex1623
                have kd1630 := EXx.kd ex1623 kd1101 (by decide)
                have kd1631 := EXx.kd ex1623 kd1102 (by decide)
                (try clear kd1101); (try clear kd1102); (try clear kd1559); (try clear kd1562)
                have hgn := NSx.bd pd1625
                refine W.widen (k := gn - g0) (n := 14 * (gn - g0)) (by omega) (by omega) ?_
                have hga : g0 ≤ gn := by omega
                obtain ⟨zi1632, ea1633⟩ : ∃ z : Int32, z = zi1097 + 1 := ⟨_, rfl⟩
                have bd1634 : (1 : Int) ≤ zi1632.toInt ∧ zi1632.toInt ≤ 16 := b_iadd ea1633 bd1548 bc_1 (by decide) (by decide) (by decide) (by decide)
                have qe1635 : zi1632.toInt = (zi1097 : Int32).toInt + (1 : Int32).toInt := e_iadd ea1633 bd1548 bc_1 (by decide) (by decide)
                have qe1636 : zi1632.toInt = zi1097.toInt + 1 := by have ha : (1 : Int32).toInt = 1 := (by decide); rw [ha] at qe1635; exact qe1635
                refine lv_iinc (v := zi1632) (lv' := [(6, .int zi1632), (0, .ref qa900), (1, .ref qa901), (2, .int zi902), (3, .int zi903), (4, .int zi10), (5, .int zi15)]) hx hb dX0_expand_159 hl (k := 6) rfl ea1633.symm (by decide) rfl (fun ls hl => ?_)
                refine lv_goto (tgt := 25) hx hb dX0_expand_162 (by decide) ?_
                exact ih1539 K ln Ls gn hp1621 zi1632 _ _ ls (by have := hm1541; have := qe1636; omega) hW gex gfx ok1622 pd1625 (by omega) kd1630 kd1631 (b_wid2 bd1634 (by decide) (by decide)) (lv_sub hl [1, 2, 3, 4, 5, 6, 0] rfl) hw hS
            · skip
              have tf1637 : (zi1595 : Int32).toInt ≠ (0 : Int32).toInt := fun e => cn1598 (Int32.toInt_inj.mp e)
              have := toi bc_0
              have bd1638 : (1 : Int) ≤ zi1595.toInt ∧ zi1595.toInt ≤ 1 := r_ne_lo cn1598 bd1597 (toi bc_0) (by decide) (by decide)
              refine lv_aload_n hx hb dX0_expand_124 rfl (lv_at hl 0 rfl) ?_
              refine lv_aload_n hx hb dX0_expand_125 rfl (lv_at hl 1 rfl) ?_
              refine lv_iload_n hx hb dX0_expand_126 rfl (lv_at hl 2 rfl) ?_
              refine lv_iload hx hb dX0_expand_127 (lv_at hl 6 rfl) ?_
              refine lv_iload_n hx hb dX0_expand_129 rfl (lv_at hl 3 rfl) ?_
              have pd1639 : NSx K ln hp1573 gn := NSx_fr ok1099  (show Fr [3003, 3004, 8000, 8001, 8002, 8004, 8006, 8008, 27000, 40000, 41000, 42000] K hp1098 hp1573 from (Fr.tr (Fr.put (cq := 8006) (Fr.tr (Fr.rf) F1565 (by decide)) eh1570 kd1562 (cd_o (by decide)) (by decide)) F1575 (by decide))) (by decide) pd1100
              refine kq_v hw hS hA (va_runV (As := [.ref qa901, .int zi902, .int zi1097, .int zi903]) (rest := []) ⟨hx, hb, hml, hown, hT⟩ (cX0_keepPath_0 l G cy ev K ln Ls hW _ hp1573 ok1574 qa900 qa901 zi902 zi1097 zi903 gn kd1101 kd1102 (b_wid2 bd903 (by decide) (by decide)) pd1639) (cwV 4 hT (good_V tb_1202 tb_1199 tb_1201 tb_37 tb_120) rfl rfl rfl (by decide +kernel) ⟨Nat.le_of_ble_eq_true rfl, Nat.le_of_ble_eq_true rfl⟩) (pool_preV (ci := 0) hK hE hS hA hw hW kd1101 (by decide) rfl) rfl rfl hl.1 rfl (lv_room (Nat.le_of_ble_eq_true rfl)) dX0_expand_130 ⟨(show (gn - g0) + 0 ≤ 196608 from by omega), (show (14 * (gn - g0)) + 0 ≤ 2748928 from by omega)⟩) (fun hp1640 H locs hq1643 hw hS => ?_)
              obtain ⟨ok1641, F1642⟩ := hq1643
              have hw : PW G cy K ln Ls A hp1640 H := hw
              rw [hQ]
              have pd1645 : NSx K ln hp1640 gn := NSx_fr ok1574  (show Fr [1003, 1004, 20000] K hp1573 hp1640 from (Fr.tr (Fr.rf) F1642 (by decide))) (by decide) pd1639
              exact kgz_v (n := g0) hx hb hr hlocks hS (((K, ln, Ls, hp1640), gn) : GU × Nat) hw ⟨gex, hW, ok1641, (FrX.tr gfx gex (FrX.of (show Fr [1003, 1004, 3003, 3004, 8000, 8001, 8002, 8004, 8006, 8008, 20000, 27000, 40000, 41000, 42000] K hp1098 hp1640 from (Fr.tr (Fr.tr (Fr.put (cq := 8006) (Fr.tr (Fr.rf) F1565 (by decide)) eh1570 kd1562 (cd_o (by decide)) (by decide)) F1575 (by decide)) F1642 (by decide)))) (by decide +kernel)), pd1645, (by omega)⟩ (show (gn - g0) ≤ gn - g0 from by omega) (show (14 * (gn - g0)) ≤ 14 * (gn - g0) from by omega) (show (gn - g0) ≤ 196608 from by omega) (show (14 * (gn - g0)) ≤ 2748928 from by omega) dX0_expand_133
          · skip
            have tf1646 : (zi1586 : Int32).toInt ≠ (0 : Int32).toInt := fun e => cn1589 (Int32.toInt_inj.mp e)
            have := toi bc_0
            have bd1647 : (1 : Int) ≤ zi1586.toInt ∧ zi1586.toInt ≤ 1 := r_ne_lo cn1589 bd1588 (toi bc_0) (by decide) (by decide)
            refine lv_goto (tgt := 159) hx hb dX0_expand_104 (by decide) ?_
            obtain ⟨zi1648, ea1649⟩ : ∃ z : Int32, z = zi1097 + 1 := ⟨_, rfl⟩
            have bd1650 : (1 : Int) ≤ zi1648.toInt ∧ zi1648.toInt ≤ 16 := b_iadd ea1649 bd1548 bc_1 (by decide) (by decide) (by decide) (by decide)
            have qe1651 : zi1648.toInt = (zi1097 : Int32).toInt + (1 : Int32).toInt := e_iadd ea1649 bd1548 bc_1 (by decide) (by decide)
            have qe1652 : zi1648.toInt = zi1097.toInt + 1 := by have ha : (1 : Int32).toInt = 1 := (by decide); rw [ha] at qe1651; exact qe1651
            refine lv_iinc (v := zi1648) (lv' := [(6, .int zi1648), (0, .ref qa900), (1, .ref qa901), (2, .int zi902), (3, .int zi903), (4, .int zi10), (5, .int zi15)]) hx hb dX0_expand_159 hl (k := 6) rfl ea1649.symm (by decide) rfl (fun ls hl => ?_)
            refine lv_goto (tgt := 25) hx hb dX0_expand_162 (by decide) ?_
            have pd1653 : NSx K ln hp1573 gn := NSx_fr ok1099  (show Fr [3003, 3004, 8000, 8001, 8002, 8004, 8006, 8008, 27000, 40000, 41000, 42000] K hp1098 hp1573 from (Fr.tr (Fr.put (cq := 8006) (Fr.tr (Fr.rf) F1565 (by decide)) eh1570 kd1562 (cd_o (by decide)) (by decide)) F1575 (by decide))) (by decide) pd1100
            exact ih1539 K ln Ls gn hp1573 zi1648 _ _ ls (by have := hm1541; have := qe1652; omega) hW gex (FrX.tr gfx gex (FrX.of (show Fr [3003, 3004, 8000, 8001, 8002, 8004, 8006, 8008, 27000, 40000, 41000, 42000] K hp1098 hp1573 from (Fr.tr (Fr.put (cq := 8006) (Fr.tr (Fr.rf) F1565 (by decide)) eh1570 kd1562 (cd_o (by decide)) (by decide)) F1575 (by decide)))) (by decide +kernel)) ok1574 pd1653 (by omega) kd1101 kd1102 (b_wid2 bd1650 (by decide) (by decide)) (lv_sub hl [1, 2, 3, 4, 5, 6, 0] rfl) hw hS
        · skip
          have tf1654 : (zi1552 : Int32).toInt ≠ (0 : Int32).toInt := fun e => cn1555 (Int32.toInt_inj.mp e)
          have := toi bc_0
          have bd1655 : (1 : Int) ≤ zi1552.toInt ∧ zi1552.toInt ≤ 1 := r_ne_lo cn1555 bd1554 (toi bc_0) (by decide) (by decide)
          refine lv_iconst (v := 1) hx hb dX0_expand_44 (by decide) ?_
          refine lv_iload hx hb dX0_expand_45 (lv_at hl 6 rfl) ?_
          refine lv_ishl hx hb dX0_expand_47 (lv_topi (fun zi1656 ea1657 => ?_))
          have bd1658 : (1 : Int) ≤ zi1656.toInt ∧ zi1656.toInt ≤ 32768 := b_shl1 15 ea1657 bd1548 (by decide) (by decide) (by decide) (by decide) (by decide)
          refine lv_iload hx hb dX0_expand_48 (lv_at hl 5 rfl) ?_
          refine lv_icmp_eq (tgt := 56) hx hb dX0_expand_50 (by decide) (fun cn1659 => ?_) (fun cn1659 => ?_)
          · skip
            have tf1660 : zi1656.toInt = zi15.toInt := congrArg Int32.toInt cn1659
            have bd1661 : (1 : Int) ≤ zi15.toInt ∧ zi15.toInt ≤ 32768 := r_eq_x (cn1659).symm bd17 bd1658 (by decide) (by decide)
            refine lv_aload_n hx hb dX0_expand_56 rfl (lv_at hl 0 rfl) ?_
            obtain ⟨qa1663, eq1662, kd1664⟩ := rd_1000 ok1099 kd1101
            refine p_get (ci := 0) (v := .ref qa1663) (C := RX0) (T := TX0) (N := 8) hx hb hT iw_X0 hown hK hw hW kd1101 (by decide) rfl rfl 0 (by decide) eq1662 (hT _ tb_591) (fun _ h9 => h9) dX0_expand_57 ?_
            refine lv_iload_n hx hb dX0_expand_60 rfl (lv_at hl 2 rfl) ?_
            refine lv_aload_n hx hb dX0_expand_61 rfl (lv_at hl 0 rfl) ?_
            obtain ⟨qa1666, eq1665, kd1667⟩ := rd_1001 ok1099 kd1101
            refine p_get (ci := 0) (v := .ref qa1666) (C := RX0) (T := TX0) (N := 8) hx hb hT iw_X0 hown hK hw hW kd1101 (by decide) rfl rfl 1 (by decide) eq1665 (hT _ tb_592) (fun _ h9 => h9) dX0_expand_62 ?_
            refine kq_v hw hS hA (va_runV (As := [.int zi902, .ref qa1666]) (rest := []) ⟨hx, hb, hml, hown, hT⟩ (cX3_load_0 l G cy ev K ln Ls hW _ hp1098 ok1099 qa1663 zi902 qa1666 gn kd1664 kd1667 pd1100) (cwV 2 hT (good_V tb_1196 tb_1193 tb_1194 tb_1195 tb_117) rfl rfl rfl (by decide +kernel) ⟨Nat.le_of_ble_eq_true rfl, Nat.le_of_ble_eq_true rfl⟩) (pool_preV (ci := 3) hK hE hS hA hw hW kd1664 (by decide) rfl) rfl rfl hl.1 rfl (lv_room (Nat.le_of_ble_eq_true rfl)) dX0_expand_65 ⟨(show (gn - g0) + 0 ≤ 196608 from by omega), (show (14 * (gn - g0)) + 0 ≤ 2748928 from by omega)⟩) (fun hp1668 H locs hq1671 hw hS => ?_)
            obtain ⟨ok1669, F1670⟩ := hq1671
            have hw : PW G cy K ln Ls A hp1668 H := hw
            refine lv_aload_n hx hb dX0_expand_68 rfl (lv_at hl 0 rfl) ?_
            have eq1673 : hp1668 qa900 1 = .ref qa1666 := Eq.trans (Fr.at (cq := 1001) F1670 kd1101 (cd_o (by decide)) (by decide)) eq1665
            refine p_get (ci := 0) (v := .ref qa1666) (C := RX0) (T := TX0) (N := 8) hx hb hT iw_X0 hown hK hw hW kd1101 (by decide) rfl rfl 1 (by decide) eq1673 (hT _ tb_592) (fun _ h9 => h9) dX0_expand_69 ?_
            refine lv_iconst (v := 0) hx hb dX0_expand_72 (by decide) ?_
            refine p_putN (ci := 7) (v := .int 0) (ty := .int) (C := RX7) (T := TX7) (N := 13) hx hb hT iw_X7 tyX7 tyX7_ok nmX7 hown hK hw hS hW kd1667 (by decide) rfl rfl 6 (by decide) (hK.fl nw_327) (fun _ h9 => h9) rfl (by decide +kernel) rfl rfl dX0_expand_73 (fun hp1674 eh1675 H locs hw hS => ?_)
            have ok1676 := wr_8006 ok1669 kd1667 eh1675
            refine lv_aload_n hx hb dX0_expand_76 rfl (lv_at hl 0 rfl) ?_
            have eq1677 : hp1674 qa900 1 = .ref qa1666 := Eq.trans (up_at eh1675 (Or.inl (kd_ne kd1101 kd1667 (by decide)))) eq1673
            refine p_get (ci := 0) (v := .ref qa1666) (C := RX0) (T := TX0) (N := 8) hx hb hT iw_X0 hown hK hw hW kd1101 (by decide) rfl rfl 1 (by decide) eq1677 (hT _ tb_592) (fun _ h9 => h9) dX0_expand_77 ?_
            refine lv_aload_n hx hb dX0_expand_80 rfl (lv_at hl 1 rfl) ?_
            refine lv_iload hx hb dX0_expand_81 (lv_at hl 6 rfl) ?_
            refine kq_i hw hS hA (va_runV (As := [.ref qa901, .int zi1097]) (rest := []) ⟨hx, hb, hml, hown, hT⟩ (cX7_utter_0 l G cy ev K ln Ls hW _ hp1674 ok1676 qa1666 qa901 zi1097 kd1667 kd1102 (b_wid2 bd1548 (by decide) (by decide))) (cwV 2 hT (good_V tb_1059 tb_1198 tb_1057 tb_1058 tb_115) rfl rfl rfl (by decide +kernel) ⟨Nat.le_of_ble_eq_true rfl, Nat.le_of_ble_eq_true rfl⟩) (pool_preV (ci := 7) hK hE hS hA hw hW kd1667 (by decide) rfl) rfl rfl hl.1 rfl (lv_room (Nat.le_of_ble_eq_true rfl)) dX0_expand_83 ⟨(show (gn - g0) + 0 ≤ 196608 from by omega), (show (14 * (gn - g0)) + 0 ≤ 2748928 from by omega)⟩) (fun zi1682 hp1678 H locs hq1681 hw hS => ?_)
            obtain ⟨ok1679, F1680, bd1683⟩ := hq1681
            have hw : PW G cy K ln Ls A hp1678 H := hw
            refine lv_pop hx hb dX0_expand_86 rfl ?_
            refine lv_aload_n hx hb dX0_expand_87 rfl (lv_at hl 0 rfl) ?_
            have eq1684 : hp1678 qa900 1 = .ref qa1666 := Eq.trans (Fr.at (cq := 1001) F1680 kd1101 (cd_o (by decide)) (by decide)) eq1677
            refine p_get (ci := 0) (v := .ref qa1666) (C := RX0) (T := TX0) (N := 8) hx hb hT iw_X0 hown hK hw hW kd1101 (by decide) rfl rfl 1 (by decide) eq1684 (hT _ tb_592) (fun _ h9 => h9) dX0_expand_88 ?_
            obtain ⟨zi1686, eq1685⟩ := rd_8006 ok1679 kd1667
            refine p_getN (ci := 7) (v := .int zi1686) (C := RX7) (T := TX7) (N := 13) hx hb hT iw_X7 hown hK hw hW kd1667 (by decide) rfl rfl 6 (by decide) eq1685 (hK.fl nw_327) (fun _ h9 => h9) dX0_expand_91 ?_
            refine lv_aload_n hx hb dX0_expand_94 rfl (lv_at hl 0 rfl) ?_
            obtain ⟨zi1688, eq1687⟩ := rd_1007 ok1679 kd1101
            refine p_get (ci := 0) (v := .int zi1688) (C := RX0) (T := TX0) (N := 8) hx hb hT iw_X0 hown hK hw hW kd1101 (by decide) rfl rfl 7 (by decide) eq1687 (hT _ tb_602) (fun _ h9 => h9) dX0_expand_95 ?_
            refine lv_ishr hx hb dX0_expand_98 (lv_topi (fun zi1689 ea1690 => ?_))
            refine lv_iconst (v := 1) hx hb dX0_expand_99 (by decide) ?_
            refine lv_iand hx hb dX0_expand_100 (lv_topi (fun zi1691 ea1692 => ?_))
            have bd1693 : (0 : Int) ≤ zi1691.toInt ∧ zi1691.toInt ≤ 1 := b_and_r ea1692 bc_1 (by decide) (by decide) (by decide)
            refine lv_if_eq (tgt := 107) hx hb dX0_expand_101 (by decide) (fun cn1694 => ?_) (fun cn1694 => ?_)
            · skip
              have bd1695 : (0 : Int) ≤ zi1691.toInt ∧ zi1691.toInt ≤ 0 := r_eq_x cn1694 bd1693 bc_0 (by decide) (by decide)
              refine lv_aload_n hx hb dX0_expand_107 rfl (lv_at hl 0 rfl) ?_
              refine p_get (ci := 0) (v := .ref qa1666) (C := RX0) (T := TX0) (N := 8) hx hb hT iw_X0 hown hK hw hW kd1101 (by decide) rfl rfl 1 (by decide) eq1684 (hT _ tb_592) (fun _ h9 => h9) dX0_expand_108 ?_
              refine p_getN (ci := 7) (v := .int zi1686) (C := RX7) (T := TX7) (N := 13) hx hb hT iw_X7 hown hK hw hW kd1667 (by decide) rfl rfl 6 (by decide) eq1685 (hK.fl nw_327) (fun _ h9 => h9) dX0_expand_111 ?_
              refine lv_aload_n hx hb dX0_expand_114 rfl (lv_at hl 0 rfl) ?_
              obtain ⟨zi1697, eq1696⟩ := rd_1006 ok1679 kd1101
              refine p_get (ci := 0) (v := .int zi1697) (C := RX0) (T := TX0) (N := 8) hx hb hT iw_X0 hown hK hw hW kd1101 (by decide) rfl rfl 6 (by decide) eq1696 (hT _ tb_601) (fun _ h9 => h9) dX0_expand_115 ?_
              refine lv_ishr hx hb dX0_expand_118 (lv_topi (fun zi1698 ea1699 => ?_))
              refine lv_iconst (v := 1) hx hb dX0_expand_119 (by decide) ?_
              refine lv_iand hx hb dX0_expand_120 (lv_topi (fun zi1700 ea1701 => ?_))
              have bd1702 : (0 : Int) ≤ zi1700.toInt ∧ zi1700.toInt ≤ 1 := b_and_r ea1701 bc_1 (by decide) (by decide) (by decide)
              refine lv_if_eq (tgt := 134) hx hb dX0_expand_121 (by decide) (fun cn1703 => ?_) (fun cn1703 => ?_)
              · skip
                have bd1704 : (0 : Int) ≤ zi1700.toInt ∧ zi1700.toInt ≤ 0 := r_eq_x cn1703 bd1702 bc_0 (by decide) (by decide)
                refine lv_iload_n hx hb dX0_expand_134 rfl (lv_at hl 3 rfl) ?_
                refine lv_iconst (v := 4) hx hb dX0_expand_135 (by decide) ?_
                refine lv_icmp_ge (tgt := 159) hx hb dX0_expand_136 (by decide) (fun cn1705 => ?_) (fun cn1705 => ?_)
                · skip
                  have bd1706 : (4 : Int) ≤ zi903.toInt ∧ zi903.toInt ≤ 4 := r_le_y cn1705 bc_4 bd903 (by decide) (by decide)
                  obtain ⟨zi1707, ea1708⟩ : ∃ z : Int32, z = zi1097 + 1 := ⟨_, rfl⟩
                  have bd1709 : (1 : Int) ≤ zi1707.toInt ∧ zi1707.toInt ≤ 16 := b_iadd ea1708 bd1548 bc_1 (by decide) (by decide) (by decide) (by decide)
                  have qe1710 : zi1707.toInt = (zi1097 : Int32).toInt + (1 : Int32).toInt := e_iadd ea1708 bd1548 bc_1 (by decide) (by decide)
                  have qe1711 : zi1707.toInt = zi1097.toInt + 1 := by have ha : (1 : Int32).toInt = 1 := (by decide); rw [ha] at qe1710; exact qe1710
                  refine lv_iinc (v := zi1707) (lv' := [(6, .int zi1707), (0, .ref qa900), (1, .ref qa901), (2, .int zi902), (3, .int zi903), (4, .int zi10), (5, .int zi15)]) hx hb dX0_expand_159 hl (k := 6) rfl ea1708.symm (by decide) rfl (fun ls hl => ?_)
                  refine lv_goto (tgt := 25) hx hb dX0_expand_162 (by decide) ?_
                  have pd1712 : NSx K ln hp1678 gn := NSx_fr ok1099  (show Fr [3003, 3004, 8000, 8001, 8002, 8004, 8006, 8008, 27000, 40000, 41000, 42000] K hp1098 hp1678 from (Fr.tr (Fr.put (cq := 8006) (Fr.tr (Fr.rf) F1670 (by decide)) eh1675 kd1667 (cd_o (by decide)) (by decide)) F1680 (by decide))) (by decide) pd1100
                  exact ih1539 K ln Ls gn hp1678 zi1707 _ _ ls (by have := hm1541; have := qe1711; omega) hW gex (FrX.tr gfx gex (FrX.of (show Fr [3003, 3004, 8000, 8001, 8002, 8004, 8006, 8008, 27000, 40000, 41000, 42000] K hp1098 hp1678 from (Fr.tr (Fr.put (cq := 8006) (Fr.tr (Fr.rf) F1670 (by decide)) eh1675 kd1667 (cd_o (by decide)) (by decide)) F1680 (by decide)))) (by decide +kernel)) ok1679 pd1712 (by omega) kd1101 kd1102 (b_wid2 bd1709 (by decide) (by decide)) (lv_sub hl [1, 2, 3, 4, 5, 6, 0] rfl) hw hS
                · skip
                  have bd1713 : (1 : Int) ≤ zi903.toInt ∧ zi903.toInt ≤ 3 := r_lt_x (Int32.not_le.mp cn1705) bd903 bc_4 (by decide) (by decide)
                  refine lv_aload_n hx hb dX0_expand_139 rfl (lv_at hl 0 rfl) ?_
                  have eq1714 : hp1678 qa900 0 = .ref qa1663 := Eq.trans (Fr.at (cq := 1000) F1680 kd1101 (cd_o (by decide)) (by decide)) (Eq.trans (up_at eh1675 (Or.inl (kd_ne kd1101 kd1667 (by decide)))) (Eq.trans (Fr.at (cq := 1000) F1670 kd1101 (cd_o (by decide)) (by decide)) eq1662))
                  refine p_get (ci := 0) (v := .ref qa1663) (C := RX0) (T := TX0) (N := 8) hx hb hT iw_X0 hown hK hw hW kd1101 (by decide) rfl rfl 0 (by decide) eq1714 (hT _ tb_591) (fun _ h9 => h9) dX0_expand_140 ?_
                  refine lv_aload_n hx hb dX0_expand_143 rfl (lv_at hl 0 rfl) ?_
                  refine p_get (ci := 0) (v := .ref qa1666) (C := RX0) (T := TX0) (N := 8) hx hb hT iw_X0 hown hK hw hW kd1101 (by decide) rfl rfl 1 (by decide) eq1684 (hT _ tb_592) (fun _ h9 => h9) dX0_expand_144 ?_
                  refine lv_iload_n hx hb dX0_expand_147 rfl (lv_at hl 2 rfl) ?_
                  refine lv_bipush (v := 16) hx hb dX0_expand_148 (by decide) ?_
                  refine lv_imul hx hb dX0_expand_150 (lv_topi (fun zi1715 ea1716 => ?_))
                  have bd1717 : (0 : Int) ≤ zi1715.toInt ∧ zi1715.toInt ≤ 2097136 := b_imul ea1716 bd902 bc_16 (by decide) (by decide) (by decide) (by decide) (by decide)
                  have qe1718 : zi1715.toInt = (zi902 : Int32).toInt * (16 : Int32).toInt := e_imul (b := 131071) (d := 16) ea1716 (b_wid2 bd902 (by decide) (by decide)) (b_wid2 bc_16 (by decide) (by decide)) (by decide)
                  have qe1719 : zi1715.toInt = zi902.toInt * 16 := by have ha : (16 : Int32).toInt = 16 := (by decide); rw [ha] at qe1718; exact qe1718
                  refine lv_iload hx hb dX0_expand_151 (lv_at hl 6 rfl) ?_
                  refine lv_iadd hx hb dX0_expand_153 (lv_topi (fun zi1720 ea1721 => ?_))
                  have bd1722 : (0 : Int) ≤ zi1720.toInt ∧ zi1720.toInt ≤ 2097151 := b_iadd ea1721 bd1717 bd1548 (by decide) (by decide) (by decide) (by decide)
                  have qe1723 : zi1720.toInt = zi1715.toInt + zi1097.toInt := e_iadd ea1721 bd1717 bd1548 (by decide) (by decide)
                  refine lv_lconst (v := 1) hx hb dX0_expand_154 (by decide) ?_
                  refine lv_iconst (v := 0) hx hb dX0_expand_155 (by decide) ?_
                  have pd1724 : NSx K ln hp1678 gn := NSx_fr ok1099  (show Fr [3003, 3004, 8000, 8001, 8002, 8004, 8006, 8008, 27000, 40000, 41000, 42000] K hp1098 hp1678 from (Fr.tr (Fr.put (cq := 8006) (Fr.tr (Fr.rf) F1670 (by decide)) eh1675 kd1667 (cd_o (by decide)) (by decide)) F1680 (by decide))) (by decide) pd1100
                  have gf1732 : FrX wsC K0 hp0 hp1678 := (FrX.tr gfx gex (FrX.of (show Fr [3003, 3004, 8000, 8001, 8002, 8004, 8006, 8008, 27000, 40000, 41000, 42000] K hp1098 hp1678 from (Fr.tr (Fr.put (cq := 8006) (Fr.tr (Fr.rf) F1670 (by decide)) eh1675 kd1667 (cd_o (by decide)) (by decide)) F1680 (by decide)))) (by decide +kernel))
                  refine kg_v hw hS hA (va_runV (As := [.ref qa1666, .int zi1720, .long 1, .int 0]) (rest := []) ⟨hx, hb, hml, hown, hT⟩ (Met.szx (cX3_add_vG_0 l G cy ev K ln Ls hW _ hp1678 ok1679 qa1663 qa1666 zi1720 1 0 gn kd1664 kd1667 pd1724)) (cwV 4 hT (good_V tb_1142 tb_1139 tb_1140 tb_1141 tb_117) rfl rfl rfl (by decide +kernel) ⟨Nat.le_of_ble_eq_true rfl, Nat.le_of_ble_eq_true rfl⟩) (pool_preV (ci := 3) hK hE hS hA hw hW kd1664 (by decide) rfl) rfl rfl hl.1 rfl (lv_room (Nat.le_of_ble_eq_true rfl)) dX0_expand_156 ⟨(show (gn - g0) + 65536 ≤ 196608 from by omega), (show (14 * (gn - g0)) + 917504 ≤ 2748928 from by omega)⟩) (fun u gn H locs hq1725 hw hS => ?_)
                  obtain ⟨K, ln, Ls, hp1726⟩ := u
                  obtain ⟨ex1728, hW, ok1727, fx1729, pd1730, hle1731⟩ := hq1725
                  have ex1728 : EXx _ _ K ln := ex1728
                  have hW : SW K ln Ls := hW
                  have ok1727 : Ok K hp1726 := ok1727
                  have fx1729 : FrX _ _ _ hp1726 := fx1729
                  have pd1730 : NSx K ln hp1726 gn := pd1730
                  have hle1731 : _ ≤ gn := hle1731
                  have hw : PW G cy K ln Ls A hp1726 H := hw
                  have gfx : FrX wsC K0 hp0 hp1726 := FrX.tr gf1732 gex fx1729 (by decide +kernel)
                  have gex := EXx.tr gex ex1728
                  have kd1735 := EXx.kd ex1728 kd1101 (by decide)
                  have kd1736 := EXx.kd ex1728 kd1102 (by decide)
                  (try clear kd1101); (try clear kd1102); (try clear kd1664); (try clear kd1667)
                  have hgn := NSx.bd pd1730
                  refine W.widen (k := gn - g0) (n := 14 * (gn - g0)) (by omega) (by omega) ?_
                  have hga : g0 ≤ gn := by omega
                  obtain ⟨zi1737, ea1738⟩ : ∃ z : Int32, z = zi1097 + 1 := ⟨_, rfl⟩
                  have bd1739 : (1 : Int) ≤ zi1737.toInt ∧ zi1737.toInt ≤ 16 := b_iadd ea1738 bd1548 bc_1 (by decide) (by decide) (by decide) (by decide)
                  have qe1740 : zi1737.toInt = (zi1097 : Int32).toInt + (1 : Int32).toInt := e_iadd ea1738 bd1548 bc_1 (by decide) (by decide)
                  have qe1741 : zi1737.toInt = zi1097.toInt + 1 := by have ha : (1 : Int32).toInt = 1 := (by decide); rw [ha] at qe1740; exact qe1740
                  refine lv_iinc (v := zi1737) (lv' := [(6, .int zi1737), (0, .ref qa900), (1, .ref qa901), (2, .int zi902), (3, .int zi903), (4, .int zi10), (5, .int zi15)]) hx hb dX0_expand_159 hl (k := 6) rfl ea1738.symm (by decide) rfl (fun ls hl => ?_)
                  refine lv_goto (tgt := 25) hx hb dX0_expand_162 (by decide) ?_
                  exact ih1539 K ln Ls gn hp1726 zi1737 _ _ ls (by have := hm1541; have := qe1741; omega) hW gex gfx ok1727 pd1730 (by omega) kd1735 kd1736 (b_wid2 bd1739 (by decide) (by decide)) (lv_sub hl [1, 2, 3, 4, 5, 6, 0] rfl) hw hS
              · skip
                have tf1742 : (zi1700 : Int32).toInt ≠ (0 : Int32).toInt := fun e => cn1703 (Int32.toInt_inj.mp e)
                have := toi bc_0
                have bd1743 : (1 : Int) ≤ zi1700.toInt ∧ zi1700.toInt ≤ 1 := r_ne_lo cn1703 bd1702 (toi bc_0) (by decide) (by decide)
                refine lv_aload_n hx hb dX0_expand_124 rfl (lv_at hl 0 rfl) ?_
                refine lv_aload_n hx hb dX0_expand_125 rfl (lv_at hl 1 rfl) ?_
                refine lv_iload_n hx hb dX0_expand_126 rfl (lv_at hl 2 rfl) ?_
                refine lv_iload hx hb dX0_expand_127 (lv_at hl 6 rfl) ?_
                refine lv_iload_n hx hb dX0_expand_129 rfl (lv_at hl 3 rfl) ?_
                have pd1744 : NSx K ln hp1678 gn := NSx_fr ok1099  (show Fr [3003, 3004, 8000, 8001, 8002, 8004, 8006, 8008, 27000, 40000, 41000, 42000] K hp1098 hp1678 from (Fr.tr (Fr.put (cq := 8006) (Fr.tr (Fr.rf) F1670 (by decide)) eh1675 kd1667 (cd_o (by decide)) (by decide)) F1680 (by decide))) (by decide) pd1100
                refine kq_v hw hS hA (va_runV (As := [.ref qa901, .int zi902, .int zi1097, .int zi903]) (rest := []) ⟨hx, hb, hml, hown, hT⟩ (cX0_keepPath_0 l G cy ev K ln Ls hW _ hp1678 ok1679 qa900 qa901 zi902 zi1097 zi903 gn kd1101 kd1102 (b_wid2 bd903 (by decide) (by decide)) pd1744) (cwV 4 hT (good_V tb_1202 tb_1199 tb_1201 tb_37 tb_120) rfl rfl rfl (by decide +kernel) ⟨Nat.le_of_ble_eq_true rfl, Nat.le_of_ble_eq_true rfl⟩) (pool_preV (ci := 0) hK hE hS hA hw hW kd1101 (by decide) rfl) rfl rfl hl.1 rfl (lv_room (Nat.le_of_ble_eq_true rfl)) dX0_expand_130 ⟨(show (gn - g0) + 0 ≤ 196608 from by omega), (show (14 * (gn - g0)) + 0 ≤ 2748928 from by omega)⟩) (fun hp1745 H locs hq1748 hw hS => ?_)
                obtain ⟨ok1746, F1747⟩ := hq1748
                have hw : PW G cy K ln Ls A hp1745 H := hw
                rw [hQ]
                have pd1750 : NSx K ln hp1745 gn := NSx_fr ok1679  (show Fr [1003, 1004, 20000] K hp1678 hp1745 from (Fr.tr (Fr.rf) F1747 (by decide))) (by decide) pd1744
                exact kgz_v (n := g0) hx hb hr hlocks hS (((K, ln, Ls, hp1745), gn) : GU × Nat) hw ⟨gex, hW, ok1746, (FrX.tr gfx gex (FrX.of (show Fr [1003, 1004, 3003, 3004, 8000, 8001, 8002, 8004, 8006, 8008, 20000, 27000, 40000, 41000, 42000] K hp1098 hp1745 from (Fr.tr (Fr.tr (Fr.put (cq := 8006) (Fr.tr (Fr.rf) F1670 (by decide)) eh1675 kd1667 (cd_o (by decide)) (by decide)) F1680 (by decide)) F1747 (by decide)))) (by decide +kernel)), pd1750, (by omega)⟩ (show (gn - g0) ≤ gn - g0 from by omega) (show (14 * (gn - g0)) ≤ 14 * (gn - g0) from by omega) (show (gn - g0) ≤ 196608 from by omega) (show (14 * (gn - g0)) ≤ 2748928 from by omega) dX0_expand_133
            · skip
              have tf1751 : (zi1691 : Int32).toInt ≠ (0 : Int32).toInt := fun e => cn1694 (Int32.toInt_inj.mp e)
              have := toi bc_0
              have bd1752 : (1 : Int) ≤ zi1691.toInt ∧ zi1691.toInt ≤ 1 := r_ne_lo cn1694 bd1693 (toi bc_0) (by decide) (by decide)
              refine lv_goto (tgt := 159) hx hb dX0_expand_104 (by decide) ?_
              obtain ⟨zi1753, ea1754⟩ : ∃ z : Int32, z = zi1097 + 1 := ⟨_, rfl⟩
              have bd1755 : (1 : Int) ≤ zi1753.toInt ∧ zi1753.toInt ≤ 16 := b_iadd ea1754 bd1548 bc_1 (by decide) (by decide) (by decide) (by decide)
              have qe1756 : zi1753.toInt = (zi1097 : Int32).toInt + (1 : Int32).toInt := e_iadd ea1754 bd1548 bc_1 (by decide) (by decide)
              have qe1757 : zi1753.toInt = zi1097.toInt + 1 := by have ha : (1 : Int32).toInt = 1 := (by decide); rw [ha] at qe1756; exact qe1756
              refine lv_iinc (v := zi1753) (lv' := [(6, .int zi1753), (0, .ref qa900), (1, .ref qa901), (2, .int zi902), (3, .int zi903), (4, .int zi10), (5, .int zi15)]) hx hb dX0_expand_159 hl (k := 6) rfl ea1754.symm (by decide) rfl (fun ls hl => ?_)
              refine lv_goto (tgt := 25) hx hb dX0_expand_162 (by decide) ?_
              have pd1758 : NSx K ln hp1678 gn := NSx_fr ok1099  (show Fr [3003, 3004, 8000, 8001, 8002, 8004, 8006, 8008, 27000, 40000, 41000, 42000] K hp1098 hp1678 from (Fr.tr (Fr.put (cq := 8006) (Fr.tr (Fr.rf) F1670 (by decide)) eh1675 kd1667 (cd_o (by decide)) (by decide)) F1680 (by decide))) (by decide) pd1100
              exact ih1539 K ln Ls gn hp1678 zi1753 _ _ ls (by have := hm1541; have := qe1757; omega) hW gex (FrX.tr gfx gex (FrX.of (show Fr [3003, 3004, 8000, 8001, 8002, 8004, 8006, 8008, 27000, 40000, 41000, 42000] K hp1098 hp1678 from (Fr.tr (Fr.put (cq := 8006) (Fr.tr (Fr.rf) F1670 (by decide)) eh1675 kd1667 (cd_o (by decide)) (by decide)) F1680 (by decide)))) (by decide +kernel)) ok1679 pd1758 (by omega) kd1101 kd1102 (b_wid2 bd1755 (by decide) (by decide)) (lv_sub hl [1, 2, 3, 4, 5, 6, 0] rfl) hw hS
          · skip
            have tf1759 : (zi1656 : Int32).toInt ≠ (zi15 : Int32).toInt := fun e => cn1659 (Int32.toInt_inj.mp e)
            refine lv_goto (tgt := 159) hx hb dX0_expand_53 (by decide) ?_
            obtain ⟨zi1760, ea1761⟩ : ∃ z : Int32, z = zi1097 + 1 := ⟨_, rfl⟩
            have bd1762 : (1 : Int) ≤ zi1760.toInt ∧ zi1760.toInt ≤ 16 := b_iadd ea1761 bd1548 bc_1 (by decide) (by decide) (by decide) (by decide)
            have qe1763 : zi1760.toInt = (zi1097 : Int32).toInt + (1 : Int32).toInt := e_iadd ea1761 bd1548 bc_1 (by decide) (by decide)
            have qe1764 : zi1760.toInt = zi1097.toInt + 1 := by have ha : (1 : Int32).toInt = 1 := (by decide); rw [ha] at qe1763; exact qe1763
            refine lv_iinc (v := zi1760) (lv' := [(6, .int zi1760), (0, .ref qa900), (1, .ref qa901), (2, .int zi902), (3, .int zi903), (4, .int zi10), (5, .int zi15)]) hx hb dX0_expand_159 hl (k := 6) rfl ea1761.symm (by decide) rfl (fun ls hl => ?_)
            refine lv_goto (tgt := 25) hx hb dX0_expand_162 (by decide) ?_
            exact ih1539 K ln Ls gn hp1098 zi1760 _ _ ls (by have := hm1541; have := qe1764; omega) hW gex gfx ok1099 pd1100 (by omega) kd1101 kd1102 (b_wid2 bd1762 (by decide) (by decide)) (lv_sub hl [1, 2, 3, 4, 5, 6, 0] rfl) hw hS
  exact lp1540 _ K ln Ls gn hp0 0 _ _ ls (lp_in _) hW gex gfx ok1 pdNS (by omega) kd900 kd901 (b_wid2 bc_0 (by decide) (by decide)) (lv_sub hl [3, 4, 5, 6, 2, 1, 0] rfl) hw hS
