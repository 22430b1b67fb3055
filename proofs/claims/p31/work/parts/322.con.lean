set_option maxRecDepth 100000 in
set_option maxHeartbeats 4000000 in
theorem cX1_expand_0 (l : Launch) (G : va_G) (cy : Nat → ClassId) (ev : Ew) (K0 ln0 : Nat → Nat) (Ls0 : List Nat) (hW0 : SW K0 ln0 Ls0) (sz : Nat) (hp0 : Nat → Nat → Value) (ok0 : Ok K0 hp0) (qa900 : Nat) (qa901 : Nat) (zi902 : Int32) (zi903 : Int32) (zi904 : Int32) (zi905 : Int32) (g0 : Nat) (kd900 : K0 qa900 = 2) (kd901 : K0 qa901 = 11) (bd902 : ((0 : Int) ≤ zi902.toInt ∧ zi902.toInt ≤ 131071)) (bd903 : ((1 : Int) ≤ zi903.toInt ∧ zi903.toInt ≤ 5)) (bd904 : ((0 : Int) ≤ zi904.toInt ∧ zi904.toInt ≤ 5)) (pdNS : NSx K0 ln0 hp0 g0) (xp0 : zi902.toInt < (g0 : Nat)) : Met l yX1_expand (WS yX1_expand cX1_expand 14 none) { frames := 5, cells := 196608, slots := 2748928, locals := 124 } (PB2 [.ref qa900, .ref qa901, .int zi902, .int zi903, .int zi904, .int zi905] sz G cy ev (va_pl Ls0 (cellOf cy K0 ln0 hp0))) (QGv (fun u : GU × Nat => GPx wsC K0 ln0 hp0 g0 u.1 u.2) G cy g0 (va_A (va_pl Ls0 (cellOf cy K0 ln0 hp0)) sz)) 196608 2748928 (va_A (va_pl Ls0 (cellOf cy K0 ln0 hp0)) sz) := by
  refine met_of2 (y := yX1_expand) (L := 14) (av := [.ref qa900, .ref qa901, .int zi902, .int zi903, .int zi904, .int zi905]) (Qc := fun A => QGv (fun u : GU × Nat => GPx wsC K0 ln0 hp0 g0 u.1 u.2) G cy g0 A) (plainFor_of_name (by decide)) (Nat.le_of_ble_eq_true rfl) ?_
  intro p e s m below meth c hsz hx hb hr hml hown hT hlocks hin hK A hA hE hw hS ls hl
  have hw : PW G cy K0 ln0 Ls0 A hp0 s.heap := hw
  have hown : s.vm.findClass "LieClock$Book" = some m.cls := hown
  have hl : lv_has ls 14 [(0, .ref qa900), (1, .ref qa901), (2, .int zi902), (3, .int zi903), (4, .int zi904), (5, .int zi905)] := hl
  obtain ⟨Q, hQ⟩ : ∃ Q : State → Prop, Q = MQ below (QGv (fun u : GU × Nat => GPx wsC K0 ln0 hp0 g0 u.1 u.2) G cy g0 A) ([.ref qa900, .ref qa901, .int zi902, .int zi903, .int zi904, .int zi905] : List Value).toArray s 196608 2748928 A := ⟨_, rfl⟩
  rw [← hQ]
  obtain ⟨K, ln, Ls, gn, hW, gex, gfx, ok1, hKe, hga, hge, kd900, kd901, pdNS, xp0, hw⟩ : ∃ (K ln : Nat → Nat) (Ls : List Nat) (gn : Nat), SW K ln Ls ∧ EXx K0 ln0 K ln ∧ FrX wsC K0 hp0 hp0 ∧ Ok K hp0 ∧ K = K0 ∧ g0 ≤ gn ∧ gn = g0 ∧ (K qa900 = 2) ∧ (K qa901 = 11) ∧ (NSx K ln hp0 gn) ∧ (zi902.toInt < (gn : Nat)) ∧ PW G cy K ln Ls A hp0 s.heap := ⟨K0, ln0, Ls0, g0, hW0, EXx.rf, FrX.rf, ok0, rfl, Nat.le_refl _, rfl, kd900, kd901, pdNS, xp0, hw⟩
  have hg0 : 256 ≤ g0 ∧ g0 ≤ 131072 := by have := NSx.bd pdNS; omega
  refine W.widen (k := gn - g0) (n := 14 * (gn - g0)) (Nat.zero_le _) (Nat.zero_le _) ?_
  have hgn := NSx.bd pdNS
  refine lv_aload_n hx hb dX1_expand_0 rfl (lv_at hl 0 rfl) ?_
  obtain ⟨qa2, eq1, kd3⟩ := rd_2000 ok1 kd900
  refine p_get (ci := 1) (v := .ref qa2) (C := RX1) (T := TX1) (N := 8) hx hb hT iw_X1 hown hK hw hW kd900 (by decide) rfl rfl 0 (by decide) eq1 (hT _ tb_628) (fun _ h9 => h9) dX1_expand_1 ?_
  obtain ⟨qa5, eq4, kd6⟩ := rd_4000 ok1 kd3
  have ln7 := (pdNS).ref kd3 (by decide) eq4
  refine p_getN (ci := 3) (v := .ref qa5) (C := RX3) (T := TX3) (N := 7) hx hb hT iw_X3 hown hK hw hW kd3 (by decide) rfl rfl 0 (by decide) eq4 (hK.fl nw_390) (fun _ h9 => h9) dX1_expand_4 ?_
  refine lv_iload_n hx hb dX1_expand_7 rfl (lv_at hl 2 rfl) ?_
  obtain ⟨zi9, eq8⟩ := rd_28000 ok1 kd6 ((zi902 : Int32).toNatClampNeg)
  refine p_iald (v := zi9) hx hb hK hw hW kd6 (by decide) rfl ln7 (vp_bv (by omega) (by omega)) eq8 dX1_expand_8 ?_
  refine lv_ldc (v := 65535) hx hb hown (hT _ tb_1324) dX1_expand_9 ?_
  refine lv_iand hx hb dX1_expand_11 (lv_topi (fun zi10 ea11 => ?_))
  have bd12 : (0 : Int) ≤ zi10.toInt ∧ zi10.toInt ≤ 65535 := b_and_r ea11 bc_65535 (by decide) (by decide) (by decide)
  refine lv_istore (lv' := [(6, .int zi10), (0, .ref qa900), (1, .ref qa901), (2, .int zi902), (3, .int zi903), (4, .int zi904), (5, .int zi905)]) hx hb dX1_expand_12 hl (by decide) rfl (fun ls hl => ?_)
  refine lv_iload hx hb dX1_expand_14 (lv_at hl 0 rfl) ?_
  refine lv_iload hx hb dX1_expand_16 (lv_at hl 0 rfl) ?_
  refine lv_ineg hx hb dX1_expand_18 (lv_topi (fun zi13 ea14 => ?_))
  refine lv_iand hx hb dX1_expand_19 (lv_topi (fun zi15 ea16 => ?_))
  have bd17 : (0 : Int) ≤ zi15.toInt ∧ zi15.toInt ≤ 65535 := b_and_l ea16 bd12 (by decide) (by decide) (by decide)
  refine lv_istore (lv' := [(7, .int zi15), (6, .int zi10), (0, .ref qa900), (1, .ref qa901), (2, .int zi902), (3, .int zi903), (4, .int zi904), (5, .int zi905)]) hx hb dX1_expand_20 hl (by decide) rfl (fun ls hl => ?_)
  refine lv_aload_n hx hb dX1_expand_22 rfl (lv_at hl 2 rfl) ?_
  refine p_get (ci := 1) (v := .ref qa2) (C := RX1) (T := TX1) (N := 8) hx hb hT iw_X1 hown hK hw hW kd900 (by decide) rfl rfl 0 (by decide) eq1 (hT _ tb_628) (fun _ h9 => h9) dX1_expand_23 ?_
  obtain ⟨qa19, eq18, kd20⟩ := rd_4004 ok1 kd3
  have ln21 := (pdNS).ref kd3 (by decide) eq18
  refine p_getN (ci := 3) (v := .ref qa19) (C := RX3) (T := TX3) (N := 7) hx hb hT iw_X3 hown hK hw hW kd3 (by decide) rfl rfl 4 (by decide) eq18 (hK.fl nw_397) (fun _ h9 => h9) dX1_expand_26 ?_
  refine lv_iload_n hx hb dX1_expand_29 rfl (lv_at hl 4 rfl) ?_
  obtain ⟨wl23, eq22⟩ := rd_32000 ok1 kd20 ((zi902 : Int32).toNatClampNeg)
  refine p_lald (v := wl23) hx hb hK hw hW kd20 (by decide) rfl ln21 (vp_bv (by omega) (by omega)) eq22 dX1_expand_30 ?_
  refine lv_lstore (lv' := [(8, .long wl23), (7, .int zi15), (6, .int zi10), (0, .ref qa900), (1, .ref qa901), (2, .int zi902), (3, .int zi903), (4, .int zi904), (5, .int zi905)]) hx hb dX1_expand_31 hl (by decide) rfl (fun ls hl => ?_)
  refine lv_iconst (v := 0) hx hb dX1_expand_33 (by decide) ?_
  refine lv_istore (lv' := [(10, .int 0), (8, .long wl23), (7, .int zi15), (6, .int zi10), (0, .ref qa900), (1, .ref qa901), (2, .int zi902), (3, .int zi903), (4, .int zi904), (5, .int zi905)]) hx hb dX1_expand_34 hl (by decide) rfl (fun ls hl => ?_)
  have lp1803 : ∀ (n1801 : Nat) (K ln : Nat → Nat) (Ls : List Nat) (gn : Nat) (hp1287 : Nat → Nat → Value) (zi1286 : Int32) (H : Heap) (locs : List Loc) (ls : Array Slot), 16 - zi1286.toInt < (n1801 : Int) → SW K ln Ls → EXx K0 ln0 K ln → FrX wsC K0 hp0 hp1287 → Ok K hp1287 → NSx K ln hp1287 gn → g0 ≤ gn → K qa900 = 2 → K qa901 = 11 → ((0 : Int) ≤ zi1286.toInt ∧ zi1286.toInt ≤ 16) → lv_has ls 14 [(0, .ref qa900), (1, .ref qa901), (2, .int zi902), (3, .int zi903), (4, .int zi904), (5, .int zi905), (6, .int zi10), (7, .int zi15), (8, .long wl23), (10, .int zi1286)] → PW G cy K ln Ls A hp1287 H → va_S A s.heap H locs → W p l e ({ frames := 5, cells := 196608, slots := 2748928, locals := 124 } : Room) s m ([.ref qa900, .ref qa901, .int zi902, .int zi903, .int zi904, .int zi905] : List Value).toArray below meth c H locs (gn - g0) (14 * (gn - g0)) Q (F0 m 36 ls []) := by
    intro n1801
    induction n1801 with
    | zero =>
      intro K ln Ls gn hp1287 zi1286 H locs ls hm1804 hW gex gfx ok1288 pd1289 hga kd1290 kd1291 bd1292 hl hw hS
      exact absurd hm1804 (by have := bd1292; omega)
    | succ n1801 ih1802 =>
      intro K ln Ls gn hp1287 zi1286 H locs ls hm1804 hW gex gfx ok1288 pd1289 hga kd1290 kd1291 bd1292 hl hw hS
      have hgn := NSx.bd pd1289
      refine lv_iload hx hb dX1_expand_36 (lv_at hl 9 rfl) ?_
      refine lv_aload_n hx hb dX1_expand_38 rfl (lv_at hl 1 rfl) ?_
      obtain ⟨zi1806, eq1805, bd1807⟩ := rd_11004 ok1288 kd1291
      refine p_getN (ci := 10) (v := .int zi1806) (C := RX10) (T := TX10) (N := 20) hx hb hT iw_X10 hown hK hw hW kd1291 (by decide) rfl rfl 4 (by decide) eq1805 (hK.fl nw_97) (fun _ h9 => h9) dX1_expand_39 ?_
      refine lv_icmp_ge (tgt := 225) hx hb dX1_expand_42 (by decide) (fun cn1808 => ?_) (fun cn1808 => ?_)
      · skip
        have tf1809 : zi1806.toInt ≤ zi1286.toInt := (fa_le _ _).mp cn1808
        rw [hQ]
        exact kgz_v (n := g0) hx hb hr hlocks hS (((K, ln, Ls, hp1287), gn) : GU × Nat) hw ⟨gex, hW, ok1288, gfx, pd1289, (by omega)⟩ (show (gn - g0) ≤ gn - g0 from by omega) (show (14 * (gn - g0)) ≤ 14 * (gn - g0) from by omega) (show (gn - g0) ≤ 196608 from by omega) (show (14 * (gn - g0)) ≤ 2748928 from by omega) dX1_expand_225
      · skip
        have tf1810 : zi1286.toInt < zi1806.toInt := (fa_lt _ _).mp (Int32.not_le.mp cn1808)
        have bd1811 : (0 : Int) ≤ zi1286.toInt ∧ zi1286.toInt ≤ 15 := r_lt_x (Int32.not_le.mp cn1808) bd1292 bd1807 (by decide) (by decide)
        have bd1812 : (1 : Int) ≤ zi1806.toInt ∧ zi1806.toInt ≤ 16 := r_lt_y (Int32.not_le.mp cn1808) bd1292 bd1807 (by decide) (by decide)
        refine lv_iload hx hb dX1_expand_45 (lv_at hl 6 rfl) ?_
        refine lv_iload hx hb dX1_expand_47 (lv_at hl 9 rfl) ?_
        refine lv_ishr hx hb dX1_expand_49 (lv_topi (fun zi1813 ea1814 => ?_))
        refine lv_iconst (v := 1) hx hb dX1_expand_50 (by decide) ?_
        refine lv_iand hx hb dX1_expand_51 (lv_topi (fun zi1815 ea1816 => ?_))
        have bd1817 : (0 : Int) ≤ zi1815.toInt ∧ zi1815.toInt ≤ 1 := b_and_r ea1816 bc_1 (by decide) (by decide) (by decide)
        refine lv_if_eq (tgt := 59) hx hb dX1_expand_52 (by decide) (fun cn1818 => ?_) (fun cn1818 => ?_)
        · skip
          have bd1819 : (0 : Int) ≤ zi1815.toInt ∧ zi1815.toInt ≤ 0 := r_eq_x cn1818 bd1817 bc_0 (by decide) (by decide)
          refine lv_iconst (v := 0) hx hb dX1_expand_59 (by decide) ?_
          refine lv_istore (lv' := [(11, .int 0), (0, .ref qa900), (1, .ref qa901), (2, .int zi902), (3, .int zi903), (4, .int zi904), (5, .int zi905), (6, .int zi10), (7, .int zi15), (8, .long wl23), (10, .int zi1286)]) hx hb dX1_expand_60 hl (by decide) rfl (fun ls hl => ?_)
          refine lv_iload hx hb dX1_expand_62 (lv_at hl 0 rfl) ?_
          refine lv_if_eq (tgt := 79) hx hb dX1_expand_64 (by decide) (fun _ => ?_) (fun c => absurd (d_eq bc_0 bc_0) c)
          refine lv_aload_n hx hb dX1_expand_79 rfl (lv_at hl 1 rfl) ?_
          obtain ⟨qa1821, eq1820, kd1822⟩ := rd_2000 ok1288 kd1290
          refine p_get (ci := 1) (v := .ref qa1821) (C := RX1) (T := TX1) (N := 8) hx hb hT iw_X1 hown hK hw hW kd1290 (by decide) rfl rfl 0 (by decide) eq1820 (hT _ tb_628) (fun _ h9 => h9) dX1_expand_80 ?_
          refine lv_iload_n hx hb dX1_expand_83 rfl (lv_at hl 3 rfl) ?_
          refine lv_aload_n hx hb dX1_expand_84 rfl (lv_at hl 1 rfl) ?_
          obtain ⟨qa1824, eq1823, kd1825⟩ := rd_2001 ok1288 kd1290
          refine p_get (ci := 1) (v := .ref qa1824) (C := RX1) (T := TX1) (N := 8) hx hb hT iw_X1 hown hK hw hW kd1290 (by decide) rfl rfl 1 (by decide) eq1823 (hT _ tb_629) (fun _ h9 => h9) dX1_expand_85 ?_
          refine kq_v hw hS hA (va_runV (As := [.int zi902, .ref qa1824]) (rest := []) ⟨hx, hb, hml, hown, hT⟩ (cX3_load_0 l G cy ev K ln Ls hW _ hp1287 ok1288 qa1821 zi902 qa1824 gn kd1822 kd1825 pd1289) (cwV 2 hT (good_V tb_1196 tb_1325 tb_1194 tb_1195 tb_117) rfl rfl rfl (by decide +kernel) ⟨Nat.le_of_ble_eq_true rfl, Nat.le_of_ble_eq_true rfl⟩) (pool_preV (ci := 3) hK hE hS hA hw hW kd1822 (by decide) rfl) rfl rfl hl.1 rfl (lv_room (Nat.le_of_ble_eq_true rfl)) dX1_expand_88 ⟨(show (gn - g0) + 0 ≤ 196608 from by omega), (show (14 * (gn - g0)) + 0 ≤ 2748928 from by omega)⟩) (fun hp1826 H locs hq1829 hw hS => ?_)
          obtain ⟨ok1827, F1828⟩ := hq1829
          have hw : PW G cy K ln Ls A hp1826 H := hw
          refine lv_aload_n hx hb dX1_expand_91 rfl (lv_at hl 1 rfl) ?_
          have eq1831 : hp1826 qa900 1 = .ref qa1824 := Eq.trans (Fr.at (cq := 2001) F1828 kd1290 (cd_o (by decide)) (by decide)) eq1823
          refine p_get (ci := 1) (v := .ref qa1824) (C := RX1) (T := TX1) (N := 8) hx hb hT iw_X1 hown hK hw hW kd1290 (by decide) rfl rfl 1 (by decide) eq1831 (hT _ tb_629) (fun _ h9 => h9) dX1_expand_92 ?_
          refine lv_aload_n hx hb dX1_expand_95 rfl (lv_at hl 2 rfl) ?_
          refine lv_iload hx hb dX1_expand_96 (lv_at hl 10 rfl) ?_
          refine kq_i hw hS hA (va_runV (As := [.ref qa901, .int zi1286]) (rest := []) ⟨hx, hb, hml, hown, hT⟩ (cX7_utter_0 l G cy ev K ln Ls hW _ hp1826 ok1827 qa1824 qa901 zi1286 kd1825 kd1291 (b_wid2 bd1811 (by decide) (by decide))) (cwV 2 hT (good_V tb_1059 tb_1326 tb_1057 tb_1058 tb_115) rfl rfl rfl (by decide +kernel) ⟨Nat.le_of_ble_eq_true rfl, Nat.le_of_ble_eq_true rfl⟩) (pool_preV (ci := 7) hK hE hS hA hw hW kd1825 (by decide) rfl) rfl rfl hl.1 rfl (lv_room (Nat.le_of_ble_eq_true rfl)) dX1_expand_98 ⟨(show (gn - g0) + 0 ≤ 196608 from by omega), (show (14 * (gn - g0)) + 0 ≤ 2748928 from by omega)⟩) (fun zi1836 hp1832 H locs hq1835 hw hS => ?_)
          obtain ⟨ok1833, F1834, bd1837⟩ := hq1835
          have hw : PW G cy K ln Ls A hp1832 H := hw
          refine lv_pop hx hb dX1_expand_101 rfl ?_
          refine lv_aload_n hx hb dX1_expand_102 rfl (lv_at hl 1 rfl) ?_
          have eq1838 : hp1832 qa900 1 = .ref qa1824 := Eq.trans (Fr.at (cq := 2001) F1834 kd1290 (cd_o (by decide)) (by decide)) eq1831
          refine p_get (ci := 1) (v := .ref qa1824) (C := RX1) (T := TX1) (N := 8) hx hb hT iw_X1 hown hK hw hW kd1290 (by decide) rfl rfl 1 (by decide) eq1838 (hT _ tb_629) (fun _ h9 => h9) dX1_expand_103 ?_
          obtain ⟨zi1840, eq1839⟩ := rd_8000 ok1833 kd1825
          refine p_getN (ci := 7) (v := .int zi1840) (C := RX7) (T := TX7) (N := 13) hx hb hT iw_X7 hown hK hw hW kd1825 (by decide) rfl rfl 0 (by decide) eq1839 (hK.fl nw_310) (fun _ h9 => h9) dX1_expand_106 ?_
          refine lv_aload_n hx hb dX1_expand_109 rfl (lv_at hl 1 rfl) ?_
          obtain ⟨qa1842, eq1841, kd1843⟩ := rd_2002 ok1833 kd1290
          refine p_get (ci := 1) (v := .ref qa1842) (C := RX1) (T := TX1) (N := 8) hx hb hT iw_X1 hown hK hw hW kd1290 (by decide) rfl rfl 2 (by decide) eq1841 (hT _ tb_630) (fun _ h9 => h9) dX1_expand_110 ?_
          refine lv_iload_n hx hb dX1_expand_113 rfl (lv_at hl 4 rfl) ?_
          refine lv_iconst (v := 1) hx hb dX1_expand_114 (by decide) ?_
          refine lv_isub hx hb dX1_expand_115 (lv_topi (fun zi1844 ea1845 => ?_))
          have bd1846 : (0 : Int) ≤ zi1844.toInt ∧ zi1844.toInt ≤ 4 := b_isub ea1845 bd903 bc_1 (by decide) (by decide) (by decide) (by decide)
          have qe1847 : zi1844.toInt = (zi903 : Int32).toInt - (1 : Int32).toInt := e_isub ea1845 bd903 bc_1 (by decide) (by decide)
          have qe1848 : zi1844.toInt = zi903.toInt - 1 := by have ha : (1 : Int32).toInt = 1 := (by decide); rw [ha] at qe1847; exact qe1847
          obtain ⟨zi1850, eq1849⟩ := rd_21000 ok1833 kd1843 ((zi1844 : Int32).toNatClampNeg)
          refine p_iald (v := zi1850) hx hb hK hw hW kd1843 (by decide) rfl (hW.len kd1843 (n := 5) rfl (by decide)) (vp_b bd1846 (by decide) (by decide)) eq1849 dX1_expand_116 ?_
          refine lv_icmp_eq (tgt := 123) hx hb dX1_expand_117 (by decide) (fun cn1851 => ?_) (fun cn1851 => ?_)
          · skip
            have tf1852 : zi1840.toInt = zi1850.toInt := congrArg Int32.toInt cn1851
            refine lv_iload hx hb dX1_expand_123 (lv_at hl 0 rfl) ?_
            refine lv_if_eq (tgt := 140) hx hb dX1_expand_125 (by decide) (fun _ => ?_) (fun c => absurd (d_eq bc_0 bc_0) c)
            refine lv_lload hx hb dX1_expand_140 (lv_at hl 9 rfl) ?_
            refine lv_lstore (lv' := [(12, .long wl23), (11, .int 0), (0, .ref qa900), (1, .ref qa901), (2, .int zi902), (3, .int zi903), (4, .int zi904), (5, .int zi905), (6, .int zi10), (7, .int zi15), (8, .long wl23), (10, .int zi1286)]) hx hb dX1_expand_142 hl (by decide) rfl (fun ls hl => ?_)
            refine lv_iload_n hx hb dX1_expand_144 rfl (lv_at hl 5 rfl) ?_
            refine lv_iload hx hb dX1_expand_145 (lv_at hl 6 rfl) ?_
            refine lv_icmp_ge (tgt := 169) hx hb dX1_expand_147 (by decide) (fun cn1853 => ?_) (fun cn1853 => ?_)
            · skip
              have tf1854 : zi904.toInt ≤ zi903.toInt := (fa_le _ _).mp cn1853
              refine lv_aload_n hx hb dX1_expand_169 rfl (lv_at hl 2 rfl) ?_
              obtain ⟨qa1856, eq1855, kd1857⟩ := rd_2005 ok1833 kd1290
              refine p_get (ci := 1) (v := .ref qa1856) (C := RX1) (T := TX1) (N := 8) hx hb hT iw_X1 hown hK hw hW kd1290 (by decide) rfl rfl 5 (by decide) eq1855 (hT _ tb_634) (fun _ h9 => h9) dX1_expand_170 ?_
              refine lv_iload hx hb dX1_expand_173 (lv_at hl 6 rfl) ?_
              refine lv_dup2_11 hx hb dX1_expand_175 rfl rfl ?_
              obtain ⟨wl1859, eq1858⟩ := rd_23000 ok1833 kd1857 ((zi904 : Int32).toNatClampNeg)
              refine p_lald (v := wl1859) hx hb hK hw hW kd1857 (by decide) rfl (hW.len kd1857 (n := 6) rfl (by decide)) (vp_b bd904 (by decide) (by decide)) eq1858 dX1_expand_176 ?_
              refine lv_lload hx hb dX1_expand_177 (lv_at hl 0 rfl) ?_
              refine lv_ladd hx hb dX1_expand_179 (lv_topl (fun wl1860 _ => ?_))
              refine p_last (x := wl1860) hx hb hK hw hS hW kd1857 (by decide) rfl (hW.len kd1857 (n := 6) rfl (by decide)) (vp_b bd904 (by decide) (by decide)) dX1_expand_180 (fun hp1861 eh1862 H locs hw hS => ?_)
              have ok1863 := wr_23000 ok1833 kd1857 eh1862
              refine lv_aload_n hx hb dX1_expand_181 rfl (lv_at hl 2 rfl) ?_
              obtain ⟨qa1865, eq1864, kd1866⟩ := rd_2006 ok1863 kd1290
              refine p_get (ci := 1) (v := .ref qa1865) (C := RX1) (T := TX1) (N := 8) hx hb hT iw_X1 hown hK hw hW kd1290 (by decide) rfl rfl 6 (by decide) eq1864 (hT _ tb_636) (fun _ h9 => h9) dX1_expand_182 ?_
              refine lv_iload hx hb dX1_expand_185 (lv_at hl 6 rfl) ?_
              refine lv_dup2_11 hx hb dX1_expand_187 rfl rfl ?_
              obtain ⟨zi1868, eq1867⟩ := rd_24000 ok1863 kd1866 ((zi904 : Int32).toNatClampNeg)
              refine p_iald (v := zi1868) hx hb hK hw hW kd1866 (by decide) rfl (hW.len kd1866 (n := 6) rfl (by decide)) (vp_b bd904 (by decide) (by decide)) eq1867 dX1_expand_188 ?_
              refine lv_aload_n hx hb dX1_expand_189 rfl (lv_at hl 2 rfl) ?_
              have eq1869 : hp1861 qa900 1 = .ref qa1824 := Eq.trans (up_at eh1862 (Or.inl (kd_ne kd1290 kd1857 (by decide)))) eq1838
              refine p_get (ci := 1) (v := .ref qa1824) (C := RX1) (T := TX1) (N := 8) hx hb hT iw_X1 hown hK hw hW kd1290 (by decide) rfl rfl 1 (by decide) eq1869 (hT _ tb_629) (fun _ h9 => h9) dX1_expand_190 ?_
              obtain ⟨zi1871, eq1870⟩ := rd_8001 ok1863 kd1825
              refine p_getN (ci := 7) (v := .int zi1871) (C := RX7) (T := TX7) (N := 13) hx hb hT iw_X7 hown hK hw hW kd1825 (by decide) rfl rfl 1 (by decide) eq1870 (hK.fl nw_314) (fun _ h9 => h9) dX1_expand_193 ?_
              refine lv_iand hx hb dX1_expand_196 (lv_topi (fun zi1872 ea1873 => ?_))
              refine p_iast (x := zi1872) hx hb hK hw hS hW kd1866 (by decide) rfl (hW.len kd1866 (n := 6) rfl (by decide)) (vp_b bd904 (by decide) (by decide)) dX1_expand_197 (fun hp1874 eh1875 H locs hw hS => ?_)
              have ok1876 := wr_24000 ok1863 kd1866 eh1875
              refine lv_aload_n hx hb dX1_expand_198 rfl (lv_at hl 2 rfl) ?_
              obtain ⟨qa1878, eq1877, kd1879⟩ := rd_2007 ok1876 kd1290
              refine p_get (ci := 1) (v := .ref qa1878) (C := RX1) (T := TX1) (N := 8) hx hb hT iw_X1 hown hK hw hW kd1290 (by decide) rfl rfl 7 (by decide) eq1877 (hT _ tb_638) (fun _ h9 => h9) dX1_expand_199 ?_
              refine lv_iload hx hb dX1_expand_202 (lv_at hl 6 rfl) ?_
              refine lv_dup2_11 hx hb dX1_expand_204 rfl rfl ?_
              obtain ⟨zi1881, eq1880⟩ := rd_25000 ok1876 kd1879 ((zi904 : Int32).toNatClampNeg)
              refine p_iald (v := zi1881) hx hb hK hw hW kd1879 (by decide) rfl (hW.len kd1879 (n := 6) rfl (by decide)) (vp_b bd904 (by decide) (by decide)) eq1880 dX1_expand_205 ?_
              refine lv_aload_n hx hb dX1_expand_206 rfl (lv_at hl 3 rfl) ?_
              refine lv_aload_n hx hb dX1_expand_207 rfl (lv_at hl 2 rfl) ?_
              have eq1882 : hp1874 qa900 1 = .ref qa1824 := Eq.trans (up_at eh1875 (Or.inl (kd_ne kd1290 kd1866 (by decide)))) eq1869
              refine p_get (ci := 1) (v := .ref qa1824) (C := RX1) (T := TX1) (N := 8) hx hb hT iw_X1 hown hK hw hW kd1290 (by decide) rfl rfl 1 (by decide) eq1882 (hT _ tb_629) (fun _ h9 => h9) dX1_expand_208 ?_
              obtain ⟨zi1884, eq1883⟩ := rd_8002 ok1876 kd1825
              refine p_getN (ci := 7) (v := .int zi1884) (C := RX7) (T := TX7) (N := 13) hx hb hT iw_X7 hown hK hw hW kd1825 (by decide) rfl rfl 2 (by decide) eq1883 (hK.fl nw_318) (fun _ h9 => h9) dX1_expand_211 ?_
              refine kq_i hw hS hA (va_runV (As := [.int zi1884]) (rest := [.int zi1881, .int zi904, .ref qa1878]) ⟨hx, hb, hml, hown, hT⟩ (cX10_liarsBy_0 l G cy ev K ln Ls hW _ hp1874 ok1876 qa901 zi1884 kd1291) (cwV 1 hT (good_V tb_1331 tb_1328 tb_1329 tb_1330 tb_107) rfl rfl rfl (by decide +kernel) ⟨Nat.le_of_ble_eq_true rfl, Nat.le_of_ble_eq_true rfl⟩) (pool_preV (ci := 10) hK hE hS hA hw hW kd1291 (by decide) rfl) rfl rfl hl.1 rfl (lv_room (Nat.le_of_ble_eq_true rfl)) dX1_expand_214 ⟨(show (gn - g0) + 0 ≤ 196608 from by omega), (show (14 * (gn - g0)) + 0 ≤ 2748928 from by omega)⟩) (fun zi1889 hp1885 H locs hq1888 hw hS => ?_)
              obtain ⟨ok1886, F1887⟩ := hq1888
              obtain rfl : hp1874 = hp1885 := (Fr.nil F1887).symm
              have hw : PW G cy K ln Ls A hp1874 H := hw
              refine lv_iand hx hb dX1_expand_217 (lv_topi (fun zi1890 ea1891 => ?_))
              refine p_iast (x := zi1890) hx hb hK hw hS hW kd1879 (by decide) rfl (hW.len kd1879 (n := 6) rfl (by decide)) (vp_b bd904 (by decide) (by decide)) dX1_expand_218 (fun hp1892 eh1893 H locs hw hS => ?_)
              have ok1894 := wr_25000 ok1876 kd1879 eh1893
              obtain ⟨zi1895, ea1896⟩ : ∃ z : Int32, z = zi1286 + 1 := ⟨_, rfl⟩
              have bd1897 : (1 : Int) ≤ zi1895.toInt ∧ zi1895.toInt ≤ 16 := b_iadd ea1896 bd1811 bc_1 (by decide) (by decide) (by decide) (by decide)
              have qe1898 : zi1895.toInt = (zi1286 : Int32).toInt + (1 : Int32).toInt := e_iadd ea1896 bd1811 bc_1 (by decide) (by decide)
              have qe1899 : zi1895.toInt = zi1286.toInt + 1 := by have ha : (1 : Int32).toInt = 1 := (by decide); rw [ha] at qe1898; exact qe1898
              refine lv_iinc (v := zi1895) (lv' := [(10, .int zi1895), (12, .long wl23), (11, .int 0), (0, .ref qa900), (1, .ref qa901), (2, .int zi902), (3, .int zi903), (4, .int zi904), (5, .int zi905), (6, .int zi10), (7, .int zi15), (8, .long wl23)]) hx hb dX1_expand_219 hl (k := 11) rfl ea1896.symm (by decide) rfl (fun ls hl => ?_)
              refine lv_goto (tgt := 36) hx hb dX1_expand_222 (by decide) ?_
              have pd1900 : NSx K ln hp1892 gn := NSx_fr ok1288  (show Fr [3003, 3004, 8000, 8001, 8002, 8004, 8006, 8008, 23000, 24000, 25000, 27000, 40000, 41000, 42000] K hp1287 hp1892 from (Fr.put (cq := 25000) (Fr.put (cq := 24000) (Fr.put (cq := 23000) (Fr.tr (Fr.tr (Fr.rf) F1828 (by decide)) F1834 (by decide)) eh1862 kd1857 (cd_a (by decide)) (by decide)) eh1875 kd1866 (cd_a (by decide)) (by decide)) eh1893 kd1879 (cd_a (by decide)) (by decide))) (by decide) pd1289
              exact ih1802 K ln Ls gn hp1892 zi1895 _ _ ls (by have := hm1804; have := qe1899; omega) hW gex (FrX.tr gfx gex (FrX.of (show Fr [3003, 3004, 8000, 8001, 8002, 8004, 8006, 8008, 23000, 24000, 25000, 27000, 40000, 41000, 42000] K hp1287 hp1892 from (Fr.put (cq := 25000) (Fr.put (cq := 24000) (Fr.put (cq := 23000) (Fr.tr (Fr.tr (Fr.rf) F1828 (by decide)) F1834 (by decide)) eh1862 kd1857 (cd_a (by decide)) (by decide)) eh1875 kd1866 (cd_a (by decide)) (by decide)) eh1893 kd1879 (cd_a (by decide)) (by decide)))) (by decide +kernel)) ok1894 pd1900 (by omega) kd1290 kd1291 (b_wid2 bd1897 (by decide) (by decide)) (lv_sub hl [3, 4, 5, 6, 7, 8, 9, 10, 11, 0] rfl) hw hS
            · skip
              have tf1901 : zi903.toInt < zi904.toInt := (fa_lt _ _).mp (Int32.not_le.mp cn1853)
              have bd1902 : (1 : Int) ≤ zi903.toInt ∧ zi903.toInt ≤ 4 := r_lt_x (Int32.not_le.mp cn1853) bd903 bd904 (by decide) (by decide)
              have bd1903 : (2 : Int) ≤ zi904.toInt ∧ zi904.toInt ≤ 5 := r_lt_y (Int32.not_le.mp cn1853) bd903 bd904 (by decide) (by decide)
              refine lv_aload_n hx hb dX1_expand_150 rfl (lv_at hl 2 rfl) ?_
              have eq1904 : hp1832 qa900 0 = .ref qa1821 := Eq.trans (Fr.at (cq := 2000) F1834 kd1290 (cd_o (by decide)) (by decide)) (Eq.trans (Fr.at (cq := 2000) F1828 kd1290 (cd_o (by decide)) (by decide)) eq1820)
              refine p_get (ci := 1) (v := .ref qa1821) (C := RX1) (T := TX1) (N := 8) hx hb hT iw_X1 hown hK hw hW kd1290 (by decide) rfl rfl 0 (by decide) eq1904 (hT _ tb_628) (fun _ h9 => h9) dX1_expand_151 ?_
              refine lv_aload_n hx hb dX1_expand_154 rfl (lv_at hl 2 rfl) ?_
              refine p_get (ci := 1) (v := .ref qa1824) (C := RX1) (T := TX1) (N := 8) hx hb hT iw_X1 hown hK hw hW kd1290 (by decide) rfl rfl 1 (by decide) eq1838 (hT _ tb_629) (fun _ h9 => h9) dX1_expand_155 ?_
              refine lv_iconst (v := 0) hx hb dX1_expand_158 (by decide) ?_
              refine lv_lload hx hb dX1_expand_159 (lv_at hl 0 rfl) ?_
              refine lv_iload hx hb dX1_expand_161 (lv_at hl 7 rfl) ?_
              have pd1905 : NSx K ln hp1832 gn := NSx_fr ok1288  (show Fr [3003, 3004, 8000, 8001, 8002, 8004, 8006, 8008, 27000, 40000, 41000, 42000] K hp1287 hp1832 from (Fr.tr (Fr.tr (Fr.rf) F1828 (by decide)) F1834 (by decide))) (by decide) pd1289
              have gf1913 : FrX wsC K0 hp0 hp1832 := (FrX.tr gfx gex (FrX.of (show Fr [3003, 3004, 8000, 8001, 8002, 8004, 8006, 8008, 27000, 40000, 41000, 42000] K hp1287 hp1832 from (Fr.tr (Fr.tr (Fr.rf) F1828 (by decide)) F1834 (by decide)))) (by decide +kernel))
              refine kg_v hw hS hA (va_runV (As := [.ref qa1824, .int 0, .long wl23, .int zi905]) (rest := []) ⟨hx, hb, hml, hown, hT⟩ (Met.szx (cX3_add_vG_0 l G cy ev K ln Ls hW _ hp1832 ok1833 qa1821 qa1824 0 wl23 zi905 gn kd1822 kd1825 pd1905)) (cwV 4 hT (good_V tb_1142 tb_1319 tb_1140 tb_1141 tb_117) rfl rfl rfl (by decide +kernel) ⟨Nat.le_of_ble_eq_true rfl, Nat.le_of_ble_eq_true rfl⟩) (pool_preV (ci := 3) hK hE hS hA hw hW kd1822 (by decide) rfl) rfl rfl hl.1 rfl (lv_room (Nat.le_of_ble_eq_true rfl)) dX1_expand_163 ⟨(show (gn - g0) + 65536 ≤ 196608 from by omega), (show (14 * (gn - g0)) + 917504 ≤ 2748928 from by omega)⟩) (fun u gn H locs hq1906 hw hS => ?_)
              obtain ⟨K, ln, Ls, hp1907⟩ := u
              obtain ⟨ex1909, hW, ok1908, fx1910, pd1911, hle1912⟩ := hq1906
              have ex1909 : EXx _ _ K ln := ex1909
              have hW : SW K ln Ls := hW
              have ok1908 : Ok K hp1907 := ok1908
              have fx1910 : FrX _ _ _ hp1907 := fx1910
              have pd1911 : NSx K ln hp1907 gn := pd1911
              have hle1912 : _ ≤ gn := hle1912
              have hw : PW G cy K ln Ls A hp1907 H := hw
              have gfx : FrX wsC K0 hp0 hp1907 := FrX.tr gf1913 gex fx1910 (by decide +kernel)
              have gex := EXx.tr gex ex1909
              have kd1916 := EXx.kd ex1909 kd1290 (by decide)
              have kd1917 := EXx.kd ex1909 kd1291 (by decide)
              (try clear kd1290); (try clear kd1291); (try clear kd1822); (try clear kd1825); (try clear kd1843)
              have hgn := NSx.bd pd1911
              refine W.widen (k := gn - g0) (n := 14 * (gn - g0)) (by omega) (by omega) ?_
              have hga : g0 ≤ gn := by omega
              refine lv_goto (tgt := 219) hx hb dX1_expand_166 (by decide) ?_
              obtain ⟨zi1918, ea1919⟩ : ∃ z : Int32, z = zi1286 + 1 := ⟨_, rfl⟩
              have bd1920 : (1 : Int) ≤ zi1918.toInt ∧ zi1918.toInt ≤ 16 := b_iadd ea1919 bd1811 bc_1 (by decide) (by decide) (by decide) (by decide)
              have qe1921 : zi1918.toInt = (zi1286 : Int32).toInt + (1 : Int32).toInt := e_iadd ea1919 bd1811 bc_1 (by decide) (by decide)
              have qe1922 : zi1918.toInt = zi1286.toInt + 1 := by have ha : (1 : Int32).toInt = 1 := (by decide); rw [ha] at qe1921; exact qe1921
              refine lv_iinc (v := zi1918) (lv' := [(10, .int zi1918), (12, .long wl23), (11, .int 0), (0, .ref qa900), (1, .ref qa901), (2, .int zi902), (3, .int zi903), (4, .int zi904), (5, .int zi905), (6, .int zi10), (7, .int zi15), (8, .long wl23)]) hx hb dX1_expand_219 hl (k := 11) rfl ea1919.symm (by decide) rfl (fun ls hl => ?_)
              refine lv_goto (tgt := 36) hx hb dX1_expand_222 (by decide) ?_
              exact ih1802 K ln Ls gn hp1907 zi1918 _ _ ls (by have := hm1804; have := qe1922; omega) hW gex gfx ok1908 pd1911 (by omega) kd1916 kd1917 (b_wid2 bd1920 (by decide) (by decide)) (lv_sub hl [3, 4, 5, 6, 7, 8, 9, 10, 11, 0] rfl) hw hS
          · skip
            have tf1923 : (zi1840 : Int32).toInt ≠ (zi1850 : Int32).toInt := fun e => cn1851 (Int32.toInt_inj.mp e)
            refine lv_goto (tgt := 219) hx hb dX1_expand_120 (by decide) ?_
            obtain ⟨zi1924, ea1925⟩ : ∃ z : Int32, z = zi1286 + 1 := ⟨_, rfl⟩
            have bd1926 : (1 : Int) ≤ zi1924.toInt ∧ zi1924.toInt ≤ 16 := b_iadd ea1925 bd1811 bc_1 (by decide) (by decide) (by decide) (by decide)
            have qe1927 : zi1924.toInt = (zi1286 : Int32).toInt + (1 : Int32).toInt := e_iadd ea1925 bd1811 bc_1 (by decide) (by decide)
            have qe1928 : zi1924.toInt = zi1286.toInt + 1 := by have ha : (1 : Int32).toInt = 1 := (by decide); rw [ha] at qe1927; exact qe1927
            refine lv_iinc (v := zi1924) (lv' := [(10, .int zi1924), (11, .int 0), (0, .ref qa900), (1, .ref qa901), (2, .int zi902), (3, .int zi903), (4, .int zi904), (5, .int zi905), (6, .int zi10), (7, .int zi15), (8, .long wl23)]) hx hb dX1_expand_219 hl (k := 10) rfl ea1925.symm (by decide) rfl (fun ls hl => ?_)
            refine lv_goto (tgt := 36) hx hb dX1_expand_222 (by decide) ?_
            have pd1929 : NSx K ln hp1832 gn := NSx_fr ok1288  (show Fr [3003, 3004, 8000, 8001, 8002, 8004, 8006, 8008, 27000, 40000, 41000, 42000] K hp1287 hp1832 from (Fr.tr (Fr.tr (Fr.rf) F1828 (by decide)) F1834 (by decide))) (by decide) pd1289
            exact ih1802 K ln Ls gn hp1832 zi1924 _ _ ls (by have := hm1804; have := qe1928; omega) hW gex (FrX.tr gfx gex (FrX.of (show Fr [3003, 3004, 8000, 8001, 8002, 8004, 8006, 8008, 27000, 40000, 41000, 42000] K hp1287 hp1832 from (Fr.tr (Fr.tr (Fr.rf) F1828 (by decide)) F1834 (by decide)))) (by decide +kernel)) ok1833 pd1929 (by omega) kd1290 kd1291 (b_wid2 bd1926 (by decide) (by decide)) (lv_sub hl [2, 3, 4, 5, 6, 7, 8, 9, 10, 0] rfl) hw hS
        · skip
          have tf1930 : (zi1815 : Int32).toInt ≠ (0 : Int32).toInt := fun e => cn1818 (Int32.toInt_inj.mp e)
          have := toi bc_0
          have bd1931 : (1 : Int) ≤ zi1815.toInt ∧ zi1815.toInt ≤ 1 := r_ne_lo cn1818 bd1817 (toi bc_0) (by decide) (by decide)
          refine lv_iconst (v := 1) hx hb dX1_expand_55 (by decide) ?_
          refine lv_goto (tgt := 60) hx hb dX1_expand_56 (by decide) ?_
          refine lv_istore (lv' := [(11, .int 1), (0, .ref qa900), (1, .ref qa901), (2, .int zi902), (3, .int zi903), (4, .int zi904), (5, .int zi905), (6, .int zi10), (7, .int zi15), (8, .long wl23), (10, .int zi1286)]) hx hb dX1_expand_60 hl (by decide) rfl (fun ls hl => ?_)
          refine lv_iload hx hb dX1_expand_62 (lv_at hl 0 rfl) ?_
          refine lv_if_eq (tgt := 79) hx hb dX1_expand_64 (by decide) (fun c => absurd c (d_ne bc_1 bc_0 (by decide))) (fun _ => ?_)
          refine lv_iconst (v := 1) hx hb dX1_expand_67 (by decide) ?_
          refine lv_iload hx hb dX1_expand_68 (lv_at hl 10 rfl) ?_
          refine lv_ishl hx hb dX1_expand_70 (lv_topi (fun zi1932 ea1933 => ?_))
          have bd1934 : (1 : Int) ≤ zi1932.toInt ∧ zi1932.toInt ≤ 32768 := b_shl1 15 ea1933 bd1811 (by decide) (by decide) (by decide) (by decide) (by decide)
          refine lv_iload hx hb dX1_expand_71 (lv_at hl 8 rfl) ?_
          refine lv_icmp_eq (tgt := 79) hx hb dX1_expand_73 (by decide) (fun cn1935 => ?_) (fun cn1935 => ?_)
          · skip
            have tf1936 : zi1932.toInt = zi15.toInt := congrArg Int32.toInt cn1935
            have bd1937 : (1 : Int) ≤ zi15.toInt ∧ zi15.toInt ≤ 32768 := r_eq_x (cn1935).symm bd17 bd1934 (by decide) (by decide)
            refine lv_aload_n hx hb dX1_expand_79 rfl (lv_at hl 1 rfl) ?_
            obtain ⟨qa1939, eq1938, kd1940⟩ := rd_2000 ok1288 kd1290
            refine p_get (ci := 1) (v := .ref qa1939) (C := RX1) (T := TX1) (N := 8) hx hb hT iw_X1 hown hK hw hW kd1290 (by decide) rfl rfl 0 (by decide) eq1938 (hT _ tb_628) (fun _ h9 => h9) dX1_expand_80 ?_
            refine lv_iload_n hx hb dX1_expand_83 rfl (lv_at hl 3 rfl) ?_
            refine lv_aload_n hx hb dX1_expand_84 rfl (lv_at hl 1 rfl) ?_
            obtain ⟨qa1942, eq1941, kd1943⟩ := rd_2001 ok1288 kd1290
            refine p_get (ci := 1) (v := .ref qa1942) (C := RX1) (T := TX1) (N := 8) hx hb hT iw_X1 hown hK hw hW kd1290 (by decide) rfl rfl 1 (by decide) eq1941 (hT _ tb_629) (fun _ h9 => h9) dX1_expand_85 ?_
            refine kq_v hw hS hA (va_runV (As := [.int zi902, .ref qa1942]) (rest := []) ⟨hx, hb, hml, hown, hT⟩ (cX3_load_0 l G cy ev K ln Ls hW _ hp1287 ok1288 qa1939 zi902 qa1942 gn kd1940 kd1943 pd1289) (cwV 2 hT (good_V tb_1196 tb_1325 tb_1194 tb_1195 tb_117) rfl rfl rfl (by decide +kernel) ⟨Nat.le_of_ble_eq_true rfl, Nat.le_of_ble_eq_true rfl⟩) (pool_preV (ci := 3) hK hE hS hA hw hW kd1940 (by decide) rfl) rfl rfl hl.1 rfl (lv_room (Nat.le_of_ble_eq_true rfl)) dX1_expand_88 ⟨(show (gn - g0) + 0 ≤ 196608 from by omega), (show (14 * (gn - g0)) + 0 ≤ 2748928 from by omega)⟩) (fun hp1944 H locs hq1947 hw hS => ?_)
            obtain ⟨ok1945, F1946⟩ := hq1947
            have hw : PW G cy K ln Ls A hp1944 H := hw
            refine lv_aload_n hx hb dX1_expand_91 rfl (lv_at hl 1 rfl) ?_
            have eq1949 : hp1944 qa900 1 = .ref qa1942 := Eq.trans (Fr.at (cq := 2001) F1946 kd1290 (cd_o (by decide)) (by decide)) eq1941
            refine p_get (ci := 1) (v := .ref qa1942) (C := RX1) (T := TX1) (N := 8) hx hb hT iw_X1 hown hK hw hW kd1290 (by decide) rfl rfl 1 (by decide) eq1949 (hT _ tb_629) (fun _ h9 => h9) dX1_expand_92 ?_
            refine lv_aload_n hx hb dX1_expand_95 rfl (lv_at hl 2 rfl) ?_
            refine lv_iload hx hb dX1_expand_96 (lv_at hl 10 rfl) ?_
            refine kq_i hw hS hA (va_runV (As := [.ref qa901, .int zi1286]) (rest := []) ⟨hx, hb, hml, hown, hT⟩ (cX7_utter_0 l G cy ev K ln Ls hW _ hp1944 ok1945 qa1942 qa901 zi1286 kd1943 kd1291 (b_wid2 bd1811 (by decide) (by decide))) (cwV 2 hT (good_V tb_1059 tb_1326 tb_1057 tb_1058 tb_115) rfl rfl rfl (by decide +kernel) ⟨Nat.le_of_ble_eq_true rfl, Nat.le_of_ble_eq_true rfl⟩) (pool_preV (ci := 7) hK hE hS hA hw hW kd1943 (by decide) rfl) rfl rfl hl.1 rfl (lv_room (Nat.le_of_ble_eq_true rfl)) dX1_expand_98 ⟨(show (gn - g0) + 0 ≤ 196608 from by omega), (show (14 * (gn - g0)) + 0 ≤ 2748928 from by omega)⟩) (fun zi1954 hp1950 H locs hq1953 hw hS => ?_)
            obtain ⟨ok1951, F1952, bd1955⟩ := hq1953
            have hw : PW G cy K ln Ls A hp1950 H := hw
            refine lv_pop hx hb dX1_expand_101 rfl ?_
            refine lv_aload_n hx hb dX1_expand_102 rfl (lv_at hl 1 rfl) ?_
            have eq1956 : hp1950 qa900 1 = .ref qa1942 := Eq.trans (Fr.at (cq := 2001) F1952 kd1290 (cd_o (by decide)) (by decide)) eq1949
            refine p_get (ci := 1) (v := .ref qa1942) (C := RX1) (T := TX1) (N := 8) hx hb hT iw_X1 hown hK hw hW kd1290 (by decide) rfl rfl 1 (by decide) eq1956 (hT _ tb_629) (fun _ h9 => h9) dX1_expand_103 ?_
            obtain ⟨zi1958, eq1957⟩ := rd_8000 ok1951 kd1943
            refine p_getN (ci := 7) (v := .int zi1958) (C := RX7) (T := TX7) (N := 13) hx hb hT iw_X7 hown hK hw hW kd1943 (by decide) rfl rfl 0 (by decide) eq1957 (hK.fl nw_310) (fun _ h9 => h9) dX1_expand_106 ?_
            refine lv_aload_n hx hb dX1_expand_109 rfl (lv_at hl 1 rfl) ?_
            obtain ⟨qa1960, eq1959, kd1961⟩ := rd_2002 ok1951 kd1290
            refine p_get (ci := 1) (v := .ref qa1960) (C := RX1) (T := TX1) (N := 8) hx hb hT iw_X1 hown hK hw hW kd1290 (by decide) rfl rfl 2 (by decide) eq1959 (hT _ tb_630) (fun _ h9 => h9) dX1_expand_110 ?_
            refine lv_iload_n hx hb dX1_expand_113 rfl (lv_at hl 4 rfl) ?_
            refine lv_iconst (v := 1) hx hb dX1_expand_114 (by decide) ?_
            refine lv_isub hx hb dX1_expand_115 (lv_topi (fun zi1962 ea1963 => ?_))
            have bd1964 : (0 : Int) ≤ zi1962.toInt ∧ zi1962.toInt ≤ 4 := b_isub ea1963 bd903 bc_1 (by decide) (by decide) (by decide) (by decide)
            have qe1965 : zi1962.toInt = (zi903 : Int32).toInt - (1 : Int32).toInt := e_isub ea1963 bd903 bc_1 (by decide) (by decide)
            have qe1966 : zi1962.toInt = zi903.toInt - 1 := by have ha : (1 : Int32).toInt = 1 := (by decide); rw [ha] at qe1965; exact qe1965
            obtain ⟨zi1968, eq1967⟩ := rd_21000 ok1951 kd1961 ((zi1962 : Int32).toNatClampNeg)
            refine p_iald (v := zi1968) hx hb hK hw hW kd1961 (by decide) rfl (hW.len kd1961 (n := 5) rfl (by decide)) (vp_b bd1964 (by decide) (by decide)) eq1967 dX1_expand_116 ?_
            refine lv_icmp_eq (tgt := 123) hx hb dX1_expand_117 (by decide) (fun cn1969 => ?_) (fun cn1969 => ?_)
            · skip
              have tf1970 : zi1958.toInt = zi1968.toInt := congrArg Int32.toInt cn1969
              refine lv_iload hx hb dX1_expand_123 (lv_at hl 0 rfl) ?_
              refine lv_if_eq (tgt := 140) hx hb dX1_expand_125 (by decide) (fun c => absurd c (d_ne bc_1 bc_0 (by decide))) (fun _ => ?_)
              refine lv_lload hx hb dX1_expand_128 (lv_at hl 9 rfl) ?_
              refine lv_iload hx hb dX1_expand_130 (lv_at hl 7 rfl) ?_
              refine kq_i hw hS hA (va_runS (As := [.int zi10]) (rest := [.long wl23]) ⟨hx, hb, hml, hown, hT⟩ (cJ6_bitCount_0f7a4_0 l G cy ev K ln Ls hW _ hp1950 ok1951 zi10) (va_cwS 1 hT (good_S tb_1010 tb_1327 tb_1009 tb_126) rfl rfl rfl (by decide +kernel) ⟨Nat.le_of_ble_eq_true rfl, Nat.le_of_ble_eq_true rfl⟩) (PB2.preS hK hE hS hA hw) rfl rfl hl.1 rfl (lv_room (Nat.le_of_ble_eq_true rfl)) dX1_expand_132 ⟨(show (gn - g0) + 0 ≤ 196608 from by omega), (show (14 * (gn - g0)) + 0 ≤ 2748928 from by omega)⟩) (fun zi1975 hp1971 H locs hq1974 hw hS => ?_)
              obtain ⟨ok1972, F1973, bd1976, ef1977⟩ := hq1974
              obtain rfl : hp1950 = hp1971 := (Fr.nil F1973).symm
              have hw : PW G cy K ln Ls A hp1950 H := hw
              refine lv_i2l hx hb dX1_expand_135 rfl (lv_topl (fun wl1978 _ => ?_))
              refine lv_lmul hx hb dX1_expand_136 (lv_topl (fun wl1979 _ => ?_))
              refine lv_goto (tgt := 142) hx hb dX1_expand_137 (by decide) ?_
              refine lv_lstore (lv' := [(12, .long wl1979), (11, .int 1), (0, .ref qa900), (1, .ref qa901), (2, .int zi902), (3, .int zi903), (4, .int zi904), (5, .int zi905), (6, .int zi10), (7, .int zi15), (8, .long wl23), (10, .int zi1286)]) hx hb dX1_expand_142 hl (by decide) rfl (fun ls hl => ?_)
              refine lv_iload_n hx hb dX1_expand_144 rfl (lv_at hl 5 rfl) ?_
              refine lv_iload hx hb dX1_expand_145 (lv_at hl 6 rfl) ?_
              refine lv_icmp_ge (tgt := 169) hx hb dX1_expand_147 (by decide) (fun cn1980 => ?_) (fun cn1980 => ?_)
              · skip
                have tf1981 : zi904.toInt ≤ zi903.toInt := (fa_le _ _).mp cn1980
                refine lv_aload_n hx hb dX1_expand_169 rfl (lv_at hl 2 rfl) ?_
                obtain ⟨qa1983, eq1982, kd1984⟩ := rd_2005 ok1951 kd1290
                refine p_get (ci := 1) (v := .ref qa1983) (C := RX1) (T := TX1) (N := 8) hx hb hT iw_X1 hown hK hw hW kd1290 (by decide) rfl rfl 5 (by decide) eq1982 (hT _ tb_634) (fun _ h9 => h9) dX1_expand_170 ?_
                refine lv_iload hx hb dX1_expand_173 (lv_at hl 6 rfl) ?_
                refine lv_dup2_11 hx hb dX1_expand_175 rfl rfl ?_
                obtain ⟨wl1986, eq1985⟩ := rd_23000 ok1951 kd1984 ((zi904 : Int32).toNatClampNeg)
                refine p_lald (v := wl1986) hx hb hK hw hW kd1984 (by decide) rfl (hW.len kd1984 (n := 6) rfl (by decide)) (vp_b bd904 (by decide) (by decide)) eq1985 dX1_expand_176 ?_
                refine lv_lload hx hb dX1_expand_177 (lv_at hl 0 rfl) ?_
                refine lv_ladd hx hb dX1_expand_179 (lv_topl (fun wl1987 _ => ?_))
                refine p_last (x := wl1987) hx hb hK hw hS hW kd1984 (by decide) rfl (hW.len kd1984 (n := 6) rfl (by decide)) (vp_b bd904 (by decide) (by decide)) dX1_expand_180 (fun hp1988 eh1989 H locs hw hS => ?_)
                have ok1990 := wr_23000 ok1951 kd1984 eh1989
                refine lv_aload_n hx hb dX1_expand_181 rfl (lv_at hl 2 rfl) ?_
                obtain ⟨qa1992, eq1991, kd1993⟩ := rd_2006 ok1990 kd1290
                refine p_get (ci := 1) (v := .ref qa1992) (C := RX1) (T := TX1) (N := 8) hx hb hT iw_X1 hown hK hw hW kd1290 (by decide) rfl rfl 6 (by decide) eq1991 (hT _ tb_636) (fun _ h9 => h9) dX1_expand_182 ?_
                refine lv_iload hx hb dX1_expand_185 (lv_at hl 6 rfl) ?_
                refine lv_dup2_11 hx hb dX1_expand_187 rfl rfl ?_
                obtain ⟨zi1995, eq1994⟩ := rd_24000 ok1990 kd1993 ((zi904 : Int32).toNatClampNeg)
                refine p_iald (v := zi1995) hx hb hK hw hW kd1993 (by decide) rfl (hW.len kd1993 (n := 6) rfl (by decide)) (vp_b bd904 (by decide) (by decide)) eq1994 dX1_expand_188 ?_
                refine lv_aload_n hx hb dX1_expand_189 rfl (lv_at hl 2 rfl) ?_
                have eq1996 : hp1988 qa900 1 = .ref qa1942 := Eq.trans (up_at eh1989 (Or.inl (kd_ne kd1290 kd1984 (by decide)))) eq1956
                refine p_get (ci := 1) (v := .ref qa1942) (C := RX1) (T := TX1) (N := 8) hx hb hT iw_X1 hown hK hw hW kd1290 (by decide) rfl rfl 1 (by decide) eq1996 (hT _ tb_629) (fun _ h9 => h9) dX1_expand_190 ?_
                obtain ⟨zi1998, eq1997⟩ := rd_8001 ok1990 kd1943
                refine p_getN (ci := 7) (v := .int zi1998) (C := RX7) (T := TX7) (N := 13) hx hb hT iw_X7 hown hK hw hW kd1943 (by decide) rfl rfl 1 (by decide) eq1997 (hK.fl nw_314) (fun _ h9 => h9) dX1_expand_193 ?_
                refine lv_iand hx hb dX1_expand_196 (lv_topi (fun zi1999 ea2000 => ?_))
                refine p_iast (x := zi1999) hx hb hK hw hS hW kd1993 (by decide) rfl (hW.len kd1993 (n := 6) rfl (by decide)) (vp_b bd904 (by decide) (by decide)) dX1_expand_197 (fun hp2001 eh2002 H locs hw hS => ?_)
                have ok2003 := wr_24000 ok1990 kd1993 eh2002
                refine lv_aload_n hx hb dX1_expand_198 rfl (lv_at hl 2 rfl) ?_
                obtain ⟨qa2005, eq2004, kd2006⟩ := rd_2007 ok2003 kd1290
                refine p_get (ci := 1) (v := .ref qa2005) (C := RX1) (T := TX1) (N := 8) hx hb hT iw_X1 hown hK hw hW kd1290 (by decide) rfl rfl 7 (by decide) eq2004 (hT _ tb_638) (fun _ h9 => h9) dX1_expand_199 ?_
                refine lv_iload hx hb dX1_expand_202 (lv_at hl 6 rfl) ?_
                refine lv_dup2_11 hx hb dX1_expand_204 rfl rfl ?_
                obtain ⟨zi2008, eq2007⟩ := rd_25000 ok2003 kd2006 ((zi904 : Int32).toNatClampNeg)
                refine p_iald (v := zi2008) hx hb hK hw hW kd2006 (by decide) rfl (hW.len kd2006 (n := 6) rfl (by decide)) (vp_b bd904 (by decide) (by decide)) eq2007 dX1_expand_205 ?_
                refine lv_aload_n hx hb dX1_expand_206 rfl (lv_at hl 3 rfl) ?_
                refine lv_aload_n hx hb dX1_expand_207 rfl (lv_at hl 2 rfl) ?_
                have eq2009 : hp2001 qa900 1 = .ref qa1942 := Eq.trans (up_at eh2002 (Or.inl (kd_ne kd1290 kd1993 (by decide)))) eq1996
                refine p_get (ci := 1) (v := .ref qa1942) (C := RX1) (T := TX1) (N := 8) hx hb hT iw_X1 hown hK hw hW kd1290 (by decide) rfl rfl 1 (by decide) eq2009 (hT _ tb_629) (fun _ h9 => h9) dX1_expand_208 ?_
                obtain ⟨zi2011, eq2010⟩ := rd_8002 ok2003 kd1943
                refine p_getN (ci := 7) (v := .int zi2011) (C := RX7) (T := TX7) (N := 13) hx hb hT iw_X7 hown hK hw hW kd1943 (by decide) rfl rfl 2 (by decide) eq2010 (hK.fl nw_318) (fun _ h9 => h9) dX1_expand_211 ?_
                refine kq_i hw hS hA (va_runV (As := [.int zi2011]) (rest := [.int zi2008, .int zi904, .ref qa2005]) ⟨hx, hb, hml, hown, hT⟩ (cX10_liarsBy_0 l G cy ev K ln Ls hW _ hp2001 ok2003 qa901 zi2011 kd1291) (cwV 1 hT (good_V tb_1331 tb_1328 tb_1329 tb_1330 tb_107) rfl rfl rfl (by decide +kernel) ⟨Nat.le_of_ble_eq_true rfl, Nat.le_of_ble_eq_true rfl⟩) (pool_preV (ci := 10) hK hE hS hA hw hW kd1291 (by decide) rfl) rfl rfl hl.1 rfl (lv_room (Nat.le_of_ble_eq_true rfl)) dX1_expand_214 ⟨(show (gn - g0) + 0 ≤ 196608 from by omega), (show (14 * (gn - g0)) + 0 ≤ 2748928 from by omega)⟩) (fun zi2016 hp2012 H locs hq2015 hw hS => ?_)
                obtain ⟨ok2013, F2014⟩ := hq2015
                obtain rfl : hp2001 = hp2012 := (Fr.nil F2014).symm
                have hw : PW G cy K ln Ls A hp2001 H := hw
                refine lv_iand hx hb dX1_expand_217 (lv_topi (fun zi2017 ea2018 => ?_))
                refine p_iast (x := zi2017) hx hb hK hw hS hW kd2006 (by decide) rfl (hW.len kd2006 (n := 6) rfl (by decide)) (vp_b bd904 (by decide) (by decide)) dX1_expand_218 (fun hp2019 eh2020 H locs hw hS => ?_)
                have ok2021 := wr_25000 ok2003 kd2006 eh2020
                obtain ⟨zi2022, ea2023⟩ : ∃ z : Int32, z = zi1286 + 1 := ⟨_, rfl⟩
                have bd2024 : (1 : Int) ≤ zi2022.toInt ∧ zi2022.toInt ≤ 16 := b_iadd ea2023 bd1811 bc_1 (by decide) (by decide) (by decide) (by decide)
                have qe2025 : zi2022.toInt = (zi1286 : Int32).toInt + (1 : Int32).toInt := e_iadd ea2023 bd1811 bc_1 (by decide) (by decide)
                have qe2026 : zi2022.toInt = zi1286.toInt + 1 := by have ha : (1 : Int32).toInt = 1 := (by decide); rw [ha] at qe2025; exact qe2025
                refine lv_iinc (v := zi2022) (lv' := [(10, .int zi2022), (12, .long wl1979), (11, .int 1), (0, .ref qa900), (1, .ref qa901), (2, .int zi902), (3, .int zi903), (4, .int zi904), (5, .int zi905), (6, .int zi10), (7, .int zi15), (8, .long wl23)]) hx hb dX1_expand_219 hl (k := 11) rfl ea2023.symm (by decide) rfl (fun ls hl => ?_)
                refine lv_goto (tgt := 36) hx hb dX1_expand_222 (by decide) ?_
                have pd2027 : NSx K ln hp2019 gn := NSx_fr ok1288  (show Fr [3003, 3004, 8000, 8001, 8002, 8004, 8006, 8008, 23000, 24000, 25000, 27000, 40000, 41000, 42000] K hp1287 hp2019 from (Fr.put (cq := 25000) (Fr.put (cq := 24000) (Fr.put (cq := 23000) (Fr.tr (Fr.tr (Fr.rf) F1946 (by decide)) F1952 (by decide)) eh1989 kd1984 (cd_a (by decide)) (by decide)) eh2002 kd1993 (cd_a (by decide)) (by decide)) eh2020 kd2006 (cd_a (by decide)) (by decide))) (by decide) pd1289
                exact ih1802 K ln Ls gn hp2019 zi2022 _ _ ls (by have := hm1804; have := qe2026; omega) hW gex (FrX.tr gfx gex (FrX.of (show Fr [3003, 3004, 8000, 8001, 8002, 8004, 8006, 8008, 23000, 24000, 25000, 27000, 40000, 41000, 42000] K hp1287 hp2019 from (Fr.put (cq := 25000) (Fr.put (cq := 24000) (Fr.put (cq := 23000) (Fr.tr (Fr.tr (Fr.rf) F1946 (by decide)) F1952 (by decide)) eh1989 kd1984 (cd_a (by decide)) (by decide)) eh2002 kd1993 (cd_a (by decide)) (by decide)) eh2020 kd2006 (cd_a (by decide)) (by decide)))) (by decide +kernel)) ok2021 pd2027 (by omega) kd1290 kd1291 (b_wid2 bd2024 (by decide) (by decide)) (lv_sub hl [3, 4, 5, 6, 7, 8, 9, 10, 11, 0] rfl) hw hS
              · skip
                have tf2028 : zi903.toInt < zi904.toInt := (fa_lt _ _).mp (Int32.not_le.mp cn1980)
                have bd2029 : (1 : Int) ≤ zi903.toInt ∧ zi903.toInt ≤ 4 := r_lt_x (Int32.not_le.mp cn1980) bd903 bd904 (by decide) (by decide)
                have bd2030 : (2 : Int) ≤ zi904.toInt ∧ zi904.toInt ≤ 5 := r_lt_y (Int32.not_le.mp cn1980) bd903 bd904 (by decide) (by decide)
                refine lv_aload_n hx hb dX1_expand_150 rfl (lv_at hl 2 rfl) ?_
                have eq2031 : hp1950 qa900 0 = .ref qa1939 := Eq.trans (Fr.at (cq := 2000) F1952 kd1290 (cd_o (by decide)) (by decide)) (Eq.trans (Fr.at (cq := 2000) F1946 kd1290 (cd_o (by decide)) (by decide)) eq1938)
                refine p_get (ci := 1) (v := .ref qa1939) (C := RX1) (T := TX1) (N := 8) hx hb hT iw_X1 hown hK hw hW kd1290 (by decide) rfl rfl 0 (by decide) eq2031 (hT _ tb_628) (fun _ h9 => h9) dX1_expand_151 ?_
                refine lv_aload_n hx hb dX1_expand_154 rfl (lv_at hl 2 rfl) ?_
                refine p_get (ci := 1) (v := .ref qa1942) (C := RX1) (T := TX1) (N := 8) hx hb hT iw_X1 hown hK hw hW kd1290 (by decide) rfl rfl 1 (by decide) eq1956 (hT _ tb_629) (fun _ h9 => h9) dX1_expand_155 ?_
                refine lv_iconst (v := 0) hx hb dX1_expand_158 (by decide) ?_
                refine lv_lload hx hb dX1_expand_159 (lv_at hl 0 rfl) ?_
                refine lv_iload hx hb dX1_expand_161 (lv_at hl 7 rfl) ?_
                have pd2032 : NSx K ln hp1950 gn := NSx_fr ok1288  (show Fr [3003, 3004, 8000, 8001, 8002, 8004, 8006, 8008, 27000, 40000, 41000, 42000] K hp1287 hp1950 from (Fr.tr (Fr.tr (Fr.rf) F1946 (by decide)) F1952 (by decide))) (by decide) pd1289
                have gf2040 : FrX wsC K0 hp0 hp1950 := (FrX.tr gfx gex (FrX.of (show Fr [3003, 3004, 8000, 8001, 8002, 8004, 8006, 8008, 27000, 40000, 41000, 42000] K hp1287 hp1950 from (Fr.tr (Fr.tr (Fr.rf) F1946 (by decide)) F1952 (by decide)))) (by decide +kernel))
                refine kg_v hw hS hA (va_runV (As := [.ref qa1942, .int 0, .long wl1979, .int zi905]) (rest := []) ⟨hx, hb, hml, hown, hT⟩ (Met.szx (cX3_add_vG_0 l G cy ev K ln Ls hW _ hp1950 ok1951 qa1939 qa1942 0 wl1979 zi905 gn kd1940 kd1943 pd2032)) (cwV 4 hT (good_V tb_1142 tb_1319 tb_1140 tb_1141 tb_117) rfl rfl rfl (by decide +kernel) ⟨Nat.le_of_ble_eq_true rfl, Nat.le_of_ble_eq_true rfl⟩) (pool_preV (ci := 3) hK hE hS hA hw hW kd1940 (by decide) rfl) rfl rfl hl.1 rfl (lv_room (Nat.le_of_ble_eq_true rfl)) dX1_expand_163 ⟨(show (gn - g0) + 65536 ≤ 196608 from by omega), (show (14 * (gn - g0)) + 917504 ≤ 2748928 from by omega)⟩) (fun u gn H locs hq2033 hw hS => ?_)
                obtain ⟨K, ln, Ls, hp2034⟩ := u
                obtain ⟨ex2036, hW, ok2035, fx2037, pd2038, hle2039⟩ := hq2033
                have ex2036 : EXx _ _ K ln := ex2036
                have hW : SW K ln Ls := hW
                have ok2035 : Ok K hp2034 := ok2035
                have fx2037 : FrX _ _ _ hp2034 := fx2037
                have pd2038 : NSx K ln hp2034 gn := pd2038
                have hle2039 : _ ≤ gn := hle2039
                have hw : PW G cy K ln Ls A hp2034 H := hw
                have gfx : FrX wsC K0 hp0 hp2034 := FrX.tr gf2040 gex fx2037 (by decide +kernel)
                have gex := EXx.tr gex ex2036
                have kd2043 := EXx.kd ex2036 kd1290 (by decide)
                have kd2044 := EXx.kd ex2036 kd1291 (by decide)
                (try clear kd1290); (try clear kd1291); (try clear kd1940); (try clear kd1943); (try clear kd1961)
                have hgn := NSx.bd pd2038
                refine W.widen (k := gn - g0) (n := 14 * (gn - g0)) (by omega) (by omega) ?_
                have hga : g0 ≤ gn := by omega
                refine lv_goto (tgt := 219) hx hb dX1_expand_166 (by decide) ?_
                obtain ⟨zi2045, ea2046⟩ : ∃ z : Int32, z = zi1286 + 1 := ⟨_, rfl⟩
                have bd2047 : (1 : Int) ≤ zi2045.toInt ∧ zi2045.toInt ≤ 16 := b_iadd ea2046 bd1811 bc_1 (by decide) (by decide) (by decide) (by decide)
                have qe2048 : zi2045.toInt = (zi1286 : Int32).toInt + (1 : Int32).toInt := e_iadd ea2046 bd1811 bc_1 (by decide) (by decide)
                have qe2049 : zi2045.toInt = zi1286.toInt + 1 := by have ha : (1 : Int32).toInt = 1 := (by decide); rw [ha] at qe2048; exact qe2048
                refine lv_iinc (v := zi2045) (lv' := [(10, .int zi2045), (12, .long wl1979), (11, .int 1), (0, .ref qa900), (1, .ref qa901), (2, .int zi902), (3, .int zi903), (4, .int zi904), (5, .int zi905), (6, .int zi10), (7, .int zi15), (8, .long wl23)]) hx hb dX1_expand_219 hl (k := 11) rfl ea2046.symm (by decide) rfl (fun ls hl => ?_)
                refine lv_goto (tgt := 36) hx hb dX1_expand_222 (by decide) ?_
                exact ih1802 K ln Ls gn hp2034 zi2045 _ _ ls (by have := hm1804; have := qe2049; omega) hW gex gfx ok2035 pd2038 (by omega) kd2043 kd2044 (b_wid2 bd2047 (by decide) (by decide)) (lv_sub hl [3, 4, 5, 6, 7, 8, 9, 10, 11, 0] rfl) hw hS
            · skip
              have tf2050 : (zi1958 : Int32).toInt ≠ (zi1968 : Int32).toInt := fun e => cn1969 (Int32.toInt_inj.mp e)
              refine lv_goto (tgt := 219) hx hb dX1_expand_120 (by decide) ?_
              obtain ⟨zi2051, ea2052⟩ : ∃ z : Int32, z = zi1286 + 1 := ⟨_, rfl⟩
              have bd2053 : (1 : Int) ≤ zi2051.toInt ∧ zi2051.toInt ≤ 16 := b_iadd ea2052 bd1811 bc_1 (by decide) (by decide) (by decide) (by decide)
              have qe2054 : zi2051.toInt = (zi1286 : Int32).toInt + (1 : Int32).toInt := e_iadd ea2052 bd1811 bc_1 (by decide) (by decide)
              have qe2055 : zi2051.toInt = zi1286.toInt + 1 := by have ha : (1 : Int32).toInt = 1 := (by decide); rw [ha] at qe2054; exact qe2054
              refine lv_iinc (v := zi2051) (lv' := [(10, .int zi2051), (11, .int 1), (0, .ref qa900), (1, .ref qa901), (2, .int zi902), (3, .int zi903), (4, .int zi904), (5, .int zi905), (6, .int zi10), (7, .int zi15), (8, .long wl23)]) hx hb dX1_expand_219 hl (k := 10) rfl ea2052.symm (by decide) rfl (fun ls hl => ?_)
              refine lv_goto (tgt := 36) hx hb dX1_expand_222 (by decide) ?_
              have pd2056 : NSx K ln hp1950 gn := NSx_fr ok1288  (show Fr [3003, 3004, 8000, 8001, 8002, 8004, 8006, 8008, 27000, 40000, 41000, 42000] K hp1287 hp1950 from (Fr.tr (Fr.tr (Fr.rf) F1946 (by decide)) F1952 (by decide))) (by decide) pd1289
              exact ih1802 K ln Ls gn hp1950 zi2051 _ _ ls (by have := hm1804; have := qe2055; omega) hW gex (FrX.tr gfx gex (FrX.of (show Fr [3003, 3004, 8000, 8001, 8002, 8004, 8006, 8008, 27000, 40000, 41000, 42000] K hp1287 hp1950 from (Fr.tr (Fr.tr (Fr.rf) F1946 (by decide)) F1952 (by decide)))) (by decide +kernel)) ok1951 pd2056 (by omega) kd1290 kd1291 (b_wid2 bd2053 (by decide) (by decide)) (lv_sub hl [2, 3, 4, 5, 6, 7, 8, 9, 10, 0] rfl) hw hS
          · skip
            have tf2057 : (zi1932 : Int32).toInt ≠ (zi15 : Int32).toInt := fun e => cn1935 (Int32.toInt_inj.mp e)
            refine lv_goto (tgt := 219) hx hb dX1_expand_76 (by decide) ?_
            obtain ⟨zi2058, ea2059⟩ : ∃ z : Int32, z = zi1286 + 1 := ⟨_, rfl⟩
            have bd2060 : (1 : Int) ≤ zi2058.toInt ∧ zi2058.toInt ≤ 16 := b_iadd ea2059 bd1811 bc_1 (by decide) (by decide) (by decide) (by decide)
            have qe2061 : zi2058.toInt = (zi1286 : Int32).toInt + (1 : Int32).toInt := e_iadd ea2059 bd1811 bc_1 (by decide) (by decide)
            have qe2062 : zi2058.toInt = zi1286.toInt + 1 := by have ha : (1 : Int32).toInt = 1 := (by decide); rw [ha] at qe2061; exact qe2061
            refine lv_iinc (v := zi2058) (lv' := [(10, .int zi2058), (11, .int 1), (0, .ref qa900), (1, .ref qa901), (2, .int zi902), (3, .int zi903), (4, .int zi904), (5, .int zi905), (6, .int zi10), (7, .int zi15), (8, .long wl23)]) hx hb dX1_expand_219 hl (k := 10) rfl ea2059.symm (by decide) rfl (fun ls hl => ?_)
            refine lv_goto (tgt := 36) hx hb dX1_expand_222 (by decide) ?_
            exact ih1802 K ln Ls gn hp1287 zi2058 _ _ ls (by have := hm1804; have := qe2062; omega) hW gex gfx ok1288 pd1289 (by omega) kd1290 kd1291 (b_wid2 bd2060 (by decide) (by decide)) (lv_sub hl [2, 3, 4, 5, 6, 7, 8, 9, 10, 0] rfl) hw hS
  exact lp1803 _ K ln Ls gn hp0 0 _ _ ls (lp_in _) hW gex gfx ok1 pdNS (by omega) kd900 kd901 (b_wid2 bc_0 (by decide) (by decide)) (lv_sub hl [4, 5, 6, 7, 8, 9, 3, 2, 1, 0] rfl) hw hS
