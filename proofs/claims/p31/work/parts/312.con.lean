set_option maxRecDepth 100000 in
set_option maxHeartbeats 4000000 in
theorem cX1_expand_0 (l : Launch) (G : va_G) (cy : Nat → ClassId) (ev : Ew) (K0 ln0 : Nat → Nat) (Ls0 : List Nat) (hW0 : SW K0 ln0 Ls0) (sz : Nat) (hp0 : Nat → Nat → Value) (ok0 : Ok K0 hp0) (qa900 : Nat) (qa901 : Nat) (zi902 : Int32) (zi903 : Int32) (zi904 : Int32) (zi905 : Int32) (g0 : Nat) (kd900 : K0 qa900 = 2) (kd901 : K0 qa901 = 11) (bd902 : ((0 : Int) ≤ zi902.toInt ∧ zi902.toInt ≤ 131071)) (bd903 : ((1 : Int) ≤ zi903.toInt ∧ zi903.toInt ≤ 5)) (bd904 : ((0 : Int) ≤ zi904.toInt ∧ zi904.toInt ≤ 5)) (pdNS : NSx K0 ln0 hp0 g0) (xp0 : zi902.toInt < (g0 : Nat)) : Met l yX1_expand (WS yX1_expand cX1_expand 14 none) { frames := 5, cells := 196608, slots := 2748928, locals := 124 } (PB2 [.ref qa900, .ref qa901, .int zi902, .int zi903, .int zi904, .int zi905] sz G cy ev (va_pl Ls0 (cellOf cy K0 ln0 hp0))) (QGv (fun u : GU × Nat => GPx wsC K0 ln0 hp0 g0 u.1 u.2) G cy g0 (va_A (va_pl Ls0 (cellOf cy K0 ln0 hp0)) sz)) 196608 2748928 (va_A (va_pl Ls0 (cellOf cy K0 ln0 hp0)) sz) := by
  refine met_of2 (y := yX1_expand) (L := 14) (av := [.ref qa900, .ref qa901, .int zi902, .int zi903, .int zi904, .int zi905]) (Qc := fun A => QGv (fun u : GU × Nat => GPx wsC K0 ln0 hp0 g0 u.1 u.2) G cy g0 A) (plainFor_of_name (by decide)) (Nat.le_of_ble_eq_true rfl) ?_
  intro p e s m below meth c hsz hx hb hr hml hown hT hlocks hin hK A hA hE hw hS ls hl
  have hw : PW G cy K0 ln0 Ls0 A hp0 s.heap := hw
  have hown : s.vm.findClass "LieClock$Book" = some m.cls := hown
  have hl : lv_has ls 14 [(0, .ref qa900), (1, .ref qa901), (2, .int zi902), (3, .int zi903), (4, .int zi904), (5, .int zi905)] := hl
  obtain ⟨Q, hQ⟩ : ∃ Q : State → Prop, Q = MQ below (QGv (fun u : GU × Nat => GPx wsC K0 ln0 hp0 g0 u.1 u.2) G cy g0 A) ([.ref qa900, .ref qa901, .int zi902, .int zi903, .int zi904, .int zi905] : List Value).toArray s 196608 2748928 A := ⟨_, rfl⟩
  rw [← hQ]
  obtain ⟨K, ln, Ls, gn, hW, gex, gfx, ok1, hKe, hga, hge, kd900, kd901, pdNS, xp0, hw⟩ : ∃ (K ln : Nat → Nat) (Ls : List Nat) (gn : Nat), SW K ln Ls ∧ EXx K0 ln0 K ln ∧ FrX wsC K0 hp0 hp0 ∧ Ok K hp0 ∧ K = K0 ∧ g0 ≤ gn ∧ gn = g0 ∧ (K qa900 = 2) ∧ (K qa901 = 11) ∧ (NSx K ln hp0 gn) ∧ (zi902.toInt < (gn : Nat)) ∧ PW G cy K ln Ls A hp0 s.heap := ⟨K0, ln0, Ls0, g0, hW0, EXx.rf, FrX.rf, ok0, rfl, Nat.le_refl _, rfl, kd900, kd901, pdNS, xp0, hw⟩
  have hg0 : 256 ≤ g0 ∧ g0 ≤ 131072 := by have := NSx.bd pdNS; omega
  refine W.widen (k := gn - g0) (n := 14 * (gn - g0)) (Nat.zero_le _) (Nat.zero_le _) ?_
  have hgn := NSx.bd pdNS
  refine lv_aload_n hx hb dX1_expand_0 rfl (lv_at hl 0 rfl) ?_
  obtain ⟨qa2, eq1, kd3⟩ := rd_2000 ok1 kd900
  refine p_get (ci := 1) (v := .ref qa2) (C := RX1) (T := TX1) (N := 8) hx hb hT iw_X1 hown hK hw hW kd900 (by decide) rfl rfl 0 (by decide) eq1 (hT _ tb_628) (fun _ h9 => h9) dX1_expand_1 ?_
  obtain ⟨qa5, eq4, kd6⟩ := rd_4000 ok1 kd3
  have ln7 := (pdNS).ref kd3 (by decide) eq4
  refine p_getN (ci := 3) (v := .ref qa5) (C := RX3) (T := TX3) (N := 7) hx hb hT iw_X3 hown hK hw hW kd3 (by decide) rfl rfl 0 (by decide) eq4 (hK.fl nw_390) (fun _ h9 => h9) dX1_expand_4 ?_
  refine lv_iload_n hx hb dX1_expand_7 rfl (lv_at hl 2 rfl) ?_
  obtain ⟨zi9, eq8⟩ := rd_28000 ok1 kd6 ((zi902 : Int32).toNatClampNeg)
  refine p_iald (v := zi9) hx hb hK hw hW kd6 (by decide) rfl ln7 (vp_bv (by omega) (by omega)) eq8 dX1_expand_8 ?_
  refine lv_ldc (v := 65535) hx hb hown (hT _ tb_1324) dX1_expand_9 ?_
  refine lv_iand hx hb dX1_expand_11 (lv_topi (fun zi10 ea11 => ?_))
  have bd12 : (0 : Int) ≤ zi10.toInt ∧ zi10.toInt ≤ 65535 := b_and_r ea11 bc_65535 (by decide) (by decide) (by decide)
  refine lv_istore (lv' := [(6, .int zi10), (0, .ref qa900), (1, .ref qa901), (2, .int zi902), (3, .int zi903), (4, .int zi904), (5, .int zi905)]) hx hb dX1_expand_12 hl (by decide) rfl (fun ls hl => ?_)
  refine lv_iload hx hb dX1_expand_14 (lv_at hl 0 rfl) ?_
  refine lv_iload hx hb dX1_expand_16 (lv_at hl 0 rfl) ?_
  refine lv_ineg hx hb dX1_expand_18 (lv_topi (fun zi13 ea14 => ?_))
  refine lv_iand hx hb dX1_expand_19 (lv_topi (fun zi15 ea16 => ?_))
  have bd17 : (0 : Int) ≤ zi15.toInt ∧ zi15.toInt ≤ 65535 := b_and_l ea16 bd12 (by decide) (by decide) (by decide)
  refine lv_istore (lv' := [(7, .int zi15), (6, .int zi10), (0, .ref qa900), (1, .ref qa901), (2, .int zi902), (3, .int zi903), (4, .int zi904), (5, .int zi905)]) hx hb dX1_expand_20 hl (by decide) rfl (fun ls hl => ?_)
  refine lv_aload_n hx hb dX1_expand_22 rfl (lv_at hl 2 rfl) ?_
  refine p_get (ci := 1) (v := .ref qa2) (C := RX1) (T := TX1) (N := 8) hx hb hT iw_X1 hown hK hw hW kd900 (by decide) rfl rfl 0 (by decide) eq1 (hT _ tb_628) (fun _ h9 => h9) dX1_expand_23 ?_
  obtain ⟨qa19, eq18, kd20⟩ := rd_4004 ok1 kd3
  have ln21 := (pdNS).ref kd3 (by decide) eq18
  refine p_getN (ci := 3) (v := .ref qa19) (C := RX3) (T := TX3) (N := 7) hx hb hT iw_X3 hown hK hw hW kd3 (by decide) rfl rfl 4 (by decide) eq18 (hK.fl nw_397) (fun _ h9 => h9) dX1_expand_26 ?_
  refine lv_iload_n hx hb dX1_expand_29 rfl (lv_at hl 4 rfl) ?_
  obtain ⟨wl23, eq22⟩ := rd_32000 ok1 kd20 ((zi902 : Int32).toNatClampNeg)
  refine p_lald (v := wl23) hx hb hK hw hW kd20 (by decide) rfl ln21 (vp_bv (by omega) (by omega)) eq22 dX1_expand_30 ?_
  refine lv_lstore (lv' := [(8, .long wl23), (7, .int zi15), (6, .int zi10), (0, .ref qa900), (1, .ref qa901), (2, .int zi902), (3, .int zi903), (4, .int zi904), (5, .int zi905)]) hx hb dX1_expand_31 hl (by decide) rfl (fun ls hl => ?_)
  refine lv_iconst (v := 0) hx hb dX1_expand_33 (by decide) ?_
  refine lv_istore (lv' := [(10, .int 0), (8, .long wl23), (7, .int zi15), (6, .int zi10), (0, .ref qa900), (1, .ref qa901), (2, .int zi902), (3, .int zi903), (4, .int zi904), (5, .int zi905)]) hx hb dX1_expand_34 hl (by decide) rfl (fun ls hl => ?_)
  have lp1803 : ∀ (n1801 : Nat) (K ln : Nat → Nat) (Ls : List Nat) (gn : Nat) (hp1287 : Nat → Nat → Value) (zi1286 : Int32) (H : Heap) (locs : List Loc) (ls : Array Slot), 16 - zi1286.toInt < (n1801 : Int) → SW K ln Ls → EXx K0 ln0 K ln → FrX wsC K0 hp0 hp1287 → Ok K hp1287 → NSx K ln hp1287 gn → g0 ≤ gn → K qa900 = 2 → K qa901 = 11 → ((0 : Int) ≤ zi1286.toInt ∧ zi1286.toInt ≤ 16) → lv_has ls 14 [(0, .ref qa900), (1, .ref qa901), (2, .int zi902), (3, .int zi903), (4, .int zi904), (5, .int zi905), (6, .int zi10), (7, .int zi15), (8, .long wl23), (10, .int zi1286)] → PW G cy K ln Ls A hp1287 H → va_S A s.heap H locs → W p l e ({ frames := 5, cells := 196608, slots := 2748928, locals := 124 } : Room) s m ([.ref qa900, .ref qa901, .int zi902, .int zi903, .int zi904, .int zi905] : List Value).toArray below meth c H locs (gn - g0) (14 * (gn - g0)) Q (F0 m 36 ls []) := by
    intro n1801
    induction n1801 with
    | zero =>
      intro K ln Ls gn hp1287 zi1286 H locs ls hm1804 hW gex gfx ok1288 pd1289 hga kd1290 kd1291 bd1292 hl hw hS
      exact absurd hm1804 (by have := bd1292; omega)
    | succ n1801 ih1802 =>
      intro K ln Ls gn hp1287 zi1286 H locs ls hm1804 hW gex gfx ok1288 pd1289 hga kd1290 kd1291 bd1292 hl hw hS
      refine lv_iload hx hb dX1_expand_36 (lv_at hl 9 rfl) ?_
      refine lv_aload_n hx hb dX1_expand_38 rfl (lv_at hl 1 rfl) ?_
      obtain ⟨zi1806, eq1805, bd1807⟩ := rd_11004 ok1288 kd1291
      refine p_getN (ci := 10) (v := .int zi1806) (C := RX10) (T := TX10) (N := 20) hx hb hT iw_X10 hown hK hw hW kd1291 (by decide) rfl rfl 4 (by decide) eq1805 (hK.fl nw_97) (fun _ h9 => h9) dX1_expand_39 ?_
      refine lv_icmp_ge (tgt := 225) hx hb dX1_expand_42 (by decide) (fun cn1808 => ?_) (fun cn1808 => ?_)
      · skip
        have tf1809 : zi1806.toInt ≤ zi1286.toInt := (fa_le _ _).mp cn1808
        rw [hQ]
        exact kgz_v (n := g0) hx hb hr hlocks hS (((K, ln, Ls, hp1287), gn) : GU × Nat) hw ⟨gex, hW, ok1288, gfx, pd1289, (by omega)⟩ (show (gn - g0) ≤ gn - g0 from by omega) (show (14 * (gn - g0)) ≤ 14 * (gn - g0) from by omega) (show (gn - g0) ≤ 196608 from by omega) (show (14 * (gn - g0)) ≤ 2748928 from by omega) dX1_expand_225
      · skip
        have tf1810 : zi1286.toInt < zi1806.toInt := (fa_lt _ _).mp (Int32.not_le.mp cn1808)
        have bd1811 : (0 : Int) ≤ zi1286.toInt ∧ zi1286.toInt ≤ 15 := r_lt_x (Int32.not_le.mp cn1808) bd1292 bd1807 (by decide) (by decide)
        have bd1812 : (1 : Int) ≤ zi1806.toInt ∧ zi1806.toInt ≤ 16 := r_lt_y (Int32.not_le.mp cn1808) bd1292 bd1807 (by decide) (by decide)
        refine lv_iload hx hb dX1_expand_45 (lv_at hl 6 rfl) ?_
        refine lv_iload hx hb dX1_expand_47 (lv_at hl 9 rfl) ?_
        refine lv_ishr hx hb dX1_expand_49 (lv_topi (fun zi1813 ea1814 => ?_))
        refine lv_iconst (v := 1) hx hb dX1_expand_50 (by decide) ?_
        refine lv_iand hx hb dX1_expand_51 (lv_topi (fun zi1815 ea1816 => ?_))
        have bd1817 : (0 : Int) ≤ zi1815.toInt ∧ zi1815.toInt ≤ 1 := b_and_r ea1816 bc_1 (by decide) (by decide) (by decide)
        refine lv_if_eq (tgt := 59) hx hb dX1_expand_52 (by decide) (fun cn1818 => ?_) (fun cn1818 => ?_)
        · skip
          have bd1819 : (0 : Int) ≤ zi1815.toInt ∧ zi1815.toInt ≤ 0 := r_eq_x cn1818 bd1817 bc_0 (by decide) (by decide)
          refine lv_iconst (v := 0) hx hb dX1_expand_59 (by decide) ?_
          refine lv_istore (lv' := [(11, .int 0), (0, .ref qa900), (1, .ref qa901), (2, .int zi902), (3, .int zi903), (4, .int zi904), (5, .int zi905), (6, .int zi10), (7, .int zi15), (8, .long wl23), (10, .int zi1286)]) hx hb dX1_expand_60 hl (by decide) rfl (fun ls hl => ?_)
          refine lv_iload hx hb dX1_expand_62 (lv_at hl 0 rfl) ?_
          refine lv_if_eq (tgt := 79) hx hb dX1_expand_64 (by decide) (fun _ => ?_) (fun c => absurd (d_eq bc_0 bc_0) c)
          refine lv_aload_n hx hb dX1_expand_79 rfl (lv_at hl 1 rfl) ?_
          obtain ⟨qa1821, eq1820, kd1822⟩ := rd_2000 ok1288 kd1290
          refine p_get (ci := 1) (v := .ref qa1821) (C := RX1) (T := TX1) (N := 8) hx hb hT iw_X1 hown hK hw hW kd1290 (by decide) rfl rfl 0 (by decide) eq1820 (hT _ tb_628) (fun _ h9 => h9) dX1_expand_80 ?_
          refine lv_iload_n hx hb dX1_expand_83 rfl (lv_at hl 3 rfl) ?_
          refine lv_aload_n hx hb dX1_expand_84 rfl (lv_at hl 1 rfl) ?_
          obtain ⟨qa1824, eq1823, kd1825⟩ := rd_2001 ok1288 kd1290
          refine p_get (ci := 1) (v := .ref qa1824) (C := RX1) (T := TX1) (N := 8) hx hb hT iw_X1 hown hK hw hW kd1290 (by decide) rfl rfl 1 (by decide) eq1823 (hT _ tb_629) (fun _ h9 => h9) dX1_expand_85 ?_
          refine kq_v hw hS hA (va_runV (As := [.int zi902, .ref qa1824]) (rest := []) ⟨hx, hb, hml, hown, hT⟩ (cX3_load_0 l G cy ev K ln Ls hW _ hp1287 ok1288 qa1821 zi902 qa1824 gn kd1822 kd1825 pd1289) (cwV 2 hT (good_V tb_1196 tb_1325 tb_1194 tb_1195 tb_117) rfl rfl rfl (by decide +kernel) ⟨Nat.le_of_ble_eq_true rfl, Nat.le_of_ble_eq_true rfl⟩) (pool_preV (ci := 3) hK hE hS hA hw hW kd1822 (by decide) rfl) rfl rfl hl.1 rfl (lv_room (Nat.le_of_ble_eq_true rfl)) dX1_expand_88 ⟨(show (gn - g0) + 0 ≤ 196608 from by omega), (show (14 * (gn - g0)) + 0 ≤ 2748928 from by omega)⟩) (fun hp1826 H locs hq1829 hw hS => ?_)
          obtain ⟨ok1827, F1828⟩ := hq1829
          have hw : PW G cy K ln Ls A hp1826 H := hw
          refine lv_aload_n hx hb dX1_expand_91 rfl (lv_at hl 1 rfl) ?_
          have eq1831 : hp1826 qa900 1 = .ref qa1824 := Eq.trans (Fr.at (cq := 2001) F1828 kd1290 (cd_o (by decide)) (by decide)) eq1823
          refine p_get (ci := 1) (v := .ref qa1824) (C := RX1) (T := TX1) (N := 8) hx hb hT iw_X1 hown hK hw hW kd1290 (by decide) rfl rfl 1 (by decide) eq1831 (hT _ tb_629) (fun _ h9 => h9) dX1_expand_92 ?_
          refine lv_aload_n hx hb dX1_expand_95 rfl (lv_at hl 2 rfl) ?_
          refine lv_iload hx hb dX1_expand_96 (lv_at hl 10 rfl) ?_
          refine kq_i hw hS hA (va_runV (As := [.ref qa901, .int zi1286]) (rest := []) ⟨hx, hb, hml, hown, hT⟩ (cX7_utter_0 l G cy ev K ln Ls hW _ hp1826 ok1827 qa1824 qa901 zi1286 kd1825 kd1291 (b_wid2 bd1811 (by decide) (by decide))) (cwV 2 hT (good_V tb_1059 tb_1326 tb_1057 tb_1058 tb_115) rfl rfl rfl (by decide +kernel) ⟨Nat.le_of_ble_eq_true rfl, Nat.le_of_ble_eq_true rfl⟩) (pool_preV (ci := 7) hK hE hS hA hw hW kd1825 (by decide) rfl) rfl rfl hl.1 rfl (lv_room (Nat.le_of_ble_eq_true rfl)) dX1_expand_98 ⟨(show (gn - g0) + 0 ≤ 196608 from by omega), (show (14 * (gn - g0)) + 0 ≤ 2748928 from by omega)⟩) (fun zi1836 hp1832 H locs hq1835 hw hS => ?_)
          obtain ⟨ok1833, F1834, bd1837⟩ := hq1835
          have hw : PW G cy K ln Ls A hp1832 H := hw
          refine lv_pop hx hb dX1_expand_101 rfl ?_
          refine lv_aload_n hx hb dX1_expand_102 rfl (lv_at hl 1 rfl) ?_
          have eq1838 : hp1832 qa900 1 = .ref qa1824 := Eq.trans (Fr.at (cq := 2001) F1834 kd1290 (cd_o (by decide)) (by decide)) eq1831
          refine p_get (ci := 1) (v := .ref qa1824) (C := RX1) (T := TX1) (N := 8) hx hb hT iw_X1 hown hK hw hW kd1290 (by decide) rfl rfl 1 (by decide) eq1838 (hT _ tb_629) (fun _ h9 => h9) dX1_expand_103 ?_
          obtain ⟨zi1840, eq1839⟩ := rd_8000 ok1833 kd1825
          refine p_getN (ci := 7) (v := .int zi1840) (C := RX7) (T := TX7) (N := 13) hx hb hT iw_X7 hown hK hw hW kd1825 (by decide) rfl rfl 0 (by decide) eq1839 (hK.fl nw_310) (fun _ h9 => h9) dX1_expand_106 ?_
          refine lv_aload_n hx hb dX1_expand_109 rfl (lv_at hl 1 rfl) ?_
          obtain ⟨qa1842, eq1841, kd1843⟩ := rd_2002 ok1833 kd1290
          refine p_get (ci := 1) (v := .ref qa1842) (C := RX1) (T := TX1) (N := 8) hx hb hT iw_X1 hown hK hw hW kd1290 (by decide) rfl rfl 2 (by decide) eq1841 (hT _ tb_630) (fun _ h9 => h9) dX1_expand_110 ?_
          refine lv_iload_n hx hb dX1_expand_113 rfl (lv_at hl 4 rfl) ?_
          refine lv_iconst (v := 1) hx hb dX1_expand_114 (by decide) ?_
          refine lv_isub hx hb dX1_expand_115 (lv_topi (fun zi1844 ea1845 => ?_))
          have bd1846 : (0 : Int) ≤ zi1844.toInt ∧ zi1844.toInt ≤ 4 := b_isub ea1845 bd903 bc_1 (by decide) (by decide) (by decide) (by decide)
          have qe1847 : zi1844.toInt = (zi903 : Int32).toInt - (1 : Int32).toInt := e_isub ea1845 bd903 bc_1 (by decide) (by decide)
          have qe1848 : zi1844.toInt = zi903.toInt - 1 := by have ha : (1 : Int32).toInt = 1 := (by decide); rw [ha] at qe1847; exact qe1847
          obtain ⟨zi1850, eq1849⟩ := rd_21000 ok1833 kd1843 ((zi1844 : Int32).toNatClampNeg)
          refine p_iald (v := zi1850) hx hb hK hw hW kd1843 (by decide) rfl (hW.len kd1843 (n := 5) rfl (by decide)) (vp_b bd1846 (by decide) (by decide)) eq1849 dX1_expand_116 ?_
          refine lv_icmp_eq (tgt := 123) hx hb dX1_expand_117 (by decide) (fun cn1851 => ?_) (fun cn1851 => ?_)
          · skip
            have tf1852 : zi1840.toInt = zi1850.toInt := congrArg Int32.toInt cn1851
            refine lv_iload hx hb dX1_expand_123 (lv_at hl 0 rfl) ?_
            refine lv_if_eq (tgt := 140) hx hb dX1_expand_125 (by decide) (fun _ => ?_) (fun c => absurd (d_eq bc_0 bc_0) c)
            refine lv_lload hx hb dX1_expand_140 (lv_at hl 9 rfl) ?_
            refine lv_lstore (lv' := [(12, .long wl23), (11, .int 0), (0, .ref qa900), (1, .ref qa901), (2, .int zi902), (3, .int zi903), (4, .int zi904), (5, .int zi905), (6, .int zi10), (7, .int zi15), (8, .long wl23), (10, .int zi1286)]) hx hb dX1_expand_142 hl (by decide) rfl (fun ls hl => ?_)
            refine lv_iload_n hx hb dX1_expand_144 rfl (lv_at hl 5 rfl) ?_
            refine lv_iload hx hb dX1_expand_145 (lv_at hl 6 rfl) ?_
            refine lv_icmp_ge (tgt := 169) hx hb dX1_expand_147 (by decide) (fun cn1853 => ?_) (fun cn1853 => ?_)
            · skip
              have tf1854 : zi904.toInt ≤ zi903.toInt := (fa_le _ _).mp cn1853
              refine lv_aload_n hx hb dX1_expand_169 rfl (lv_at hl 2 rfl) ?_
              obtain ⟨qa1856, eq1855, kd1857⟩ := rd_2005 ok1833 kd1290
              refine p_get (ci := 1) (v := .ref qa1856) (C := RX1) (T := TX1) (N := 8) hx hb hT iw_X1 hown hK hw hW kd1290 (by decide) rfl rfl 5 (by decide) eq1855 (hT _ tb_634) (fun _ h9 => h9) dX1_expand_170 ?_
              refine lv_iload hx hb dX1_expand_173 (lv_at hl 6 rfl) ?_
              refine lv_dup2_11 hx hb dX1_expand_175 rfl rfl ?_
              obtain ⟨wl1859, eq1858⟩ := rd_23000 ok1833 kd1857 ((zi904 : Int32).toNatClampNeg)
              refine p_lald (v := wl1859) hx hb hK hw hW kd1857 (by decide) rfl (hW.len kd1857 (n := 6) rfl (by decide)) (vp_b bd904 (by decide) (by decide)) eq1858 dX1_expand_176 ?_
              refine lv_lload hx hb dX1_expand_177 (lv_at hl 0 rfl) ?_
              refine lv_ladd hx hb dX1_expand_179 (lv_topl (fun wl1860 _ => ?_))
              refine p_last (x := wl1860) hx hb hK hw hS hW kd1857 (by decide) rfl (hW.len kd1857 (n := 6) rfl (by decide)) (vp_b bd904 (by decide) (by decide)) dX1_expand_180 (fun hp1861 eh1862 H locs hw hS => ?_)
              have ok1863 := wr_23000 ok1833 kd1857 eh1862
              refine lv_aload_n hx hb dX1_expand_181 rfl (lv_at hl 2 rfl) ?_
              obtain ⟨qa1865, eq1864, kd1866⟩ := rd_2006 ok1863 kd1290
              refine p_get (ci := 1) (v := .ref qa1865) (C := RX1) (T := TX1) (N := 8) hx hb hT iw_X1 hown hK hw hW kd1290 (by decide) rfl rfl 6 (by decide) eq1864 (hT _ tb_636) (fun _ h9 => h9) dX1_expand_182 ?_
              refine lv_iload hx hb dX1_expand_185 (lv_at hl 6 rfl) ?_
              refine lv_dup2_11 hx hb dX1_expand_187 rfl rfl ?_
              obtain ⟨zi1868, eq1867⟩ := rd_24000 ok1863 kd1866 ((zi904 : Int32).toNatClampNeg)
              refine p_iald (v := zi1868) hx hb hK hw hW kd1866 (by decide) rfl (hW.len kd1866 (n := 6) rfl (by decide)) (vp_b bd904 (by decide) (by decide)) eq1867 dX1_expand_188 ?_
              refine lv_aload_n hx hb dX1_expand_189 rfl (lv_at hl 2 rfl) ?_
              have eq1869 : hp1861 qa900 1 = .ref qa1824 := Eq.trans (up_at eh1862 (Or.inl (kd_ne kd1290 kd1857 (by decide)))) eq1838
              refine p_get (ci := 1) (v := .ref qa1824) (C := RX1) (T := TX1) (N := 8) hx hb hT iw_X1 hown hK hw hW kd1290 (by decide) rfl rfl 1 (by decide) eq1869 (hT _ tb_629) (fun _ h9 => h9) dX1_expand_190 ?_
              obtain ⟨zi1871, eq1870⟩ := rd_8001 ok1863 kd1825
              refine p_getN (ci := 7) (v := .int zi1871) (C := RX7) (T := TX7) (N := 13) hx hb hT iw_X7 hown hK hw hW kd1825 (by decide) rfl rfl 1 (by decide) eq1870 (hK.fl nw_314) (fun _ h9 => h9) dX1_expand_193 ?_
              refine lv_iand hx hb dX1_expand_196 (lv_topi (fun zi1872 ea1873 => ?_))
              refine p_iast (x := zi1872) hx hb hK hw hS hW kd1866 (by decide) rfl (hW.len kd1866 (n := 6) rfl (by decide)) (vp_b bd904 (by decide) (by decide)) dX1_expand_197 (fun hp1874 eh1875 H locs hw hS => ?_)
              have ok1876 := wr_24000 ok1863 kd1866 eh1875
              refine lv_aload_n hx hb dX1_expand_198 rfl (lv_at hl 2 rfl) ?_
              obtain ⟨qa1878, eq1877, kd1879⟩ := rd_2007 ok1876 kd1290
              refine p_get (ci := 1) (v := .ref qa1878) (C := RX1) (T := TX1) (N := 8) hx hb hT iw_X1 hown hK hw hW kd1290 (by decide) rfl rfl 7 (by decide) eq1877 (hT _ tb_638) (fun _ h9 => h9) dX1_expand_199 ?_
              refine lv_iload hx hb dX1_expand_202 (lv_at hl 6 rfl) ?_
              refine lv_dup2_11 hx hb dX1_expand_204 rfl rfl ?_
              obtain ⟨zi1881, eq1880⟩ := rd_25000 ok1876 kd1879 ((zi904 : Int32).toNatClampNeg)
              refine p_iald (v := zi1881) hx hb hK hw hW kd1879 (by decide) rfl (hW.len kd1879 (n := 6) rfl (by decide)) (vp_b bd904 (by decide) (by decide)) eq1880 dX1_expand_205 ?_
              refine lv_aload_n hx hb dX1_expand_206 rfl (lv_at hl 3 rfl) ?_
              refine lv_aload_n hx hb dX1_expand_207 rfl (lv_at hl 2 rfl) ?_
              have eq1882 : hp1874 qa900 1 = .ref qa1824 := Eq.trans (up_at eh1875 (Or.inl (kd_ne kd1290 kd1866 (by decide)))) eq1869
              refine p_get (ci := 1) (v := .ref qa1824) (C := RX1) (T := TX1) (N := 8) hx hb hT iw_X1 hown hK hw hW kd1290 (by decide) rfl rfl 1 (by decide) eq1882 (hT _ tb_629) (fun _ h9 => h9) dX1_expand_208 ?_
              obtain ⟨zi1884, eq1883⟩ := rd_8002 ok1876 kd1825
              refine p_getN (ci := 7) (v := .int zi1884) (C := RX7) (T := TX7) (N := 13) hx hb hT iw_X7 hown hK hw hW kd1825 (by decide) rfl rfl 2 (by decide) eq1883 (hK.fl nw_318) (fun _ h9 => h9) dX1_expand_211 ?_
              refine kq_i hw hS hA (va_runV (As := [.int zi1884]) (rest := [.int zi1881, .int zi904, .ref qa1878]) ⟨hx, hb, hml, hown, hT⟩ (cX10_liarsBy_0 l G cy ev K ln Ls hW _ hp1874 ok1876 qa901 zi1884 kd1291) (cwV 1 hT (good_V tb_1331 tb_1328 tb_1329 tb_1330 tb_107) rfl rfl rfl (by decide +kernel) ⟨Nat.le_of_ble_eq_true rfl, Nat.le_of_ble_eq_true rfl⟩) (pool_preV (ci := 10) hK hE hS hA hw hW kd1291 (by decide) rfl) rfl rfl hl.1 rfl (lv_room (Nat.le_of_ble_eq_true rfl)) dX1_expand_214 ⟨(show (gn - g0) + 0 ≤ 196608 from by omega), (show (14 * (gn - g0)) + 0 ≤ 2748928 from by omega)⟩) (fun zi1889 hp1885 H locs hq1888 hw hS => ?_)
              obtain ⟨ok1886, F1887⟩ := hq1888
              obtain rfl : hp1874 = hp1885 := (Fr.nil F1887).symm
              have hw : PW G cy K ln Ls A hp1874 H := hw
              refine lv_iand hx hb dX1_expand_217 (lv_topi (fun zi1890 ea1891 => ?_))
              refine p_iast (x := zi1890) hx hb hK hw hS hW kd1879 (by decide) rfl (hW.len kd1879 (n := 6) rfl (by decide)) (vp_b bd904 (by decide) (by decide)) dX1_expand_218 (fun hp1892 eh1893 H locs hw hS => ?_)
              have ok1894 := wr_25000 ok1876 kd1879 eh1893
              obtain ⟨zi1895, ea1896⟩ : ∃ z : Int32, z = zi1286 + 1 := ⟨_, rfl⟩
              have bd1897 : (1 : Int) ≤ zi1895.toInt ∧ zi1895.toInt ≤ 16 := b_iadd ea1896 bd1811 bc_1 (by decide) (by decide) (by decide) (by decide)
              have qe1898 : zi1895.toInt = (zi1286 : Int32).toInt + (1 : Int32).toInt := e_iadd ea1896 bd1811 bc_1 (by decide) (by decide)
              have qe1899 : zi1895.toInt = zi1286.toInt + 1 := by have ha : (1 : Int32).toInt = 1 := (by decide); rw [ha] at qe1898; exact qe1898
              refine lv_iinc (v := zi1895) (lv' := [(10, .int zi1895), (12, .long wl23), (11, .int 0), (0, .ref qa900), (1, .ref qa901), (2, .int zi902), (3, .int zi903), (4, .int zi904), (5, .int zi905), (6, .int zi10), (7, .int zi15), (8, .long wl23)]) hx hb dX1_expand_219 hl (k := 11) rfl ea1896.symm (by decide) rfl (fun ls hl => ?_)
              refine lv_goto (tgt := 36) hx hb dX1_expand_222 (by decide) ?_
              have pd1900 : NSx K ln hp1892 gn := NSx_fr ok1288  (show Fr [3003, 3004, 8000, 8001, 8002, 8004, 8006, 8008, 23000, 24000, 25000, 27000, 40000, 41000, 42000] K hp1287 hp1892 from (Fr.put (cq := 25000) (Fr.put (cq := 24000) (Fr.put (cq := 23000) (Fr.tr (Fr.tr (Fr.rf) F1828 (by decide)) F1834 (by decide)) eh1862 kd1857 (cd_a (by decide)) (by decide)) eh1875 kd1866 (cd_a (by decide)) (by decide)) eh1893 kd1879 (cd_a (by decide)) (by decide))) (by decide) pd1289
              exact ih1802 K ln Ls gn hp1892 zi1895 _ _ ls (by have := hm1804; have := qe1899; omega) hW gex (FrX.tr gfx gex (FrX.of (show Fr [3003, 3004, 8000, 8001, 8002, 8004, 8006, 8008, 23000, 24000, 25000, 27000, 40000, 41000, 42000] K hp1287 hp1892 from (Fr.put (cq := 25000) (Fr.put (cq := 24000) (Fr.put (cq := 23000) (Fr.tr (Fr.tr (Fr.rf) F1828 (by decide)) F1834 (by decide)) eh1862 kd1857 (cd_a (by decide)) (by decide)) eh1875 kd1866 (cd_a (by decide)) (by decide)) eh1893 kd1879 (cd_a (by decide)) (by decide)))) (by decide)) ok1894 pd1900 (by omega) kd1290 kd1291 (b_wid2 bd1897 (by decide) (by decide)) (lv_sub hl [3, 4, 5, 6, 7, 8, 9, 10, 11, 0] rfl) hw hS
            · skip
              have tf1901 : zi903.toInt < zi904.toInt := (fa_lt _ _).mp (Int32.not_le.mp cn1853)
              have bd1902 : (1 : Int) ≤ zi903.toInt ∧ zi903.toInt ≤ 4 := r_lt_x (Int32.not_le.mp cn1853) bd903 bd904 (by decide) (by decide)
              have bd1903 : (2 : Int) ≤ zi904.toInt ∧ zi904.toInt ≤ 5 := r_lt_y (Int32.not_le.mp cn1853) bd903 bd904 (by decide) (by decide)
              refine lv_aload_n hx hb dX1_expand_150 rfl (lv_at hl 2 rfl) ?_
              have eq1904 : hp1832 qa900 0 = .ref qa1821 := Eq.trans (Fr.at (cq := 2000) F1834 kd1290 (cd_o (by decide)) (by decide)) (Eq.trans (Fr.at (cq := 2000) F1828 kd1290 (cd_o (by decide)) (by decide)) eq1820)
              refine p_get (ci := 1) (v := .ref qa1821) (C := RX1) (T := TX1) (N := 8) hx hb hT iw_X1 hown hK hw hW kd1290 (by decide) rfl rfl 0 (by decide) eq1904 (hT _ tb_628) (fun _ h9 => h9) dX1_expand_151 ?_
              refine lv_aload_n hx hb dX1_expand_154 rfl (lv_at hl 2 rfl) ?_
              refine p_get (ci := 1) (v := .ref qa1824) (C := RX1) (T := TX1) (N := 8) hx hb hT iw_X1 hown hK hw hW kd1290 (by decide) rfl rfl 1 (by decide) eq1838 (hT _ tb_629) (fun _ h9 => h9) dX1_expand_155 ?_
              refine lv_iconst (v := 0) hx hb dX1_expand_158 (by decide) ?_
              refine lv_lload hx hb dX1_expand_159 (lv_at hl 0 rfl) ?_
              refine lv_iload hx hb dX1_expand_161 (lv_at hl 7 rfl) ?_
              have pd1905 : NSx K ln hp1832 gn := NSx_fr ok1288  (show Fr [3003, 3004, 8000, 8001, 8002, 8004, 8006, 8008, 27000, 40000, 41000, 42000] K hp1287 hp1832 from (Fr.tr (Fr.tr (Fr.rf) F1828 (by decide)) F1834 (by decide))) (by decide) pd1289
              have gf1913 : FrX wsC K0 hp0 hp1832 := (FrX.tr gfx gex (FrX.of (show Fr [3003, 3004, 8000, 8001, 8002, 8004, 8006, 8008, 27000, 40000, 41000, 42000] K hp1287 hp1832 from (Fr.tr (Fr.tr (Fr.rf) F1828 (by decide)) F1834 (by decide)))) (by decide))
              refine kg_v hw hS hA (va_runV (As := [.ref qa1824, .int 0, .long wl23, .int zi905]) (rest := []) ⟨hx, hb, hml, hown, hT⟩ (Met.szx (cX3_add_vG_0 l G cy ev K ln Ls hW _ hp1832 ok1833 qa1821 qa1824 0 wl23 zi905 gn kd1822 kd1825 pd1905)) (cwV 4 hT (good_V tb_1142 tb_1319 tb_1140 tb_1141 tb_117) rfl rfl rfl (by decide +kernel) ⟨Nat.le_of_ble_eq_true rfl, Nat.le_of_ble_eq_true rfl⟩) (pool_preV (ci := 3) hK hE hS hA hw hW kd1822 (by decide) rfl) rfl rfl hl.1 rfl (lv_room (Nat.le_of_ble_eq_true rfl)) dX1_expand_163 ⟨(show (gn - g0) + 65536 ≤ 196608 from by omega), (show (14 * (gn - g0)) + 917504 ≤ 2748928 from by omega)⟩) (fun u gn H locs hq1906 hw hS => ?_)
              obtain ⟨K, ln, Ls, hp1907⟩ := u
              obtain ⟨ex1909, hW, ok1908, fx1910, pd1911, hle1912⟩ := hq1906
              have hw : PW G cy K ln Ls A hp1907 H := hw
              have gfx : FrX wsC K0 hp0 hp1907 := FrX.tr gf1913 gex fx1910 (by decide)
              have gex := EXx.tr gex ex1909
              have kd1916 := EXx.kd ex1909 kd1290 (by decide)
              have kd1917 := EXx.kd ex1909 kd1291 (by decide)
              have hgn := NSx.bd pd1911
              refine W.widen (k := gn - g0) (n := 14 * (gn - g0)) (by omega) (by omega) ?_
              have hga : g0 ≤ gn := by omega
              refine lv_goto (tgt := 219) hx hb dX1_expand_166 (by decide) ?_
              obtain ⟨zi1918, ea1919⟩ : ∃ z : Int32, z = zi1286 + 1 := ⟨_, rfl⟩
              have bd1920 : (1 : Int) ≤ zi1918.toInt ∧ zi1918.toInt ≤ 16 := b_iadd ea1919 bd1811 bc_1 (by decide) (by decide) (by decide) (by decide)
              have qe1921 : zi1918.toInt = (zi1286 : Int32).toInt + (1 : Int32).toInt := e_iadd ea1919 bd1811 bc_1 (by decide) (by decide)
              have qe1922 : zi1918.toInt = zi1286.toInt + 1 := by have ha : (1 : Int32).toInt = 1 := (by decide); rw [ha] at qe1921; exact qe1921
              refine lv_iinc (v := zi1918) (lv' := [(10, .int zi1918), (12, .long wl23), (11, .int 0), (0, .ref qa900), (1, .ref qa901), (2, .int zi902), (3, .int zi903), (4, .int zi904), (5, .int zi905), (6, .int zi10), (7, .int zi15), (8, .long wl23)]) hx hb dX1_expand_219 hl (k := 11) rfl ea1919.symm (by decide) rfl (fun ls hl => ?_)
              refine lv_goto (tgt := 36) hx hb dX1_expand_222 (by decide) ?_
              exact ih1802 K ln Ls gn hp1907 zi1918 _ _ ls (by have := hm1804; have := qe1922; omega) hW gex gfx ok1908 pd1911 (by omega) kd1916 kd1917 (b_wid2 bd1920 (by decide) (by decide)) (lv_sub hl [3, 4, 5, 6, 7, 8, 9, 10, 11, 0] rfl) hw hS
          · skip
            have tf1923 : (zi1840 : Int32).toInt ≠ (zi1850 : Int32).toInt := fun e => cn1851 (Int32.toInt_inj.mp e)
            refine lv_goto (tgt := 219) hx hb dX1_expand_120 (by decide) ?_
            obtain ⟨zi1924, ea1925⟩ : ∃ z : Int32, z = zi1286 + 1 := ⟨_, rfl⟩
            have bd1926 : (1 : Int) ≤ zi1924.toInt ∧ zi1924.toInt ≤ 16 := b_iadd ea1925 bd1811 bc_1 (by decide) (by decide) (by decide) (by decide)
            have qe1927 : zi1924.toInt = (zi1286 : Int32).toInt + (1 : Int32).toInt := e_iadd ea1925 bd1811 bc_1 (by decide) (by decide)
            have qe1928 : zi1924.toInt = zi1286.toInt + 1 := by have ha : (1 : Int32).toInt = 1 := (by decide); rw [ha] at qe1927; exact qe1927
            refine lv_iinc (v := zi1924) (lv' := [(10, .int zi1924), (11, .int 0), (0, .ref qa900), (1, .ref qa901), (2, .int zi902), (3, .int zi903), (4, .int zi904), (5, .int zi905), (6, .int zi10), (7, .int zi15), (8, .long wl23)]) hx hb dX1_expand_219 hl (k := 10) rfl ea1925.symm (by decide) rfl (fun ls hl => ?_)
            refine lv_goto (tgt := 36) hx hb dX1_expand_222 (by decide) ?_
            have pd1929 : NSx K ln hp1832 gn := NSx_fr ok1288  (show Fr [3003, 3004, 8000, 8001, 8002, 8004, 8006, 8008, 27000, 40000, 41000, 42000] K hp1287 hp1832 from (Fr.tr (Fr.tr (Fr.rf) F1828 (by decide)) F1834 (by decide))) (by decide) pd1289
            exact ih1802 K ln Ls gn hp1832 zi1924 _ _ ls (by have := hm1804; have := qe1928; omega) hW gex (FrX.tr gfx gex (FrX.of (show Fr [3003, 3004, 8000, 8001, 8002, 8004, 8006, 8008, 27000, 40000, 41000, 42000] K hp1287 hp1832 from (Fr.tr (Fr.tr (Fr.rf) F1828 (by decide)) F1834 (by decide)))) (by decide)) ok1833 pd1929 (by omega) kd1290 kd1291 (b_wid2 bd1926 (by decide) (by decide)) (lv_sub hl [2, 3, 4, 5, 6, 7, 8, 9, 10, 0] rfl) hw hS
        · skip
          have tf1930 : (zi1815 : Int32).toInt ≠ (0 : Int32).toInt := fun e => cn1818 (Int32.toInt_inj.mp e)
          have := toi bc_0
          have bd1931 : (1 : Int) ≤ zi1815.toInt ∧ zi1815.toInt ≤ 1 := r_ne_lo cn1818 bd1817 (toi bc_0) (by decide) (by decide)
          refine lv_iconst (v := 1) hx hb dX1_expand_55 (by decide) ?_
          refine lv_goto (tgt := 60) hx hb dX1_expand_56 (by decide) ?_
          refine lv_istore (lv' := [(11, .int 1), (0, .ref qa900), (1, .ref qa901), (2, .int zi902), (3, .int zi903), (4, .int zi904), (5, .int zi905), (6, .int zi10), (7, .int zi15), (8, .long wl23), (10, .int zi1286)]) hx hb dX1_expand_60 hl (by decide) rfl (fun ls hl => ?_)
          refine lv_iload hx hb dX1_expand_62 (lv_at hl 0 rfl) ?_
          refine lv_if_eq (tgt := 79) hx hb dX1_expand_64 (by decide) (fun c => absurd c (d_ne bc_1 bc_0 (by decide))) (fun _ => ?_)
          refine lv_iconst (v := 1) hx hb dX1_expand_67 (by decide) ?_
          refine lv_iload hx hb dX1_expand_68 (lv_at hl 10 rfl) ?_
          refine lv_ishl hx hb dX1_expand_70 (lv_topi (fun zi1932 ea1933 => ?_))
          have bd1934 : (1 : Int) ≤ zi1932.toInt ∧ zi1932.toInt ≤ 32768 := b_shl1 15 ea1933 bd1811 (by decide) (by decide) (by decide) (by decide) (by decide)
          refine lv_iload hx hb dX1_expand_71 (lv_at hl 8 rfl) ?_
          refine lv_icmp_eq (tgt := 79) hx hb dX1_expand_73 (by decide) (fun cn1935 => ?_) (fun cn1935 => ?_)
          · skip
            have tf1936 : zi1932.toInt = zi15.toInt := congrArg Int32.toInt cn1935
            have bd1937 : (1 : Int) ≤ zi15.toInt ∧ zi15.toInt ≤ 32768 := r_eq_x (cn1935).symm bd17 bd1934 (by decide) (by decide)
            refine lv_aload_n hx hb dX1_expand_79 rfl (lv_at hl 1 rfl) ?_
            obtain ⟨qa1939, eq1938, kd1940⟩ := rd_2000 ok1288 kd1290
            refine p_get (ci := 1) (v := .ref qa1939) (C := RX1) (T := TX1) (N := 8) hx hb hT iw_X1 hown hK hw hW kd1290 (by decide) rfl rfl 0 (by decide) eq1938 (hT _ tb_628) (fun _ h9 => h9) dX1_expand_80 ?_
            refine lv_iload_n hx hb dX1_expand_83 rfl (lv_at hl 3 rfl) ?_
            refine lv_aload_n hx hb dX1_expand_84 rfl (lv_at hl 1 rfl) ?_
            obtain ⟨qa1942, eq1941, kd1943⟩ := rd_2001 ok1288 kd1290
            refine p_get (ci := 1) (v := .ref qa1942) (C := RX1) (T := TX1) (N := 8) hx hb hT iw_X1 hown hK hw hW kd1290 (by decide) rfl rfl 1 (by decide) eq1941 (hT _ tb_629) (fun _ h9 => h9) dX1_expand_85 ?_
            refine kq_v hw hS hA (va_runV (As := [.int zi902, .ref qa1942]) (rest := []) ⟨hx, hb, hml, hown, hT⟩ (cX3_load_0 l G cy ev K ln Ls hW _ hp1287 ok1288 qa1939 zi902 qa1942 gn kd1940 kd1943 pd1289) (cwV 2 hT (good_V tb_1196 tb_1325 tb_1194 tb_1195 tb_117) rfl rfl rfl (by decide +kernel) ⟨Nat.le_of_ble_eq_true rfl, Nat.le_of_ble_eq_true rfl⟩) (pool_preV (ci := 3) hK hE hS hA hw hW kd1940 (by decide) rfl) rfl rfl hl.1 rfl (lv_room (Nat.le_of_ble_eq_true rfl)) dX1_expand_88 ⟨(show (gn - g0) + 0 ≤ 196608 from by omega), (show (14 * (gn - g0)) + 0 ≤ 2748928 from by omega)⟩) (fun hp1944 H locs hq1947 hw hS => ?_)
            obtain ⟨ok1945, F1946⟩ := hq1947
            have hw : PW G cy K ln Ls A hp1944 H := hw
            refine lv_aload_n hx hb dX1_expand_91 rfl (lv_at hl 1 rfl) ?_
            have eq1949 : hp1944 qa900 1 = .ref qa1942 := Eq.trans (Fr.at (cq := 2001) F1946 kd1290 (cd_o (by decide)) (by decide)) eq1941
            refine p_get (ci := 1) (v := .ref qa1942) (C := RX1) (T := TX1) (N := 8) hx hb hT iw_X1 hown hK hw hW kd1290 (by decide) rfl rfl 1 (by decide) eq1949 (hT _ tb_629) (fun _ h9 => h9) dX1_expand_92 ?_
            refine lv_aload_n hx hb dX1_expand_95 rfl (lv_at hl 2 rfl) ?_
            refine lv_iload hx hb dX1_expand_96 (lv_at hl 10 rfl) ?_
            refine kq_i hw hS hA (va_runV (As := [.ref qa901, .int zi1286]) (rest := []) ⟨hx, hb, hml, hown, hT⟩ (cX7_utter_0 l G cy ev K ln Ls hW _ hp1944 ok1945 qa1942 qa901 zi1286 kd1943 kd1291 (b_wid2 bd1811 (by decide) (by decide))) (cwV 2 hT (good_V tb_1059 tb_1326 tb_1057 tb_1058 tb_115) rfl rfl rfl (by decide +kernel) ⟨Nat.le_of_ble_eq_true rfl, Nat.le_of_ble_eq_true rfl⟩) (pool_preV (ci := 7) hK hE hS hA hw hW kd1943 (by decide) rfl) rfl rfl hl.1 rfl (lv_room (Nat.le_of_ble_eq_true rfl)) dX1_expand_98 ⟨(show (gn - g0) + 0 ≤ 196608 from by omega), (show (14 * (gn - g0)) + 0 ≤ 2748928 from by omega)⟩) (fun zi1954 hp1950 H locs hq1953 hw hS => ?_)
            obtain ⟨ok1951, F1952, bd1955⟩ := hq1953
            have hw : PW G cy K ln Ls A hp1950 H := hw
            refine lv_pop hx hb dX1_expand_101 rfl ?_
            refine lv_aload_n hx hb dX1_expand_102 rfl (lv_at hl 1 rfl) ?_
            have eq1956 : hp1950 qa900 1 = .ref qa1942 := Eq.trans (Fr.at (cq := 2001) F1952 kd1290 (cd_o (by decide)) (by decide)) eq1949
            refine p_get (ci := 1) (v := .ref qa1942) (C := RX1) (T := TX1) (N := 8) hx hb hT iw_X1 hown hK hw hW kd1290 (by decide) rfl rfl 1 (by decide) eq1956 (hT _ tb_629) (fun _ h9 => h9) dX1_expand_103 ?_
            obtain ⟨zi1958, eq1957⟩ := rd_8000 ok1951 kd1943
            refine p_getN (ci := 7) (v := .int zi1958) (C := RX7) (T := TX7) (N := 13) hx hb hT iw_X7 hown hK hw hW kd1943 (by decide) rfl rfl 0 (by decide) eq1957 (hK.fl nw_310) (fun _ h9 => h9) dX1_expand_106 ?_
            refine lv_aload_n hx hb dX1_expand_109 rfl (lv_at hl 1 rfl) ?_
            obtain ⟨qa1960, eq1959, kd1961⟩ := rd_2002 ok1951 kd1290
            refine p_get (ci := 1) (v := .ref qa1960) (C := RX1) (T := TX1) (N := 8) hx hb hT iw_X1 hown hK hw hW kd1290 (by decide) rfl rfl 2 (by decide) eq1959 (hT _ tb_630) (fun _ h9 => h9) dX1_expand_110 ?_
            refine lv_iload_n hx hb dX1_expand_113 rfl (lv_at hl 4 rfl) ?_
            refine lv_iconst (v := 1) hx hb dX1_expand_114 (by decide) ?_
            refine lv_isub hx hb dX1_expand_115 (lv_topi (fun zi1962 ea1963 => ?_))
            have bd1964 : (0 : Int) ≤ zi1962.toInt ∧ zi1962.toInt ≤ 4 := b_isub ea1963 bd903 bc_1 (by decide) (by decide) (by decide) (by decide)
            have qe1965 : zi1962.toInt = (zi903 : Int32).toInt - (1 : Int32).toInt := e_isub ea1963 bd903 bc_1 (by decide) (by decide)
            have qe1966 : zi1962.toInt = zi903.toInt - 1 := by have ha : (1 : Int32).toInt = 1 := (by decide); rw [ha] at qe1965; exact qe1965
            obtain ⟨zi1968, eq1967⟩ := rd_21000 ok1951 kd1961 ((zi1962 : Int32).toNatClampNeg)
            refine p_iald (v := zi1968) hx hb hK hw hW kd1961 (by decide) rfl (hW.len kd1961 (n := 5) rfl (by decide)) (vp_b bd1964 (by decide) (by decide)) eq1967 dX1_expand_116 ?_
            refine lv_icmp_eq (tgt := 123) hx hb dX1_expand_117 (by decide) (fun cn1969 => ?_) (fun cn1969 => ?_)
            · skip
              have tf1970 : zi1958.toInt = zi1968.toInt := congrArg Int32.toInt cn1969
              refine lv_iload hx hb dX1_expand_123 (lv_at hl 0 rfl) ?_
              refine lv_if_eq (tgt := 140) hx hb dX1_expand_125 (by decide) (fun c => absurd c (d_ne bc_1 bc_0 (by decide))) (fun _ => ?_)
              refine lv_lload hx hb dX1_expand_128 (lv_at hl 9 rfl) ?_
              refine lv_iload hx hb dX1_expand_130 (lv_at hl 7 rfl) ?_
              refine kq_i hw hS hA (va_runS (As := [.int zi10]) (rest := [.long wl23]) ⟨hx, hb, hml, hown, hT⟩ (cJ6_bitCount_0f7a4_0 l G cy ev K ln Ls hW _ hp1950 ok1951 zi10) (va_cwS 1 hT (good_S tb_1010 tb_1327 tb_1009 tb_126) rfl rfl rfl (by decide +kernel) ⟨Nat.le_of_ble_eq_true rfl, Nat.le_of_ble_eq_true rfl⟩) (PB2.preS hK hE hS hA hw) rfl rfl hl.1 rfl (lv_room (Nat.le_of_ble_eq_true rfl)) dX1_expand_132 ⟨(show (gn - g0) + 0 ≤ 196608 from by omega), (show (14 * (gn - g0)) + 0 ≤ 2748928 from by omega)⟩) (fun zi1975 hp1971 H locs hq1974 hw hS => ?_)
              obtain ⟨ok1972, F1973, bd1976, ef1977⟩ := hq1974
              obtain rfl : hp1950 = hp1971 := (Fr.nil F1973).symm
              have hw : PW G cy K ln Ls A hp1950 H := hw
              refine lv_i2l hx hb dX1_expand_135 rfl (lv_topl (fun wl1978 _ => ?_))
              refine lv_lmul hx hb dX1_expand_136 (lv_topl (fun wl1979 _ => ?_))
              refine lv_goto (tgt := 142) hx hb dX1_expand_137 (by decide) ?_
              refine lv_lstore (lv' := [(12, .long wl1979), (11, .int 1), (0, .ref qa900), (1, .ref qa901), (2, .int zi902), (3, .int zi903), (4, .int zi904), (5, .int zi905), (6, .int zi10), (7, .int zi15), (8, .long wl23), (10, .int zi1286)]) hx hb dX1_expand_142 hl (by decide) rfl (fun ls hl => ?_)
              refine lv_iload_n hx hb dX1_expand_144 rfl (lv_at hl 5 rfl) ?_
              refine lv_iload hx hb dX1_expand_145 (lv_at hl 6 rfl) ?_
              refine lv_icmp_ge (tgt := 169) hx hb dX1_expand_147 (by decide) (fun cn1980 => ?_) (fun cn1980 => ?_)
              · skip
                have tf1981 : zi904.toInt ≤ zi903.toInt := (fa_le _ _).mp cn1980
                refine lv_aload_n hx hb dX1_expand_169 rfl (lv_at hl 2 rfl) ?_
                obtain ⟨qa1983, eq1982, kd1984⟩ := rd_2005 ok1951 kd1290
                refine p_get (ci := 1) (v := .ref qa1983) (C := RX1) (T := TX1) (N := 8) hx hb hT iw_X1 hown hK hw hW kd1290 (by decide) rfl rfl 5 (by decide) eq1982 (hT _ tb_634) (fun _ h9 => h9) dX1_expand_170 ?_
                refine lv_iload hx hb dX1_expand_173 (lv_at hl 6 rfl) ?_
                refine lv_dup2_11 hx hb dX1_expand_175 rfl rfl ?_
                obtain ⟨wl1986, eq1985⟩ := rd_23000 ok1951 kd1984 ((zi904 : Int32).toNatClampNeg)
                refine p_lald (v := wl1986) hx hb hK hw hW kd1984 (by decide) rfl (hW.len kd1984 (n := 6) rfl (by decide)) (vp_b bd904 (by decide) (by decide)) eq1985 dX1_expand_176 ?_
                refine lv_lload hx hb dX1_expand_177 (lv_at hl 0 rfl) ?_
                refine lv_ladd hx hb dX1_expand_179 (lv_topl (fun wl1987 _ => ?_))
                refine p_last (x := wl1987) hx hb hK hw hS hW kd1984 (by decide) rfl (hW.len kd1984 (n := 6) rfl (by decide)) (vp_b bd904 (by decide) (by decide)) dX1_expand_180 (fun hp1988 eh1989 H locs hw hS => ?_)
                have ok1990 := wr_23000 ok1951 kd1984 eh1989
                refine lv_aload_n hx hb dX1_expand_181 rfl (lv_at hl 2 rfl) ?_
                obtain ⟨qa1992, eq1991, kd1993⟩ := rd_2006 ok1990 kd1290
                refine p_get (ci := 1) (v := .ref qa1992) (C := RX1) (T := TX1) (N := 8) hx hb hT iw_X1 hown hK hw hW kd1290 (by decide) rfl rfl 6 (by decide) eq1991 (hT _ tb_636) (fun _ h9 => h9) dX1_expand_182 ?_
                refine lv_iload hx hb dX1_expand_185 (lv_at hl 6 rfl) ?_
                refine lv_dup2_11 hx hb dX1_expand_187 rfl rfl ?_
                obtain ⟨zi1995, eq1994⟩ := rd_24000 ok1990 kd1993 ((zi904 : Int32).toNatClampNeg)
                refine p_iald (v := zi1995) hx hb hK hw hW kd1993 (by decide) rfl (hW.len kd1993 (n := 6) rfl (by decide)) (vp_b bd904 (by decide) (by decide)) eq1994 dX1_expand_188 ?_
                refine lv_aload_n hx hb dX1_expand_189 rfl (lv_at hl 2 rfl) ?_
                have eq1996 : hp1988 qa900 1 = .ref qa1942 := Eq.trans (up_at eh1989 (Or.inl (kd_ne kd1290 kd1984 (by decide)))) eq1956
                refine p_get (ci := 1) (v := .ref qa1942) (C := RX1) (T := TX1) (N := 8) hx hb hT iw_X1 hown hK hw hW kd1290 (by decide) rfl rfl 1 (by decide) eq1996 (hT _ tb_629) (fun _ h9 => h9) dX1_expand_190 ?_
                obtain ⟨zi1998, eq1997⟩ := rd_8001 ok1990 kd1943
                refine p_getN (ci := 7) (v := .int zi1998) (C := RX7) (T := TX7) (N := 13) hx hb hT iw_X7 hown hK hw hW kd1943 (by decide) rfl rfl 1 (by decide) eq1997 (hK.fl nw_314) (fun _ h9 => h9) dX1_expand_193 ?_
                refine lv_iand hx hb dX1_expand_196 (lv_topi (fun zi1999 ea2000 => ?_))
                refine p_iast (x := zi1999) hx hb hK hw hS hW kd1993 (by decide) rfl (hW.len kd1993 (n := 6) rfl (by decide)) (vp_b bd904 (by decide) (by decide)) dX1_expand_197 (fun hp2001 eh2002 H locs hw hS => ?_)
                have ok2003 := wr_24000 ok1990 kd1993 eh2002
                refine lv_aload_n hx hb dX1_expand_198 rfl (lv_at hl 2 rfl) ?_
                obtain ⟨qa2005, eq2004, kd2006⟩ := rd_2007 ok2003 kd1290
                refine p_get (ci := 1) (v := .ref qa2005) (C := RX1) (T := TX1) (N := 8) hx hb hT iw_X1 hown hK hw hW kd1290 (by decide) rfl rfl 7 (by decide) eq2004 (hT _ tb_638) (fun _ h9 => h9) dX1_expand_199 ?_
                refine lv_iload hx hb dX1_expand_202 (lv_at hl 6 rfl) ?_
                refine lv_dup2_11 hx hb dX1_expand_204 rfl rfl ?_
                obtain ⟨zi2008, eq2007⟩ := rd_25000 ok2003 kd2006 ((zi904 : Int32).toNatClampNeg)
                refine p_iald (v := zi2008) hx hb hK hw hW kd2006 (by decide) rfl (hW.len kd2006 (n := 6) rfl (by decide)) (vp_b bd904 (by decide) (by decide)) eq2007 dX1_expand_205 ?_
                refine lv_aload_n hx hb dX1_expand_206 rfl (lv_at hl 3 rfl) ?_
                refine lv_aload_n hx hb dX1_expand_207 rfl (lv_at hl 2 rfl) ?_
                have eq2009 : hp2001 qa900 1 = .ref qa1942 := Eq.trans (up_at eh2002 (Or.inl (kd_ne kd1290 kd1993 (by decide)))) eq1996
                refine p_get (ci := 1) (v := .ref qa1942) (C := RX1) (T := TX1) (N := 8) hx hb hT iw_X1 hown hK hw hW kd1290 (by decide) rfl rfl 1 (by decide) eq2009 (hT _ tb_629) (fun _ h9 => h9) dX1_expand_208 ?_
                obtain ⟨zi2011, eq2010⟩ := rd_8002 ok2003 kd1943
                refine p_getN (ci := 7) (v := .int zi2011) (C := RX7) (T := TX7) (N := 13) hx hb hT iw_X7 hown hK hw hW kd1943 (by decide) rfl rfl 2 (by decide) eq2010 (hK.fl nw_318) (fun _ h9 => h9) dX1_expand_211 ?_
                refine kq_i hw hS hA (va_runV (As := [.int zi2011]) (rest := [.int zi2008, .int zi904, .ref qa2005]) ⟨hx, hb, hml, hown, hT⟩ (cX10_liarsBy_0 l G cy ev K ln Ls hW _ hp2001 ok2003 qa901 zi2011 kd1291) (cwV 1 hT (good_V tb_1331 tb_1328 tb_1329 tb_1330 tb_107) rfl rfl rfl (by decide +kernel) ⟨Nat.le_of_ble_eq_true rfl, Nat.le_of_ble_eq_true rfl⟩) (pool_preV (ci := 10) hK hE hS hA hw hW kd1291 (by decide) rfl) rfl rfl hl.1 rfl (lv_room (Nat.le_of_ble_eq_true rfl)) dX1_expand_214 ⟨(show (gn - g0) + 0 ≤ 196608 from by omega), (show (14 * (gn - g0)) + 0 ≤ 2748928 from by omega)⟩) (fun zi2016 hp2012 H locs hq2015 hw hS => ?_)
                obtain ⟨ok2013, F2014⟩ := hq2015
                obtain rfl : hp2001 = hp2012 := (Fr.nil F2014).symm
                have hw : PW G cy K ln Ls A hp2001 H := hw
                refine lv_iand hx hb dX1_expand_217 (lv_topi (fun zi2017 ea2018 => ?_))
                refine p_iast (x := zi2017) hx hb hK hw hS hW kd2006 (by decide) rfl (hW.len kd2006 (n := 6) rfl (by decide)) (vp_b bd904 (by decide) (by decide)) dX1_expand_218 (fun hp2019 eh2020 H locs hw hS => ?_)
                have ok2021 := wr_25000 ok2003 kd2006 eh2020
                obtain ⟨zi2022, ea2023⟩ : ∃ z : Int32, z = zi1286 + 1 := ⟨_, rfl⟩
                have bd2024 : (1 : Int) ≤ zi2022.toInt ∧ zi2022.toInt ≤ 16 := b_iadd ea2023 bd1811 bc_1 (by decide) (by decide) (by decide) (by decide)
                have qe2025 : zi2022.toInt = (zi1286 : Int32).toInt + (1 : Int32).toInt := e_iadd ea2023 bd1811 bc_1 (by decide) (by decide)
                have qe2026 : zi2022.toInt = zi1286.toInt + 1 := by have ha : (1 : Int32).toInt = 1 := (by decide); rw [ha] at qe2025; exact qe2025
                refine lv_iinc (v := zi2022) (lv' := [(10, .int zi2022), (12, .long wl1979), (11, .int 1), (0, .ref qa900), (1, .ref qa901), (2, .int zi902), (3, .int zi903), (4, .int zi904), (5, .int zi905), (6, .int zi10), (7, .int zi15), (8, .long wl23)]) hx hb dX1_expand_219 hl (k := 11) rfl ea2023.symm (by decide) rfl (fun ls hl => ?_)
                refine lv_goto (tgt := 36) hx hb dX1_expand_222 (by decide) ?_
                have pd2027 : NSx K ln hp2019 gn := NSx_fr ok1288  (show Fr [3003, 3004, 8000, 8001, 8002, 8004, 8006, 8008, 23000, 24000, 25000, 27000, 40000, 41000, 42000] K hp1287 hp2019 from (Fr.put (cq := 25000) (Fr.put (cq := 24000) (Fr.put (cq := 23000) (Fr.tr (Fr.tr (Fr.rf) F1946 (by decide)) F1952 (by decide)) eh1989 kd1984 (cd_a (by decide)) (by decide)) eh2002 kd1993 (cd_a (by decide)) (by decide)) eh2020 kd2006 (cd_a (by decide)) (by decide))) (by decide) pd1289
                exact ih1802 K ln Ls gn hp2019 zi2022 _ _ ls (by have := hm1804; have := qe2026; omega) hW gex (FrX.tr gfx gex (FrX.of (show Fr [3003, 3004, 8000, 8001, 8002, 8004, 8006, 8008, 23000, 24000, 25000, 27000, 40000, 41000, 42000] K hp1287 hp2019 from (Fr.put (cq := 25000) (Fr.put (cq := 24000) (Fr.put (cq := 23000) (Fr.tr (Fr.tr (Fr.rf) F1946 (by decide)) F1952 (by decide)) eh1989 kd1984 (cd_a (by decide)) (by decide)) eh2002 kd1993 (cd_a (by decide)) (by decide)) eh2020 kd2006 (cd_a (by decide)) (by decide)))) (by decide)) ok2021 pd2027 (by omega) kd1290 kd1291 (b_wid2 bd2024 (by decide) (by decide)) (lv_sub hl [3, 4, 5, 6, 7, 8, 9, 10, 11, 0] rfl) hw hS
              · skip
                have tf2028 : zi903.toInt < zi904.toInt := (fa_lt _ _).mp (Int32.not_le.mp cn1980)
                have bd2029 : (1 : Int) ≤ zi903.toInt ∧ zi903.toInt ≤ 4 := r_lt_x (Int32.not_le.mp cn1980) bd903 bd904 (by decide) (by decide)
                have bd2030 : (2 : Int) ≤ zi904.toInt ∧ zi904.toInt ≤ 5 := r_lt_y (Int32.not_le.mp cn1980) bd903 bd904 (by decide) (by decide)
                refine lv_aload_n hx hb dX1_expand_150 rfl (lv_at hl 2 rfl) ?_
                have eq2031 : hp1950 qa900 0 = .ref qa1939 := Eq.trans (Fr.at (cq := 2000) F1952 kd1290 (cd_o (by decide)) (by decide)) (Eq.trans (Fr.at (cq := 2000) F1946 kd1290 (cd_o (by decide)) (by decide)) eq1938)
                refine p_get (ci := 1) (v := .ref qa1939) (C := RX1) (T := TX1) (N := 8) hx hb hT iw_X1 hown hK hw hW kd1290 (by decide) rfl rfl 0 (by decide) eq2031 (hT _ tb_628) (fun _ h9 => h9) dX1_expand_151 ?_
                refine lv_aload_n hx hb dX1_expand_154 rfl (lv_at hl 2 rfl) ?_
                refine p_get (ci := 1) (v := .ref qa1942) (C := RX1) (T := TX1) (N := 8) hx hb hT iw_X1 hown hK hw hW kd1290 (by decide) rfl rfl 1 (by decide) eq1956 (hT _ tb_629) (fun _ h9 => h9) dX1_expand_155 ?_
                refine lv_iconst (v := 0) hx hb dX1_expand_158 (by decide) ?_
                refine lv_lload hx hb dX1_expand_159 (lv_at hl 0 rfl) ?_
                refine lv_iload hx hb dX1_expand_161 (lv_at hl 7 rfl) ?_
                have pd2032 : NSx K ln hp1950 gn := NSx_fr ok1288  (show Fr [3003, 3004, 8000, 8001, 8002, 8004, 8006, 8008, 27000, 40000, 41000, 42000] K hp1287 hp1950 from (Fr.tr (Fr.tr (Fr.rf) F1946 (by decide)) F1952 (by decide))) (by decide) pd1289
                have gf2040 : FrX wsC K0 hp0 hp1950 := (FrX.tr gfx gex (FrX.of (show Fr [3003, 3004, 8000, 8001, 8002, 8004, 8006, 8008, 27000, 40000, 41000, 42000] K hp1287 hp1950 from (Fr.tr (Fr.tr (Fr.rf) F1946 (by decide)) F1952 (by decide)))) (by decide))
                refine kg_v hw hS hA (va_runV (As := [.ref qa1942, .int 0, .long wl1979, .int zi905]) (rest := []) ⟨hx, hb, hml, hown, hT⟩ (Met.szx (cX3_add_vG_0 l G cy ev K ln Ls hW _ hp1950 ok1951 qa1939 qa1942 0 wl1979 zi905 gn kd1940 kd1943 pd2032)) (cwV 4 hT (good_V tb_1142 tb_1319 tb_1140 tb_1141 tb_117) rfl rfl rfl (by decide +kernel) ⟨Nat.le_of_ble_eq_true rfl, Nat.le_of_ble_eq_true rfl⟩) (pool_preV (ci := 3) hK hE hS hA hw hW kd1940 (by decide) rfl) rfl rfl hl.1 rfl (lv_room (Nat.le_of_ble_eq_true rfl)) dX1_expand_163 ⟨(show (gn - g0) + 65536 ≤ 196608 from by omega), (show (14 * (gn - g0)) + 917504 ≤ 2748928 from by omega)⟩) (fun u gn H locs hq2033 hw hS => ?_)
                obtain ⟨K, ln, Ls, hp2034⟩ := u
                obtain ⟨ex2036, hW, ok2035, fx2037, pd2038, hle2039⟩ := hq2033
                have hw : PW G cy K ln Ls A hp2034 H := hw
                have gfx : FrX wsC K0 hp0 hp2034 := FrX.tr gf2040 gex fx2037 (by decide)
                have gex := EXx.tr gex ex2036
                have kd2043 := EXx.kd ex2036 kd1290 (by decide)
                have kd2044 := EXx.kd ex2036 kd1291 (by decide)
                have hgn := NSx.bd pd2038
                refine W.widen (k := gn - g0) (n := 14 * (gn - g0)) (by omega) (by omega) ?_
                have hga : g0 ≤ gn := by omega
                refine lv_goto (tgt := 219) hx hb dX1_expand_166 (by decide) ?_
                obtain ⟨zi2045, ea2046⟩ : ∃ z : Int32, z = zi1286 + 1 := ⟨_, rfl⟩
                have bd2047 : (1 : Int) ≤ zi2045.toInt ∧ zi2045.toInt ≤ 16 := b_iadd ea2046 bd1811 bc_1 (by decide) (by decide) (by decide) (by decide)
                have qe2048 : zi2045.toInt = (zi1286 : Int32).toInt + (1 : Int32).toInt := e_iadd ea2046 bd1811 bc_1 (by decide) (by decide)
                have qe2049 : zi2045.toInt = zi1286.toInt + 1 := by have ha : (1 : Int32).toInt = 1 := (by decide); rw [ha] at qe2048; exact qe2048
                refine lv_iinc (v := zi2045) (lv' := [(10, .int zi2045), (12, .long wl1979), (11, .int 1), (0, .ref qa900), (1, .ref qa901), (2, .int zi902), (3, .int zi903), (4, .int zi904), (5, .int zi905), (6, .int zi10), (7, .int zi15), (8, .long wl23)]) hx hb dX1_expand_219 hl (k := 11) rfl ea2046.symm (by decide) rfl (fun ls hl => ?_)
                refine lv_goto (tgt := 36) hx hb dX1_expand_222 (by decide) ?_
                exact ih1802 K ln Ls gn hp2034 zi2045 _ _ ls (by have := hm1804; have := qe2049; omega) hW gex gfx ok2035 pd2038 (by omega) kd2043 kd2044 (b_wid2 bd2047 (by decide) (by decide)) (lv_sub hl [3, 4, 5, 6, 7, 8, 9, 10, 11, 0] rfl) hw hS
            · skip
              have tf2050 : (zi1958 : Int32).toInt ≠ (zi1968 : Int32).toInt := fun e => cn1969 (Int32.toInt_inj.mp e)
              refine lv_goto (tgt := 219) hx hb dX1_expand_120 (by decide) ?_
              obtain ⟨zi2051, ea2052⟩ : ∃ z : Int32, z = zi1286 + 1 := ⟨_, rfl⟩
              have bd2053 : (1 : Int) ≤ zi2051.toInt ∧ zi2051.toInt ≤ 16 := b_iadd ea2052 bd1811 bc_1 (by decide) (by decide) (by decide) (by decide)
              have qe2054 : zi2051.toInt = (zi1286 : Int32).toInt + (1 : Int32).toInt := e_iadd ea2052 bd1811 bc_1 (by decide) (by decide)
              have qe2055 : zi2051.toInt = zi1286.toInt + 1 := by have ha : (1 : Int32).toInt = 1 := (by decide); rw [ha] at qe2054; exact qe2054
              refine lv_iinc (v := zi2051) (lv' := [(10, .int zi2051), (11, .int 1), (0, .ref qa900), (1, .ref qa901), (2, .int zi902), (3, .int zi903), (4, .int zi904), (5, .int zi905), (6, .int zi10), (7, .int zi15), (8, .long wl23)]) hx hb dX1_expand_219 hl (k := 10) rfl ea2052.symm (by decide) rfl (fun ls hl => ?_)
              refine lv_goto (tgt := 36) hx hb dX1_expand_222 (by decide) ?_
              have pd2056 : NSx K ln hp1950 gn := NSx_fr ok1288  (show Fr [3003, 3004, 8000, 8001, 8002, 8004, 8006, 8008, 27000, 40000, 41000, 42000] K hp1287 hp1950 from (Fr.tr (Fr.tr (Fr.rf) F1946 (by decide)) F1952 (by decide))) (by decide) pd1289
              exact ih1802 K ln Ls gn hp1950 zi2051 _ _ ls (by have := hm1804; have := qe2055; omega) hW gex (FrX.tr gfx gex (FrX.of (show Fr [3003, 3004, 8000, 8001, 8002, 8004, 8006, 8008, 27000, 40000, 41000, 42000] K hp1287 hp1950 from (Fr.tr (Fr.tr (Fr.rf) F1946 (by decide)) F1952 (by decide)))) (by decide)) ok1951 pd2056 (by omega) kd1290 kd1291 (b_wid2 bd2053 (by decide) (by decide)) (lv_sub hl [2, 3, 4, 5, 6, 7, 8, 9, 10, 0] rfl) hw hS
          · skip
            have tf2057 : (zi1932 : Int32).toInt ≠ (zi15 : Int32).toInt := fun e => cn1935 (Int32.toInt_inj.mp e)
            refine lv_goto (tgt := 219) hx hb dX1_expand_76 (by decide) ?_
            obtain ⟨zi2058, ea2059⟩ : ∃ z : Int32, z = zi1286 + 1 := ⟨_, rfl⟩
            have bd2060 : (1 : Int) ≤ zi2058.toInt ∧ zi2058.toInt ≤ 16 := b_iadd ea2059 bd1811 bc_1 (by decide) (by decide) (by decide) (by decide)
            have qe2061 : zi2058.toInt = (zi1286 : Int32).toInt + (1 : Int32).toInt := e_iadd ea2059 bd1811 bc_1 (by decide) (by decide)
            have qe2062 : zi2058.toInt = zi1286.toInt + 1 := by have ha : (1 : Int32).toInt = 1 := (by decide); rw [ha] at qe2061; exact qe2061
            refine lv_iinc (v := zi2058) (lv' := [(10, .int zi2058), (11, .int 1), (0, .ref qa900), (1, .ref qa901), (2, .int zi902), (3, .int zi903), (4, .int zi904), (5, .int zi905), (6, .int zi10), (7, .int zi15), (8, .long wl23)]) hx hb dX1_expand_219 hl (k := 10) rfl ea2059.symm (by decide) rfl (fun ls hl => ?_)
            refine lv_goto (tgt := 36) hx hb dX1_expand_222 (by decide) ?_
            exact ih1802 K ln Ls gn hp1287 zi2058 _ _ ls (by have := hm1804; have := qe2062; omega) hW gex gfx ok1288 pd1289 (by omega) kd1290 kd1291 (b_wid2 bd2060 (by decide) (by decide)) (lv_sub hl [2, 3, 4, 5, 6, 7, 8, 9, 10, 0] rfl) hw hS
  exact lp1803 _ K ln Ls gn hp0 0 _ _ ls (lp_in _) hW gex gfx ok1 pdNS (by omega) kd900 kd901 (b_wid2 bc_0 (by decide) (by decide)) (lv_sub hl [4, 5, 6, 7, 8, 9, 3, 2, 1, 0] rfl) hw hS

set_option maxRecDepth 100000 in
set_option maxHeartbeats 4000000 in
theorem cX1_find_0 (l : Launch) (G : va_G) (cy : Nat → ClassId) (ev : Ew) (K0 ln0 : Nat → Nat) (Ls0 : List Nat) (hW0 : SW K0 ln0 Ls0) (sz : Nat) (hp0 : Nat → Nat → Value) (ok0 : Ok K0 hp0) (qa900 : Nat) (qa901 : Nat) (zi902 : Int32) (g0 : Nat) (kd900 : K0 qa900 = 2) (kd901 : K0 qa901 = 11) (bd902 : ((0 : Int) ≤ zi902.toInt ∧ zi902.toInt ≤ 5)) (pdNS : NSx K0 ln0 hp0 g0) : Met l yX1_find (WS yX1_find cX1_find 7 none) { frames := 6, cells := 327680, slots := 4580352, locals := 157 } (PB2 [.ref qa900, .ref qa901, .int zi902] sz G cy ev (va_pl Ls0 (cellOf cy K0 ln0 hp0))) (QGv (fun u : GU × Nat => GPx wsC K0 ln0 hp0 g0 u.1 u.2) G cy g0 (va_A (va_pl Ls0 (cellOf cy K0 ln0 hp0)) sz)) 327680 4580352 (va_A (va_pl Ls0 (cellOf cy K0 ln0 hp0)) sz) := by
  refine met_of2 (y := yX1_find) (L := 7) (av := [.ref qa900, .ref qa901, .int zi902]) (Qc := fun A => QGv (fun u : GU × Nat => GPx wsC K0 ln0 hp0 g0 u.1 u.2) G cy g0 A) (plainFor_of_name (by decide)) (Nat.le_of_ble_eq_true rfl) ?_
  intro p e s m below meth c hsz hx hb hr hml hown hT hlocks hin hK A hA hE hw hS ls hl
  have hw : PW G cy K0 ln0 Ls0 A hp0 s.heap := hw
  have hown : s.vm.findClass "LieClock$Book" = some m.cls := hown
  have hl : lv_has ls 7 [(0, .ref qa900), (1, .ref qa901), (2, .int zi902)] := hl
  obtain ⟨Q, hQ⟩ : ∃ Q : State → Prop, Q = MQ below (QGv (fun u : GU × Nat => GPx wsC K0 ln0 hp0 g0 u.1 u.2) G cy g0 A) ([.ref qa900, .ref qa901, .int zi902] : List Value).toArray s 327680 4580352 A := ⟨_, rfl⟩
  rw [← hQ]
  obtain ⟨K, ln, Ls, gn, hW, gex, gfx, ok1, hKe, hga, hge, kd900, kd901, pdNS, hw⟩ : ∃ (K ln : Nat → Nat) (Ls : List Nat) (gn : Nat), SW K ln Ls ∧ EXx K0 ln0 K ln ∧ FrX wsC K0 hp0 hp0 ∧ Ok K hp0 ∧ K = K0 ∧ g0 ≤ gn ∧ gn = g0 ∧ (K qa900 = 2) ∧ (K qa901 = 11) ∧ (NSx K ln hp0 gn) ∧ PW G cy K ln Ls A hp0 s.heap := ⟨K0, ln0, Ls0, g0, hW0, EXx.rf, FrX.rf, ok0, rfl, Nat.le_refl _, rfl, kd900, kd901, pdNS, hw⟩
  have hg0 : 256 ≤ g0 ∧ g0 ≤ 131072 := by have := NSx.bd pdNS; omega
  refine W.widen (k := gn - g0) (n := 14 * (gn - g0)) (Nat.zero_le _) (Nat.zero_le _) ?_
  have hgn := NSx.bd pdNS
  refine lv_aload_n hx hb dX1_find_0 rfl (lv_at hl 0 rfl) ?_
  obtain ⟨qa2, eq1, kd3⟩ := rd_2004 ok1 kd900
  refine p_get (ci := 1) (v := .ref qa2) (C := RX1) (T := TX1) (N := 8) hx hb hT iw_X1 hown hK hw hW kd900 (by decide) rfl rfl 4 (by decide) eq1 (hT _ tb_633) (fun _ h9 => h9) dX1_find_1 ?_
  refine lv_iload_n hx hb dX1_find_4 rfl (lv_at hl 2 rfl) ?_
  obtain ⟨zi5, eq4, bd6⟩ := rd_22000 ok1 kd3 ((zi902 : Int32).toNatClampNeg)
  refine p_zald (v := zi5) hx hb hK hw hW kd3 (by decide) rfl (hW.len kd3 (n := 6) rfl (by decide)) (vp_b bd902 (by decide) (by decide)) eq4 dX1_find_5 ?_
  refine lv_if_eq (tgt := 10) hx hb dX1_find_6 (by decide) (fun cn7 => ?_) (fun cn7 => ?_)
  · skip
    have bd8 : (0 : Int) ≤ zi5.toInt ∧ zi5.toInt ≤ 0 := r_eq_x cn7 bd6 bc_0 (by decide) (by decide)
    refine lv_aload_n hx hb dX1_find_10 rfl (lv_at hl 0 rfl) ?_
    refine p_get (ci := 1) (v := .ref qa2) (C := RX1) (T := TX1) (N := 8) hx hb hT iw_X1 hown hK hw hW kd900 (by decide) rfl rfl 4 (by decide) eq1 (hT _ tb_633) (fun _ h9 => h9) dX1_find_11 ?_
    refine lv_iload_n hx hb dX1_find_14 rfl (lv_at hl 2 rfl) ?_
    refine lv_iconst (v := 1) hx hb dX1_find_15 (by decide) ?_
    refine p_zast (x := 1) hx hb hK hw hS hW kd3 (by decide) rfl (hW.len kd3 (n := 6) rfl (by decide)) (vp_b bd902 (by decide) (by decide)) dX1_find_16 (fun hp9 eh10 H locs hw hS => ?_)
    have ok11 := wr_22000 (nar_z 1) (by decide) (by decide) ok1 kd3 eh10
    refine lv_aload_n hx hb dX1_find_17 rfl (lv_at hl 0 rfl) ?_
    obtain ⟨qa13, eq12, kd14⟩ := rd_2005 ok11 kd900
    refine p_get (ci := 1) (v := .ref qa13) (C := RX1) (T := TX1) (N := 8) hx hb hT iw_X1 hown hK hw hW kd900 (by decide) rfl rfl 5 (by decide) eq12 (hT _ tb_634) (fun _ h9 => h9) dX1_find_18 ?_
    refine lv_iload_n hx hb dX1_find_21 rfl (lv_at hl 2 rfl) ?_
    refine lv_iload_n hx hb dX1_find_22 rfl (lv_at hl 2 rfl) ?_
    refine lv_if_ne (tgt := 30) hx hb dX1_find_23 (by decide) (fun cn15 => ?_) (fun cn15 => ?_)
    · skip
      have tf16 : (zi902 : Int32).toInt ≠ (0 : Int32).toInt := fun e => cn15 (Int32.toInt_inj.mp e)
      have := toi bc_0
      have bd17 : (1 : Int) ≤ zi902.toInt ∧ zi902.toInt ≤ 5 := r_ne_lo cn15 bd902 (toi bc_0) (by decide) (by decide)
      refine lv_lconst (v := 0) hx hb dX1_find_30 (by decide) ?_
      refine p_last (x := 0) hx hb hK hw hS hW kd14 (by decide) rfl (hW.len kd14 (n := 6) rfl (by decide)) (vp_b bd17 (by decide) (by decide)) dX1_find_31 (fun hp18 eh19 H locs hw hS => ?_)
      have ok20 := wr_23000 ok11 kd14 eh19
      refine lv_aload_n hx hb dX1_find_32 rfl (lv_at hl 0 rfl) ?_
      obtain ⟨qa22, eq21, kd23⟩ := rd_2006 ok20 kd900
      refine p_get (ci := 1) (v := .ref qa22) (C := RX1) (T := TX1) (N := 8) hx hb hT iw_X1 hown hK hw hW kd900 (by decide) rfl rfl 6 (by decide) eq21 (hT _ tb_636) (fun _ h9 => h9) dX1_find_33 ?_
      refine lv_iload_n hx hb dX1_find_36 rfl (lv_at hl 2 rfl) ?_
      refine lv_iload_n hx hb dX1_find_37 rfl (lv_at hl 2 rfl) ?_
      refine lv_if_ne (tgt := 45) hx hb dX1_find_38 (by decide) (fun _ => ?_) (fun c => absurd c (d_ne bd17 bc_0 (by decide)))
      refine lv_iconst (v := 1) hx hb dX1_find_45 (by decide) ?_
      refine lv_aload_n hx hb dX1_find_46 rfl (lv_at hl 1 rfl) ?_
      obtain ⟨zi25, eq24, bd26⟩ := rd_11004 ok20 kd901
      refine p_getN (ci := 10) (v := .int zi25) (C := RX10) (T := TX10) (N := 20) hx hb hT iw_X10 hown hK hw hW kd901 (by decide) rfl rfl 4 (by decide) eq24 (hK.fl nw_97) (fun _ h9 => h9) dX1_find_47 ?_
      refine lv_ishl hx hb dX1_find_50 (lv_topi (fun zi27 ea28 => ?_))
      have bd29 : (1 : Int) ≤ zi27.toInt ∧ zi27.toInt ≤ 65536 := b_shl1 16 ea28 bd26 (by decide) (by decide) (by decide) (by decide) (by decide)
      refine lv_iconst (v := 1) hx hb dX1_find_51 (by decide) ?_
      refine lv_isub hx hb dX1_find_52 (lv_topi (fun zi30 ea31 => ?_))
      have bd32 : (0 : Int) ≤ zi30.toInt ∧ zi30.toInt ≤ 65535 := b_isub ea31 bd29 bc_1 (by decide) (by decide) (by decide) (by decide)
      have qe33 : zi30.toInt = (zi27 : Int32).toInt - (1 : Int32).toInt := e_isub ea31 bd29 bc_1 (by decide) (by decide)
      have qe34 : zi30.toInt = zi27.toInt - 1 := by have ha : (1 : Int32).toInt = 1 := (by decide); rw [ha] at qe33; exact qe33
      refine p_iast (x := zi30) hx hb hK hw hS hW kd23 (by decide) rfl (hW.len kd23 (n := 6) rfl (by decide)) (vp_b bd17 (by decide) (by decide)) dX1_find_53 (fun hp35 eh36 H locs hw hS => ?_)
      have ok37 := wr_24000 ok20 kd23 eh36
      refine lv_aload_n hx hb dX1_find_54 rfl (lv_at hl 0 rfl) ?_
      obtain ⟨qa39, eq38, kd40⟩ := rd_2007 ok37 kd900
      refine p_get (ci := 1) (v := .ref qa39) (C := RX1) (T := TX1) (N := 8) hx hb hT iw_X1 hown hK hw hW kd900 (by decide) rfl rfl 7 (by decide) eq38 (hT _ tb_638) (fun _ h9 => h9) dX1_find_55 ?_
      refine lv_iload_n hx hb dX1_find_58 rfl (lv_at hl 2 rfl) ?_
      refine lv_iload_n hx hb dX1_find_59 rfl (lv_at hl 2 rfl) ?_
      refine lv_if_ne (tgt := 67) hx hb dX1_find_60 (by decide) (fun _ => ?_) (fun c => absurd c (d_ne bd17 bc_0 (by decide)))
      refine lv_iconst (v := 1) hx hb dX1_find_67 (by decide) ?_
      refine lv_aload_n hx hb dX1_find_68 rfl (lv_at hl 1 rfl) ?_
      obtain ⟨zi42, eq41, bd43⟩ := rd_11003 ok37 kd901
      refine p_getN (ci := 10) (v := .int zi42) (C := RX10) (T := TX10) (N := 20) hx hb hT iw_X10 hown hK hw hW kd901 (by decide) rfl rfl 3 (by decide) eq41 (hK.fl nw_89) (fun _ h9 => h9) dX1_find_69 ?_
      refine lv_ishl hx hb dX1_find_72 (lv_topi (fun zi44 ea45 => ?_))
      have bd46 : (1 : Int) ≤ zi44.toInt ∧ zi44.toInt ≤ 64 := b_shl1 6 ea45 bd43 (by decide) (by decide) (by decide) (by decide) (by decide)
      refine lv_iconst (v := 1) hx hb dX1_find_73 (by decide) ?_
      refine lv_isub hx hb dX1_find_74 (lv_topi (fun zi47 ea48 => ?_))
      have bd49 : (0 : Int) ≤ zi47.toInt ∧ zi47.toInt ≤ 63 := b_isub ea48 bd46 bc_1 (by decide) (by decide) (by decide) (by decide)
      have qe50 : zi47.toInt = (zi44 : Int32).toInt - (1 : Int32).toInt := e_isub ea48 bd46 bc_1 (by decide) (by decide)
      have qe51 : zi47.toInt = zi44.toInt - 1 := by have ha : (1 : Int32).toInt = 1 := (by decide); rw [ha] at qe50; exact qe50
      refine p_iast (x := zi47) hx hb hK hw hS hW kd40 (by decide) rfl (hW.len kd40 (n := 6) rfl (by decide)) (vp_b bd17 (by decide) (by decide)) dX1_find_75 (fun hp52 eh53 H locs hw hS => ?_)
      have ok54 := wr_25000 ok37 kd40 eh53
      refine lv_aload_n hx hb dX1_find_76 rfl (lv_at hl 0 rfl) ?_
      obtain ⟨qa56, eq55, kd57⟩ := rd_2000 ok54 kd900
      refine p_get (ci := 1) (v := .ref qa56) (C := RX1) (T := TX1) (N := 8) hx hb hT iw_X1 hown hK hw hW kd900 (by decide) rfl rfl 0 (by decide) eq55 (hT _ tb_628) (fun _ h9 => h9) dX1_find_77 ?_
      have pd58 : NSx K ln hp52 gn := NSx_fr ok1  (show Fr [22000, 23000, 24000, 25000] K hp0 hp52 from (Fr.put (cq := 25000) (Fr.put (cq := 24000) (Fr.put (cq := 23000) (Fr.put (cq := 22000) (Fr.rf) eh10 kd3 (cd_a (by decide)) (by decide)) eh19 kd14 (cd_a (by decide)) (by decide)) eh36 kd23 (cd_a (by decide)) (by decide)) eh53 kd40 (cd_a (by decide)) (by decide))) (by decide) pdNS
      refine kq_v hw hS hA (va_runV (As := []) (rest := []) ⟨hx, hb, hml, hown, hT⟩ (cX3_clear_0 l G cy ev K ln Ls hW _ hp52 ok54 qa56 gn kd57 pd58) (cwV 0 hT (good_V tb_1136 tb_1317 tb_1134 tb_1135 tb_117) rfl rfl rfl (by decide +kernel) ⟨Nat.le_of_ble_eq_true rfl, Nat.le_of_ble_eq_true rfl⟩) (pool_preV (ci := 3) hK hE hS hA hw hW kd57 (by decide) rfl) rfl rfl hl.1 rfl (lv_room (Nat.le_of_ble_eq_true rfl)) dX1_find_80 ⟨(show (gn - g0) + 0 ≤ 327680 from by omega), (show (14 * (gn - g0)) + 0 ≤ 4580352 from by omega)⟩) (fun hp59 H locs hq62 hw hS => ?_)
      obtain ⟨ok60, F61, ⟨zi64, eq65, bd66⟩, xq67⟩ := hq62
      have hw : PW G cy K ln Ls A hp59 H := hw
      refine lv_aload_n hx hb dX1_find_83 rfl (lv_at hl 0 rfl) ?_
      obtain ⟨qa69, eq68, kd70⟩ := rd_2001 ok60 kd900
      refine p_get (ci := 1) (v := .ref qa69) (C := RX1) (T := TX1) (N := 8) hx hb hT iw_X1 hown hK hw hW kd900 (by decide) rfl rfl 1 (by decide) eq68 (hT _ tb_629) (fun _ h9 => h9) dX1_find_84 ?_
      refine lv_aload_n hx hb dX1_find_87 rfl (lv_at hl 1 rfl) ?_
      refine kq_v hw hS hA (va_runV (As := [.ref qa901]) (rest := []) ⟨hx, hb, hml, hown, hT⟩ (cX7_begin_0 l G cy ev K ln Ls hW _ hp59 ok60 qa69 qa901 kd70 kd901) (cwV 1 hT (good_V tb_474 tb_1318 tb_472 tb_473 tb_115) rfl rfl rfl (by decide +kernel) ⟨Nat.le_of_ble_eq_true rfl, Nat.le_of_ble_eq_true rfl⟩) (pool_preV (ci := 7) hK hE hS hA hw hW kd70 (by decide) rfl) rfl rfl hl.1 rfl (lv_room (Nat.le_of_ble_eq_true rfl)) dX1_find_88 ⟨(show (gn - g0) + 0 ≤ 327680 from by omega), (show (14 * (gn - g0)) + 0 ≤ 4580352 from by omega)⟩) (fun hp71 H locs hq74 hw hS => ?_)
      obtain ⟨ok72, F73⟩ := hq74
      have hw : PW G cy K ln Ls A hp71 H := hw
      refine lv_aload_n hx hb dX1_find_91 rfl (lv_at hl 0 rfl) ?_
      have eq76 : hp71 qa900 0 = .ref qa56 := Eq.trans (Fr.at (cq := 2000) F73 kd900 (cd_o (by decide)) (by decide)) (Eq.trans (Fr.at (cq := 2000) F61 kd900 (cd_o (by decide)) (by decide)) eq55)
      refine p_get (ci := 1) (v := .ref qa56) (C := RX1) (T := TX1) (N := 8) hx hb hT iw_X1 hown hK hw hW kd900 (by decide) rfl rfl 0 (by decide) eq76 (hT _ tb_628) (fun _ h9 => h9) dX1_find_92 ?_
      refine lv_aload_n hx hb dX1_find_95 rfl (lv_at hl 0 rfl) ?_
      have eq77 : hp71 qa900 1 = .ref qa69 := Eq.trans (Fr.at (cq := 2001) F73 kd900 (cd_o (by decide)) (by decide)) eq68
      refine p_get (ci := 1) (v := .ref qa69) (C := RX1) (T := TX1) (N := 8) hx hb hT iw_X1 hown hK hw hW kd900 (by decide) rfl rfl 1 (by decide) eq77 (hT _ tb_629) (fun _ h9 => h9) dX1_find_96 ?_
      refine lv_iconst (v := 0) hx hb dX1_find_99 (by decide) ?_
      refine lv_lconst (v := 1) hx hb dX1_find_100 (by decide) ?_
      refine lv_iconst (v := 0) hx hb dX1_find_101 (by decide) ?_
      have pd78 : NSx K ln hp71 gn := NSx_fr ok60  (show Fr [8000, 8001, 8002, 8003, 8004, 8005, 40000, 41000, 42000] K hp59 hp71 from (Fr.tr (Fr.rf) F73 (by decide))) (by decide) xq67
      have gf86 : FrX wsC K0 hp0 hp71 := (FrX.tr gfx gex (FrX.of (show Fr [4006, 8000, 8001, 8002, 8003, 8004, 8005, 22000, 23000, 24000, 25000, 33000, 40000, 41000, 42000] K hp0 hp71 from (Fr.tr (Fr.tr (Fr.put (cq := 25000) (Fr.put (cq := 24000) (Fr.put (cq := 23000) (Fr.put (cq := 22000) (Fr.rf) eh10 kd3 (cd_a (by decide)) (by decide)) eh19 kd14 (cd_a (by decide)) (by decide)) eh36 kd23 (cd_a (by decide)) (by decide)) eh53 kd40 (cd_a (by decide)) (by decide)) F61 (by decide)) F73 (by decide)))) (by decide))
      refine kg_v hw hS hA (va_runV (As := [.ref qa69, .int 0, .long 1, .int 0]) (rest := []) ⟨hx, hb, hml, hown, hT⟩ (Met.szx (cX3_add_vG_0 l G cy ev K ln Ls hW _ hp71 ok72 qa56 qa69 0 1 0 gn kd57 kd70 pd78)) (cwV 4 hT (good_V tb_1142 tb_1319 tb_1140 tb_1141 tb_117) rfl rfl rfl (by decide +kernel) ⟨Nat.le_of_ble_eq_true rfl, Nat.le_of_ble_eq_true rfl⟩) (pool_preV (ci := 3) hK hE hS hA hw hW kd57 (by decide) rfl) rfl rfl hl.1 rfl (lv_room (Nat.le_of_ble_eq_true rfl)) dX1_find_102 ⟨(show (gn - g0) + 65536 ≤ 327680 from by omega), (show (14 * (gn - g0)) + 917504 ≤ 4580352 from by omega)⟩) (fun u gn H locs hq79 hw hS => ?_)
      obtain ⟨K, ln, Ls, hp80⟩ := u
      obtain ⟨ex82, hW, ok81, fx83, pd84, hle85⟩ := hq79
      have hw : PW G cy K ln Ls A hp80 H := hw
      have gfx : FrX wsC K0 hp0 hp80 := FrX.tr gf86 gex fx83 (by decide)
      have gex := EXx.tr gex ex82
      have kd89 := EXx.kd ex82 kd900 (by decide)
      have kd90 := EXx.kd ex82 kd901 (by decide)
      have hgn := NSx.bd pd84
      refine W.widen (k := gn - g0) (n := 14 * (gn - g0)) (by omega) (by omega) ?_
      have hga : g0 ≤ gn := by omega
      refine lv_iconst (v := 0) hx hb dX1_find_105 (by decide) ?_
      refine lv_istore_n (lv' := [(3, .int 0), (0, .ref qa900), (1, .ref qa901), (2, .int zi902)]) hx hb dX1_find_106 rfl hl (by decide) rfl (fun ls hl => ?_)
      refine lv_iconst (v := 1) hx hb dX1_find_107 (by decide) ?_
      refine lv_istore (lv' := [(4, .int 1), (3, .int 0), (0, .ref qa900), (1, .ref qa901), (2, .int zi902)]) hx hb dX1_find_108 hl (by decide) rfl (fun ls hl => ?_)
      have lp1647 : ∀ (n1645 : Nat) (K ln : Nat → Nat) (Ls : List Nat) (gn : Nat) (hp1272 : Nat → Nat → Value) (zi1270 : Int32) (zi1271 : Int32) (H : Heap) (locs : List Loc) (ls : Array Slot), 6 - zi1271.toInt < (n1645 : Int) → SW K ln Ls → EXx K0 ln0 K ln → FrX wsC K0 hp0 hp1272 → Ok K hp1272 → NSx K ln hp1272 gn → g0 ≤ gn → K qa900 = 2 → K qa901 = 11 → ((0 : Int) ≤ zi1270.toInt ∧ zi1270.toInt ≤ 131072) → ((1 : Int) ≤ zi1271.toInt ∧ zi1271.toInt ≤ 6) → lv_has ls 7 [(0, .ref qa900), (1, .ref qa901), (2, .int zi902), (3, .int zi1270), (4, .int zi1271)] → PW G cy K ln Ls A hp1272 H → va_S A s.heap H locs → W p l e ({ frames := 6, cells := 327680, slots := 4580352, locals := 157 } : Room) s m ([.ref qa900, .ref qa901, .int zi902] : List Value).toArray below meth c H locs (gn - g0) (14 * (gn - g0)) Q (F0 m 110 ls []) := by
        intro n1645
        induction n1645 with
        | zero =>
          intro K ln Ls gn hp1272 zi1270 zi1271 H locs ls hm1648 hW gex gfx ok1273 pd1274 hga kd1275 kd1276 bd1277 bd1278 hl hw hS
          exact absurd hm1648 (by have := bd1278; omega)
        | succ n1645 ih1646 =>
          intro K ln Ls gn hp1272 zi1270 zi1271 H locs ls hm1648 hW gex gfx ok1273 pd1274 hga kd1275 kd1276 bd1277 bd1278 hl hw hS
          refine lv_iload hx hb dX1_find_110 (lv_at hl 4 rfl) ?_
          refine lv_iload_n hx hb dX1_find_112 rfl (lv_at hl 2 rfl) ?_
          refine lv_icmp_gt (tgt := 162) hx hb dX1_find_113 (by decide) (fun cn1649 => ?_) (fun cn1649 => ?_)
          · skip
            have tf1650 : zi902.toInt < zi1271.toInt := (fa_lt _ _).mp cn1649
            have bd1651 : (2 : Int) ≤ zi1271.toInt ∧ zi1271.toInt ≤ 6 := r_lt_y cn1649 bd17 bd1278 (by decide) (by decide)
            refine lv_aload_n hx hb dX1_find_162 rfl (lv_at hl 0 rfl) ?_
            obtain ⟨qa1653, eq1652, kd1654⟩ := rd_2005 ok1273 kd1275
            refine p_get (ci := 1) (v := .ref qa1653) (C := RX1) (T := TX1) (N := 8) hx hb hT iw_X1 hown hK hw hW kd1275 (by decide) rfl rfl 5 (by decide) eq1652 (hT _ tb_634) (fun _ h9 => h9) dX1_find_163 ?_
            refine lv_iload_n hx hb dX1_find_166 rfl (lv_at hl 2 rfl) ?_
            obtain ⟨wl1656, eq1655⟩ := rd_23000 ok1273 kd1654 ((zi902 : Int32).toNatClampNeg)
            refine p_lald (v := wl1656) hx hb hK hw hW kd1654 (by decide) rfl (hW.len kd1654 (n := 6) rfl (by decide)) (vp_b bd17 (by decide) (by decide)) eq1655 dX1_find_167 ?_
            refine lv_lconst (v := 0) hx hb dX1_find_168 (by decide) ?_
            refine W.lcmp hx hb dX1_find_169 (lv_topi (fun zi1657 ea1658 => ?_))
            refine lv_if_ne (tgt := 187) hx hb dX1_find_170 (by decide) (fun cn1659 => ?_) (fun cn1659 => ?_)
            · skip
              have tf1660 : (zi1657 : Int32).toInt ≠ (0 : Int32).toInt := fun e => cn1659 (Int32.toInt_inj.mp e)
              have := toi bc_0
              rw [hQ]
              exact kgz_v (n := g0) hx hb hr hlocks hS (((K, ln, Ls, hp1272), gn) : GU × Nat) hw ⟨gex, hW, ok1273, gfx, pd1274, (by omega)⟩ (show (gn - g0) ≤ gn - g0 from by omega) (show (14 * (gn - g0)) ≤ 14 * (gn - g0) from by omega) (show (gn - g0) ≤ 327680 from by omega) (show (14 * (gn - g0)) ≤ 4580352 from by omega) dX1_find_187
            · skip
              have bd1661 : (0 : Int) ≤ zi1657.toInt ∧ zi1657.toInt ≤ 0 := r_eq_x cn1659 (b_all zi1657) bc_0 (by decide) (by decide)
              refine lv_aload_n hx hb dX1_find_173 rfl (lv_at hl 0 rfl) ?_
              obtain ⟨qa1663, eq1662, kd1664⟩ := rd_2006 ok1273 kd1275
              refine p_get (ci := 1) (v := .ref qa1663) (C := RX1) (T := TX1) (N := 8) hx hb hT iw_X1 hown hK hw hW kd1275 (by decide) rfl rfl 6 (by decide) eq1662 (hT _ tb_636) (fun _ h9 => h9) dX1_find_174 ?_
              refine lv_iload_n hx hb dX1_find_177 rfl (lv_at hl 2 rfl) ?_
              refine lv_iconst (v := 0) hx hb dX1_find_178 (by decide) ?_
              refine p_iast (x := 0) hx hb hK hw hS hW kd1664 (by decide) rfl (hW.len kd1664 (n := 6) rfl (by decide)) (vp_b bd17 (by decide) (by decide)) dX1_find_179 (fun hp1665 eh1666 H locs hw hS => ?_)
              have ok1667 := wr_24000 ok1273 kd1664 eh1666
              refine lv_aload_n hx hb dX1_find_180 rfl (lv_at hl 0 rfl) ?_
              obtain ⟨qa1669, eq1668, kd1670⟩ := rd_2007 ok1667 kd1275
              refine p_get (ci := 1) (v := .ref qa1669) (C := RX1) (T := TX1) (N := 8) hx hb hT iw_X1 hown hK hw hW kd1275 (by decide) rfl rfl 7 (by decide) eq1668 (hT _ tb_638) (fun _ h9 => h9) dX1_find_181 ?_
              refine lv_iload_n hx hb dX1_find_184 rfl (lv_at hl 2 rfl) ?_
              refine lv_iconst (v := 0) hx hb dX1_find_185 (by decide) ?_
              refine p_iast (x := 0) hx hb hK hw hS hW kd1670 (by decide) rfl (hW.len kd1670 (n := 6) rfl (by decide)) (vp_b bd17 (by decide) (by decide)) dX1_find_186 (fun hp1671 eh1672 H locs hw hS => ?_)
              have ok1673 := wr_25000 ok1667 kd1670 eh1672
              rw [hQ]
              have pd1674 : NSx K ln hp1671 gn := NSx_fr ok1273  (show Fr [24000, 25000] K hp1272 hp1671 from (Fr.put (cq := 25000) (Fr.put (cq := 24000) (Fr.rf) eh1666 kd1664 (cd_a (by decide)) (by decide)) eh1672 kd1670 (cd_a (by decide)) (by decide))) (by decide) pd1274
              exact kgz_v (n := g0) hx hb hr hlocks hS (((K, ln, Ls, hp1671), gn) : GU × Nat) hw ⟨gex, hW, ok1673, (FrX.tr gfx gex (FrX.of (show Fr [24000, 25000] K hp1272 hp1671 from (Fr.put (cq := 25000) (Fr.put (cq := 24000) (Fr.rf) eh1666 kd1664 (cd_a (by decide)) (by decide)) eh1672 kd1670 (cd_a (by decide)) (by decide)))) (by decide)), pd1674, (by omega)⟩ (show (gn - g0) ≤ gn - g0 from by omega) (show (14 * (gn - g0)) ≤ 14 * (gn - g0) from by omega) (show (gn - g0) ≤ 327680 from by omega) (show (14 * (gn - g0)) ≤ 4580352 from by omega) dX1_find_187
          · skip
            have tf1675 : zi1271.toInt ≤ zi902.toInt := (fa_le _ _).mp (Int32.not_lt.mp cn1649)
            have bd1676 : (1 : Int) ≤ zi1271.toInt ∧ zi1271.toInt ≤ 5 := r_le_x (Int32.not_lt.mp cn1649) bd1278 bd17 (by decide) (by decide)
            refine lv_aload_n hx hb dX1_find_116 rfl (lv_at hl 0 rfl) ?_
            obtain ⟨qa1678, eq1677, kd1679⟩ := rd_2000 ok1273 kd1275
            refine p_get (ci := 1) (v := .ref qa1678) (C := RX1) (T := TX1) (N := 8) hx hb hT iw_X1 hown hK hw hW kd1275 (by decide) rfl rfl 0 (by decide) eq1677 (hT _ tb_628) (fun _ h9 => h9) dX1_find_117 ?_
            obtain ⟨zi1681, eq1680, bd1682⟩ := rd_4006 ok1273 kd1679
            have nz1683 := (pd1274).sz kd1679 eq1680
            refine p_getN (ci := 3) (v := .int zi1681) (C := RX3) (T := TX3) (N := 7) hx hb hT iw_X3 hown hK hw hW kd1679 (by decide) rfl rfl 6 (by decide) eq1680 (hK.fl nw_401) (fun _ h9 => h9) dX1_find_120 ?_
            refine lv_istore (lv' := [(5, .int zi1681), (0, .ref qa900), (1, .ref qa901), (2, .int zi902), (3, .int zi1270), (4, .int zi1271)]) hx hb dX1_find_123 hl (by decide) rfl (fun ls hl => ?_)
            refine lv_iload_n hx hb dX1_find_125 rfl (lv_at hl 4 rfl) ?_
            refine lv_istore (lv' := [(6, .int zi1270), (5, .int zi1681), (0, .ref qa900), (1, .ref qa901), (2, .int zi902), (3, .int zi1270), (4, .int zi1271)]) hx hb dX1_find_126 hl (by decide) rfl (fun ls hl => ?_)
            have lp1826 : ∀ (n1824 : Nat) (K ln : Nat → Nat) (Ls : List Nat) (gn : Nat) (hp1773 : Nat → Nat → Value) (zi1772 : Int32) (H : Heap) (locs : List Loc) (ls : Array Slot), 131072 - zi1772.toInt < (n1824 : Int) → SW K ln Ls → EXx K0 ln0 K ln → FrX wsC K0 hp0 hp1773 → Ok K hp1773 → NSx K ln hp1773 gn → g0 ≤ gn → K qa900 = 2 → K qa901 = 11 → ((0 : Int) ≤ zi1772.toInt ∧ zi1772.toInt ≤ 131072) → ((zi1681 : Int32).toInt ≤ (gn : Nat)) → lv_has ls 7 [(0, .ref qa900), (1, .ref qa901), (2, .int zi902), (4, .int zi1271), (5, .int zi1681), (6, .int zi1772)] → PW G cy K ln Ls A hp1773 H → va_S A s.heap H locs → W p l e ({ frames := 6, cells := 327680, slots := 4580352, locals := 157 } : Room) s m ([.ref qa900, .ref qa901, .int zi902] : List Value).toArray below meth c H locs (gn - g0) (14 * (gn - g0)) Q (F0 m 128 ls []) := by
              intro n1824
              induction n1824 with
              | zero =>
                intro K ln Ls gn hp1773 zi1772 H locs ls hm1827 hW gex gfx ok1774 pd1775 hga kd1776 kd1777 bd1779 rq1778 hl hw hS
                exact absurd hm1827 (by have := bd1779; omega)
              | succ n1824 ih1825 =>
                intro K ln Ls gn hp1773 zi1772 H locs ls hm1827 hW gex gfx ok1774 pd1775 hga kd1776 kd1777 bd1779 rq1778 hl hw hS
                refine lv_iload hx hb dX1_find_128 (lv_at hl 5 rfl) ?_
                refine lv_iload hx hb dX1_find_130 (lv_at hl 4 rfl) ?_
                refine lv_icmp_ge (tgt := 153) hx hb dX1_find_132 (by decide) (fun cn1828 => ?_) (fun cn1828 => ?_)
                · skip
                  have tf1829 : zi1681.toInt ≤ zi1772.toInt := (fa_le _ _).mp cn1828
                  refine lv_iload hx hb dX1_find_153 (lv_at hl 4 rfl) ?_
                  refine lv_istore_n (lv' := [(3, .int zi1681), (0, .ref qa900), (1, .ref qa901), (2, .int zi902), (4, .int zi1271), (5, .int zi1681), (6, .int zi1772)]) hx hb dX1_find_155 rfl hl (by decide) rfl (fun ls hl => ?_)
                  obtain ⟨zi1830, ea1831⟩ : ∃ z : Int32, z = zi1271 + 1 := ⟨_, rfl⟩
                  have bd1832 : (2 : Int) ≤ zi1830.toInt ∧ zi1830.toInt ≤ 6 := b_iadd ea1831 bd1676 bc_1 (by decide) (by decide) (by decide) (by decide)
                  have qe1833 : zi1830.toInt = (zi1271 : Int32).toInt + (1 : Int32).toInt := e_iadd ea1831 bd1676 bc_1 (by decide) (by decide)
                  have qe1834 : zi1830.toInt = zi1271.toInt + 1 := by have ha : (1 : Int32).toInt = 1 := (by decide); rw [ha] at qe1833; exact qe1833
                  refine lv_iinc (v := zi1830) (lv' := [(4, .int zi1830), (3, .int zi1681), (0, .ref qa900), (1, .ref qa901), (2, .int zi902), (5, .int zi1681), (6, .int zi1772)]) hx hb dX1_find_156 hl (k := 4) rfl ea1831.symm (by decide) rfl (fun ls hl => ?_)
                  refine lv_goto (tgt := 110) hx hb dX1_find_159 (by decide) ?_
                  exact ih1646 K ln Ls gn hp1773 zi1681 zi1830 _ _ ls (by have := hm1648; have := qe1834; omega) hW gex gfx ok1774 pd1775 (by omega) kd1776 kd1777 (b_wid2 bd1682 (by decide) (by decide)) (b_wid2 bd1832 (by decide) (by decide)) (lv_sub hl [2, 3, 4, 1, 0] rfl) hw hS
                · skip
                  have tf1835 : zi1772.toInt < zi1681.toInt := (fa_lt _ _).mp (Int32.not_le.mp cn1828)
                  have bd1836 : (0 : Int) ≤ zi1772.toInt ∧ zi1772.toInt ≤ 131071 := r_lt_x (Int32.not_le.mp cn1828) bd1779 bd1682 (by decide) (by decide)
                  have bd1837 : (1 : Int) ≤ zi1681.toInt ∧ zi1681.toInt ≤ 131072 := r_lt_y (Int32.not_le.mp cn1828) bd1779 bd1682 (by decide) (by decide)
                  refine lv_aload_n hx hb dX1_find_135 rfl (lv_at hl 0 rfl) ?_
                  refine lv_aload_n hx hb dX1_find_136 rfl (lv_at hl 1 rfl) ?_
                  refine lv_iload hx hb dX1_find_137 (lv_at hl 5 rfl) ?_
                  refine lv_iload hx hb dX1_find_139 (lv_at hl 3 rfl) ?_
                  refine lv_iload_n hx hb dX1_find_141 rfl (lv_at hl 2 rfl) ?_
                  refine lv_iload hx hb dX1_find_142 (lv_at hl 4 rfl) ?_
                  have gf1845 : FrX wsC K0 hp0 hp1773 := gfx
                  refine kg_v hw hS hA (va_runV (As := [.ref qa901, .int zi1772, .int zi1271, .int zi902, .int zi1681]) (rest := []) ⟨hx, hb, hml, hown, hT⟩ (Met.szx (cX1_expand_0 l G cy ev K ln Ls hW _ hp1773 ok1774 qa900 qa901 zi1772 zi1271 zi902 zi1681 gn kd1776 kd1777 (b_wid2 bd1836 (by decide) (by decide)) (b_wid2 bd1676 (by decide) (by decide)) (b_wid2 bd17 (by decide) (by decide)) pd1775 (by omega))) (cwV 5 hT (good_V tb_1323 tb_1320 tb_1322 tb_45 tb_121) rfl rfl rfl (by decide +kernel) ⟨Nat.le_of_ble_eq_true rfl, Nat.le_of_ble_eq_true rfl⟩) (pool_preV (ci := 1) hK hE hS hA hw hW kd1776 (by decide) rfl) rfl rfl hl.1 rfl (lv_room (Nat.le_of_ble_eq_true rfl)) dX1_find_144 ⟨(show (gn - g0) + 196608 ≤ 327680 from by omega), (show (14 * (gn - g0)) + 2748928 ≤ 4580352 from by omega)⟩) (fun u gn H locs hq1838 hw hS => ?_)
                  obtain ⟨K, ln, Ls, hp1839⟩ := u
                  obtain ⟨ex1841, hW, ok1840, fx1842, pd1843, hle1844⟩ := hq1838
                  have hw : PW G cy K ln Ls A hp1839 H := hw
                  have gfx : FrX wsC K0 hp0 hp1839 := FrX.tr gf1845 gex fx1842 (by decide)
                  have gex := EXx.tr gex ex1841
                  have kd1848 := EXx.kd ex1841 kd1776 (by decide)
                  have kd1849 := EXx.kd ex1841 kd1777 (by decide)
                  have hgn := NSx.bd pd1843
                  refine W.widen (k := gn - g0) (n := 14 * (gn - g0)) (by omega) (by omega) ?_
                  have hga : g0 ≤ gn := by omega
                  obtain ⟨zi1850, ea1851⟩ : ∃ z : Int32, z = zi1772 + 1 := ⟨_, rfl⟩
                  have bd1852 : (1 : Int) ≤ zi1850.toInt ∧ zi1850.toInt ≤ 131072 := b_iadd ea1851 bd1836 bc_1 (by decide) (by decide) (by decide) (by decide)
                  have qe1853 : zi1850.toInt = (zi1772 : Int32).toInt + (1 : Int32).toInt := e_iadd ea1851 bd1836 bc_1 (by decide) (by decide)
                  have qe1854 : zi1850.toInt = zi1772.toInt + 1 := by have ha : (1 : Int32).toInt = 1 := (by decide); rw [ha] at qe1853; exact qe1853
                  refine lv_iinc (v := zi1850) (lv' := [(6, .int zi1850), (0, .ref qa900), (1, .ref qa901), (2, .int zi902), (4, .int zi1271), (5, .int zi1681)]) hx hb dX1_find_147 hl (k := 5) rfl ea1851.symm (by decide) rfl (fun ls hl => ?_)
                  refine lv_goto (tgt := 128) hx hb dX1_find_150 (by decide) ?_
                  exact ih1825 K ln Ls gn hp1839 zi1850 _ _ ls (by have := hm1827; have := qe1854; omega) hW gex gfx ok1840 pd1843 (by omega) kd1848 kd1849 (b_wid2 bd1852 (by decide) (by decide)) (by omega) (lv_sub hl [1, 2, 3, 4, 5, 0] rfl) hw hS
            exact lp1826 _ K ln Ls gn hp1272 zi1270 _ _ ls (lp_in _) hW gex gfx ok1273 pd1274 (by omega) kd1275 kd1276 (b_wid2 bd1277 (by decide) (by decide)) (by omega) (lv_sub hl [2, 3, 4, 6, 1, 0] rfl) hw hS
      exact lp1647 _ K ln Ls gn hp80 0 1 _ _ ls (lp_in _) hW gex gfx ok81 pd84 (by omega) kd89 kd90 (b_wid2 bc_0 (by decide) (by decide)) (b_wid2 bc_1 (by decide) (by decide)) (lv_sub hl [2, 3, 4, 1, 0] rfl) hw hS
    · skip
      have bd1855 : (0 : Int) ≤ zi902.toInt ∧ zi902.toInt ≤ 0 := r_eq_x cn15 bd902 bc_0 (by decide) (by decide)
      refine lv_lconst (v := 1) hx hb dX1_find_26 (by decide) ?_
      refine lv_goto (tgt := 31) hx hb dX1_find_27 (by decide) ?_
      refine p_last (x := 1) hx hb hK hw hS hW kd14 (by decide) rfl (hW.len kd14 (n := 6) rfl (by decide)) (vp_b bd1855 (by decide) (by decide)) dX1_find_31 (fun hp1856 eh1857 H locs hw hS => ?_)
      have ok1858 := wr_23000 ok11 kd14 eh1857
      refine lv_aload_n hx hb dX1_find_32 rfl (lv_at hl 0 rfl) ?_
      obtain ⟨qa1860, eq1859, kd1861⟩ := rd_2006 ok1858 kd900
      refine p_get (ci := 1) (v := .ref qa1860) (C := RX1) (T := TX1) (N := 8) hx hb hT iw_X1 hown hK hw hW kd900 (by decide) rfl rfl 6 (by decide) eq1859 (hT _ tb_636) (fun _ h9 => h9) dX1_find_33 ?_
      refine lv_iload_n hx hb dX1_find_36 rfl (lv_at hl 2 rfl) ?_
      refine lv_iload_n hx hb dX1_find_37 rfl (lv_at hl 2 rfl) ?_
      refine lv_if_ne (tgt := 45) hx hb dX1_find_38 (by decide) (fun c => absurd (d_eq bd1855 bc_0) c) (fun _ => ?_)
      refine lv_iconst (v := 0) hx hb dX1_find_41 (by decide) ?_
      refine lv_goto (tgt := 53) hx hb dX1_find_42 (by decide) ?_
      refine p_iast (x := 0) hx hb hK hw hS hW kd1861 (by decide) rfl (hW.len kd1861 (n := 6) rfl (by decide)) (vp_b bd1855 (by decide) (by decide)) dX1_find_53 (fun hp1862 eh1863 H locs hw hS => ?_)
      have ok1864 := wr_24000 ok1858 kd1861 eh1863
      refine lv_aload_n hx hb dX1_find_54 rfl (lv_at hl 0 rfl) ?_
      obtain ⟨qa1866, eq1865, kd1867⟩ := rd_2007 ok1864 kd900
      refine p_get (ci := 1) (v := .ref qa1866) (C := RX1) (T := TX1) (N := 8) hx hb hT iw_X1 hown hK hw hW kd900 (by decide) rfl rfl 7 (by decide) eq1865 (hT _ tb_638) (fun _ h9 => h9) dX1_find_55 ?_
      refine lv_iload_n hx hb dX1_find_58 rfl (lv_at hl 2 rfl) ?_
      refine lv_iload_n hx hb dX1_find_59 rfl (lv_at hl 2 rfl) ?_
      refine lv_if_ne (tgt := 67) hx hb dX1_find_60 (by decide) (fun c => absurd (d_eq bd1855 bc_0) c) (fun _ => ?_)
      refine lv_iconst (v := 0) hx hb dX1_find_63 (by decide) ?_
      refine lv_goto (tgt := 75) hx hb dX1_find_64 (by decide) ?_
      refine p_iast (x := 0) hx hb hK hw hS hW kd1867 (by decide) rfl (hW.len kd1867 (n := 6) rfl (by decide)) (vp_b bd1855 (by decide) (by decide)) dX1_find_75 (fun hp1868 eh1869 H locs hw hS => ?_)
      have ok1870 := wr_25000 ok1864 kd1867 eh1869
      refine lv_aload_n hx hb dX1_find_76 rfl (lv_at hl 0 rfl) ?_
      obtain ⟨qa1872, eq1871, kd1873⟩ := rd_2000 ok1870 kd900
      refine p_get (ci := 1) (v := .ref qa1872) (C := RX1) (T := TX1) (N := 8) hx hb hT iw_X1 hown hK hw hW kd900 (by decide) rfl rfl 0 (by decide) eq1871 (hT _ tb_628) (fun _ h9 => h9) dX1_find_77 ?_
      have pd1874 : NSx K ln hp1868 gn := NSx_fr ok1  (show Fr [22000, 23000, 24000, 25000] K hp0 hp1868 from (Fr.put (cq := 25000) (Fr.put (cq := 24000) (Fr.put (cq := 23000) (Fr.put (cq := 22000) (Fr.rf) eh10 kd3 (cd_a (by decide)) (by decide)) eh1857 kd14 (cd_a (by decide)) (by decide)) eh1863 kd1861 (cd_a (by decide)) (by decide)) eh1869 kd1867 (cd_a (by decide)) (by decide))) (by decide) pdNS
      refine kq_v hw hS hA (va_runV (As := []) (rest := []) ⟨hx, hb, hml, hown, hT⟩ (cX3_clear_0 l G cy ev K ln Ls hW _ hp1868 ok1870 qa1872 gn kd1873 pd1874) (cwV 0 hT (good_V tb_1136 tb_1317 tb_1134 tb_1135 tb_117) rfl rfl rfl (by decide +kernel) ⟨Nat.le_of_ble_eq_true rfl, Nat.le_of_ble_eq_true rfl⟩) (pool_preV (ci := 3) hK hE hS hA hw hW kd1873 (by decide) rfl) rfl rfl hl.1 rfl (lv_room (Nat.le_of_ble_eq_true rfl)) dX1_find_80 ⟨(show (gn - g0) + 0 ≤ 327680 from by omega), (show (14 * (gn - g0)) + 0 ≤ 4580352 from by omega)⟩) (fun hp1875 H locs hq1878 hw hS => ?_)
      obtain ⟨ok1876, F1877, ⟨zi1880, eq1881, bd1882⟩, xq1883⟩ := hq1878
      have hw : PW G cy K ln Ls A hp1875 H := hw
      refine lv_aload_n hx hb dX1_find_83 rfl (lv_at hl 0 rfl) ?_
      obtain ⟨qa1885, eq1884, kd1886⟩ := rd_2001 ok1876 kd900
      refine p_get (ci := 1) (v := .ref qa1885) (C := RX1) (T := TX1) (N := 8) hx hb hT iw_X1 hown hK hw hW kd900 (by decide) rfl rfl 1 (by decide) eq1884 (hT _ tb_629) (fun _ h9 => h9) dX1_find_84 ?_
      refine lv_aload_n hx hb dX1_find_87 rfl (lv_at hl 1 rfl) ?_
      refine kq_v hw hS hA (va_runV (As := [.ref qa901]) (rest := []) ⟨hx, hb, hml, hown, hT⟩ (cX7_begin_0 l G cy ev K ln Ls hW _ hp1875 ok1876 qa1885 qa901 kd1886 kd901) (cwV 1 hT (good_V tb_474 tb_1318 tb_472 tb_473 tb_115) rfl rfl rfl (by decide +kernel) ⟨Nat.le_of_ble_eq_true rfl, Nat.le_of_ble_eq_true rfl⟩) (pool_preV (ci := 7) hK hE hS hA hw hW kd1886 (by decide) rfl) rfl rfl hl.1 rfl (lv_room (Nat.le_of_ble_eq_true rfl)) dX1_find_88 ⟨(show (gn - g0) + 0 ≤ 327680 from by omega), (show (14 * (gn - g0)) + 0 ≤ 4580352 from by omega)⟩) (fun hp1887 H locs hq1890 hw hS => ?_)
      obtain ⟨ok1888, F1889⟩ := hq1890
      have hw : PW G cy K ln Ls A hp1887 H := hw
      refine lv_aload_n hx hb dX1_find_91 rfl (lv_at hl 0 rfl) ?_
      have eq1892 : hp1887 qa900 0 = .ref qa1872 := Eq.trans (Fr.at (cq := 2000) F1889 kd900 (cd_o (by decide)) (by decide)) (Eq.trans (Fr.at (cq := 2000) F1877 kd900 (cd_o (by decide)) (by decide)) eq1871)
      refine p_get (ci := 1) (v := .ref qa1872) (C := RX1) (T := TX1) (N := 8) hx hb hT iw_X1 hown hK hw hW kd900 (by decide) rfl rfl 0 (by decide) eq1892 (hT _ tb_628) (fun _ h9 => h9) dX1_find_92 ?_
      refine lv_aload_n hx hb dX1_find_95 rfl (lv_at hl 0 rfl) ?_
      have eq1893 : hp1887 qa900 1 = .ref qa1885 := Eq.trans (Fr.at (cq := 2001) F1889 kd900 (cd_o (by decide)) (by decide)) eq1884
      refine p_get (ci := 1) (v := .ref qa1885) (C := RX1) (T := TX1) (N := 8) hx hb hT iw_X1 hown hK hw hW kd900 (by decide) rfl rfl 1 (by decide) eq1893 (hT _ tb_629) (fun _ h9 => h9) dX1_find_96 ?_
      refine lv_iconst (v := 0) hx hb dX1_find_99 (by decide) ?_
      refine lv_lconst (v := 1) hx hb dX1_find_100 (by decide) ?_
      refine lv_iconst (v := 0) hx hb dX1_find_101 (by decide) ?_
      have pd1894 : NSx K ln hp1887 gn := NSx_fr ok1876  (show Fr [8000, 8001, 8002, 8003, 8004, 8005, 40000, 41000, 42000] K hp1875 hp1887 from (Fr.tr (Fr.rf) F1889 (by decide))) (by decide) xq1883
      have gf1902 : FrX wsC K0 hp0 hp1887 := (FrX.tr gfx gex (FrX.of (show Fr [4006, 8000, 8001, 8002, 8003, 8004, 8005, 22000, 23000, 24000, 25000, 33000, 40000, 41000, 42000] K hp0 hp1887 from (Fr.tr (Fr.tr (Fr.put (cq := 25000) (Fr.put (cq := 24000) (Fr.put (cq := 23000) (Fr.put (cq := 22000) (Fr.rf) eh10 kd3 (cd_a (by decide)) (by decide)) eh1857 kd14 (cd_a (by decide)) (by decide)) eh1863 kd1861 (cd_a (by decide)) (by decide)) eh1869 kd1867 (cd_a (by decide)) (by decide)) F1877 (by decide)) F1889 (by decide)))) (by decide))
      refine kg_v hw hS hA (va_runV (As := [.ref qa1885, .int 0, .long 1, .int 0]) (rest := []) ⟨hx, hb, hml, hown, hT⟩ (Met.szx (cX3_add_vG_0 l G cy ev K ln Ls hW _ hp1887 ok1888 qa1872 qa1885 0 1 0 gn kd1873 kd1886 pd1894)) (cwV 4 hT (good_V tb_1142 tb_1319 tb_1140 tb_1141 tb_117) rfl rfl rfl (by decide +kernel) ⟨Nat.le_of_ble_eq_true rfl, Nat.le_of_ble_eq_true rfl⟩) (pool_preV (ci := 3) hK hE hS hA hw hW kd1873 (by decide) rfl) rfl rfl hl.1 rfl (lv_room (Nat.le_of_ble_eq_true rfl)) dX1_find_102 ⟨(show (gn - g0) + 65536 ≤ 327680 from by omega), (show (14 * (gn - g0)) + 917504 ≤ 4580352 from by omega)⟩) (fun u gn H locs hq1895 hw hS => ?_)
      obtain ⟨K, ln, Ls, hp1896⟩ := u
      obtain ⟨ex1898, hW, ok1897, fx1899, pd1900, hle1901⟩ := hq1895
      have hw : PW G cy K ln Ls A hp1896 H := hw
      have gfx : FrX wsC K0 hp0 hp1896 := FrX.tr gf1902 gex fx1899 (by decide)
      have gex := EXx.tr gex ex1898
      have kd1905 := EXx.kd ex1898 kd900 (by decide)
      have kd1906 := EXx.kd ex1898 kd901 (by decide)
      have hgn := NSx.bd pd1900
      refine W.widen (k := gn - g0) (n := 14 * (gn - g0)) (by omega) (by omega) ?_
      have hga : g0 ≤ gn := by omega
      refine lv_iconst (v := 0) hx hb dX1_find_105 (by decide) ?_
      refine lv_istore_n (lv' := [(3, .int 0), (0, .ref qa900), (1, .ref qa901), (2, .int zi902)]) hx hb dX1_find_106 rfl hl (by decide) rfl (fun ls hl => ?_)
      refine lv_iconst (v := 1) hx hb dX1_find_107 (by decide) ?_
      refine lv_istore (lv' := [(4, .int 1), (3, .int 0), (0, .ref qa900), (1, .ref qa901), (2, .int zi902)]) hx hb dX1_find_108 hl (by decide) rfl (fun ls hl => ?_)
      refine lv_iload hx hb dX1_find_110 (lv_at hl 0 rfl) ?_
      refine lv_iload_n hx hb dX1_find_112 rfl (lv_at hl 4 rfl) ?_
      refine lv_icmp_gt (tgt := 162) hx hb dX1_find_113 (by decide) (fun _ => ?_) (fun c => absurd (d_lt bd1855 bc_1 (by decide)) c)
      refine lv_aload_n hx hb dX1_find_162 rfl (lv_at hl 2 rfl) ?_
      obtain ⟨qa1923, eq1922, kd1924⟩ := rd_2005 ok1897 kd1905
      refine p_get (ci := 1) (v := .ref qa1923) (C := RX1) (T := TX1) (N := 8) hx hb hT iw_X1 hown hK hw hW kd1905 (by decide) rfl rfl 5 (by decide) eq1922 (hT _ tb_634) (fun _ h9 => h9) dX1_find_163 ?_
      refine lv_iload_n hx hb dX1_find_166 rfl (lv_at hl 4 rfl) ?_
      obtain ⟨wl1926, eq1925⟩ := rd_23000 ok1897 kd1924 ((zi902 : Int32).toNatClampNeg)
      refine p_lald (v := wl1926) hx hb hK hw hW kd1924 (by decide) rfl (hW.len kd1924 (n := 6) rfl (by decide)) (vp_b bd1855 (by decide) (by decide)) eq1925 dX1_find_167 ?_
      refine lv_lconst (v := 0) hx hb dX1_find_168 (by decide) ?_
      refine W.lcmp hx hb dX1_find_169 (lv_topi (fun zi1927 ea1928 => ?_))
      refine lv_if_ne (tgt := 187) hx hb dX1_find_170 (by decide) (fun cn1929 => ?_) (fun cn1929 => ?_)
      · skip
        have tf1930 : (zi1927 : Int32).toInt ≠ (0 : Int32).toInt := fun e => cn1929 (Int32.toInt_inj.mp e)
        have := toi bc_0
        rw [hQ]
        exact kgz_v (n := g0) hx hb hr hlocks hS (((K, ln, Ls, hp1896), gn) : GU × Nat) hw ⟨gex, hW, ok1897, gfx, pd1900, (by omega)⟩ (show (gn - g0) ≤ gn - g0 from by omega) (show (14 * (gn - g0)) ≤ 14 * (gn - g0) from by omega) (show (gn - g0) ≤ 327680 from by omega) (show (14 * (gn - g0)) ≤ 4580352 from by omega) dX1_find_187
      · skip
        have bd1931 : (0 : Int) ≤ zi1927.toInt ∧ zi1927.toInt ≤ 0 := r_eq_x cn1929 (b_all zi1927) bc_0 (by decide) (by decide)
        refine lv_aload_n hx hb dX1_find_173 rfl (lv_at hl 2 rfl) ?_
        obtain ⟨qa1933, eq1932, kd1934⟩ := rd_2006 ok1897 kd1905
        refine p_get (ci := 1) (v := .ref qa1933) (C := RX1) (T := TX1) (N := 8) hx hb hT iw_X1 hown hK hw hW kd1905 (by decide) rfl rfl 6 (by decide) eq1932 (hT _ tb_636) (fun _ h9 => h9) dX1_find_174 ?_
        refine lv_iload_n hx hb dX1_find_177 rfl (lv_at hl 4 rfl) ?_
        refine lv_iconst (v := 0) hx hb dX1_find_178 (by decide) ?_
        refine p_iast (x := 0) hx hb hK hw hS hW kd1934 (by decide) rfl (hW.len kd1934 (n := 6) rfl (by decide)) (vp_b bd1855 (by decide) (by decide)) dX1_find_179 (fun hp1935 eh1936 H locs hw hS => ?_)
        have ok1937 := wr_24000 ok1897 kd1934 eh1936
        refine lv_aload_n hx hb dX1_find_180 rfl (lv_at hl 2 rfl) ?_
        obtain ⟨qa1939, eq1938, kd1940⟩ := rd_2007 ok1937 kd1905
        refine p_get (ci := 1) (v := .ref qa1939) (C := RX1) (T := TX1) (N := 8) hx hb hT iw_X1 hown hK hw hW kd1905 (by decide) rfl rfl 7 (by decide) eq1938 (hT _ tb_638) (fun _ h9 => h9) dX1_find_181 ?_
        refine lv_iload_n hx hb dX1_find_184 rfl (lv_at hl 4 rfl) ?_
        refine lv_iconst (v := 0) hx hb dX1_find_185 (by decide) ?_
        refine p_iast (x := 0) hx hb hK hw hS hW kd1940 (by decide) rfl (hW.len kd1940 (n := 6) rfl (by decide)) (vp_b bd1855 (by decide) (by decide)) dX1_find_186 (fun hp1941 eh1942 H locs hw hS => ?_)
        have ok1943 := wr_25000 ok1937 kd1940 eh1942
        rw [hQ]
        have pd1944 : NSx K ln hp1941 gn := NSx_fr ok1897  (show Fr [24000, 25000] K hp1896 hp1941 from (Fr.put (cq := 25000) (Fr.put (cq := 24000) (Fr.rf) eh1936 kd1934 (cd_a (by decide)) (by decide)) eh1942 kd1940 (cd_a (by decide)) (by decide))) (by decide) pd1900
        exact kgz_v (n := g0) hx hb hr hlocks hS (((K, ln, Ls, hp1941), gn) : GU × Nat) hw ⟨gex, hW, ok1943, (FrX.tr gfx gex (FrX.of (show Fr [24000, 25000] K hp1896 hp1941 from (Fr.put (cq := 25000) (Fr.put (cq := 24000) (Fr.rf) eh1936 kd1934 (cd_a (by decide)) (by decide)) eh1942 kd1940 (cd_a (by decide)) (by decide)))) (by decide)), pd1944, (by omega)⟩ (show (gn - g0) ≤ gn - g0 from by omega) (show (14 * (gn - g0)) ≤ 14 * (gn - g0) from by omega) (show (gn - g0) ≤ 327680 from by omega) (show (14 * (gn - g0)) ≤ 4580352 from by omega) dX1_find_187
  · skip
    have tf1945 : (zi5 : Int32).toInt ≠ (0 : Int32).toInt := fun e => cn7 (Int32.toInt_inj.mp e)
    have := toi bc_0
    have bd1946 : (1 : Int) ≤ zi5.toInt ∧ zi5.toInt ≤ 1 := r_ne_lo cn7 bd6 (toi bc_0) (by decide) (by decide)
    rw [hQ]
    exact kgz_v (n := g0) hx hb hr hlocks hS (((K, ln, Ls, hp0), gn) : GU × Nat) hw ⟨gex, hW, ok1, gfx, pdNS, (by omega)⟩ (show (gn - g0) ≤ gn - g0 from by omega) (show (14 * (gn - g0)) ≤ 14 * (gn - g0) from by omega) (show (gn - g0) ≤ 327680 from by omega) (show (14 * (gn - g0)) ≤ 4580352 from by omega) dX1_find_9

set_option maxRecDepth 100000 in
set_option maxHeartbeats 4000000 in
theorem cX11_ahead_0 (l : Launch) (G : va_G) (cy : Nat → ClassId) (ev : Ew) (K0 ln0 : Nat → Nat) (Ls0 : List Nat) (hW0 : SW K0 ln0 Ls0) (sz : Nat) (hp0 : Nat → Nat → Value) (ok0 : Ok K0 hp0) (qa900 : Nat) (zi901 : Int32) (zi902 : Int32) (zi903 : Int32) (g0 : Nat) (kd900 : K0 qa900 = 12) (pdNS : NSx K0 ln0 hp0 g0) : Met l yX11_ahead (WS yX11_ahead cX11_ahead 4 (some .int)) { frames := 7, cells := 327680, slots := 4580352, locals := 178 } (PB2 [.ref qa900, .int zi901, .int zi902, .int zi903] sz G cy ev (va_pl Ls0 (cellOf cy K0 ln0 hp0))) (QGi (fun (r : Int32) (u : GU × Nat) => GPx wsC K0 ln0 hp0 g0 u.1 u.2) G cy g0 (va_A (va_pl Ls0 (cellOf cy K0 ln0 hp0)) sz)) 327680 4580352 (va_A (va_pl Ls0 (cellOf cy K0 ln0 hp0)) sz) := by
  refine met_of2 (y := yX11_ahead) (L := 4) (av := [.ref qa900, .int zi901, .int zi902, .int zi903]) (Qc := fun A => QGi (fun (r : Int32) (u : GU × Nat) => GPx wsC K0 ln0 hp0 g0 u.1 u.2) G cy g0 A) (plainFor_of_name (by decide)) (Nat.le_of_ble_eq_true rfl) ?_
  intro p e s m below meth c hsz hx hb hr hml hown hT hlocks hin hK A hA hE hw hS ls hl
  have hw : PW G cy K0 ln0 Ls0 A hp0 s.heap := hw
  have hown : s.vm.findClass "LieClock" = some m.cls := hown
  have hl : lv_has ls 4 [(0, .ref qa900), (1, .int zi901), (2, .int zi902), (3, .int zi903)] := hl
  obtain ⟨Q, hQ⟩ : ∃ Q : State → Prop, Q = MQ below (QGi (fun (r : Int32) (u : GU × Nat) => GPx wsC K0 ln0 hp0 g0 u.1 u.2) G cy g0 A) ([.ref qa900, .int zi901, .int zi902, .int zi903] : List Value).toArray s 327680 4580352 A := ⟨_, rfl⟩
  rw [← hQ]
  obtain ⟨K, ln, Ls, gn, hW, gex, gfx, ok1, hKe, hga, hge, kd900, pdNS, hw⟩ : ∃ (K ln : Nat → Nat) (Ls : List Nat) (gn : Nat), SW K ln Ls ∧ EXx K0 ln0 K ln ∧ FrX wsC K0 hp0 hp0 ∧ Ok K hp0 ∧ K = K0 ∧ g0 ≤ gn ∧ gn = g0 ∧ (K qa900 = 12) ∧ (NSx K ln hp0 gn) ∧ PW G cy K ln Ls A hp0 s.heap := ⟨K0, ln0, Ls0, g0, hW0, EXx.rf, FrX.rf, ok0, rfl, Nat.le_refl _, rfl, kd900, pdNS, hw⟩
  have hg0 : 256 ≤ g0 ∧ g0 ≤ 131072 := by have := NSx.bd pdNS; omega
  refine W.widen (k := gn - g0) (n := 14 * (gn - g0)) (Nat.zero_le _) (Nat.zero_le _) ?_
  have hgn := NSx.bd pdNS
  refine lv_aload_n hx hb dX11_ahead_0 rfl (lv_at hl 0 rfl) ?_
  refine lv_iload_n hx hb dX11_ahead_1 rfl (lv_at hl 1 rfl) ?_
  refine lv_iload_n hx hb dX11_ahead_2 rfl (lv_at hl 2 rfl) ?_
  refine kq_i hw hS hA (va_runV (As := [.int zi901, .int zi902]) (rest := []) ⟨hx, hb, hml, hown, hT⟩ (cX11_areTwoCases_0 l G cy ev K ln Ls hW _ hp0 ok1 qa900 zi901 zi902 kd900) (cwV 2 hT (good_V tb_1128 tb_1125 tb_1127 tb_32 tb_105) rfl rfl rfl (by decide +kernel) ⟨Nat.le_of_ble_eq_true rfl, Nat.le_of_ble_eq_true rfl⟩) (pool_preV (ci := 11) hK hE hS hA hw hW kd900 (by decide) rfl) rfl rfl hl.1 rfl (lv_room (Nat.le_of_ble_eq_true rfl)) dX11_ahead_3 ⟨(show (gn - g0) + 0 ≤ 327680 from by omega), (show (14 * (gn - g0)) + 0 ≤ 4580352 from by omega)⟩) (fun zi5 hp1 H locs hq4 hw hS => ?_)
  obtain ⟨ok2, F3, bd6, hc7, hc8⟩ := hq4
  obtain rfl : hp0 = hp1 := (Fr.nil F3).symm
  have hw : PW G cy K ln Ls A hp0 H := hw
  rcases b01 bd6 with cn9 | cn9
  · skip
    subst cn9
    refine lv_if_eq (tgt := 18) hx hb dX11_ahead_6 (by decide) (fun _ => ?_) (fun c => absurd (d_eq bc_0 bc_0) c)
    refine lv_iconst (v := (-1)) hx hb dX11_ahead_18 (by decide) ?_
    rw [hQ]
    exact kgz_i (n := g0) hx hb hr hlocks hS rfl (((K, ln, Ls, hp0), gn) : GU × Nat) hw ⟨gex, hW, ok1, gfx, pdNS, (by omega)⟩ (show (gn - g0) ≤ gn - g0 from by omega) (show (14 * (gn - g0)) ≤ 14 * (gn - g0) from by omega) (show (gn - g0) ≤ 327680 from by omega) (show (14 * (gn - g0)) ≤ 4580352 from by omega) dX11_ahead_19
  · skip
    subst cn9
    have bd10 : (0 : Int) ≤ zi901.toInt ∧ zi901.toInt ≤ 7 := b_meet (b_all zi901) (hc7 rfl) (by decide) (by decide)
    have bd11 : (0 : Int) ≤ zi902.toInt ∧ zi902.toInt ≤ 7 := b_meet (b_all zi902) (hc8 rfl) (by decide) (by decide)
    refine lv_if_eq (tgt := 18) hx hb dX11_ahead_6 (by decide) (fun c => absurd c (d_ne bc_1 bc_0 (by decide))) (fun _ => ?_)
    refine lv_iload_n hx hb dX11_ahead_9 rfl (lv_at hl 3 rfl) ?_
    refine lv_if_lt (tgt := 18) hx hb dX11_ahead_10 (by decide) (fun cn12 => ?_) (fun cn12 => ?_)
    · skip
      have bd13 : (-2147483648 : Int) ≤ zi903.toInt ∧ zi903.toInt ≤ -1 := r_lt_x cn12 (b_all zi903) bc_0 (by decide) (by decide)
      refine lv_iconst (v := (-1)) hx hb dX11_ahead_18 (by decide) ?_
      rw [hQ]
      exact kgz_i (n := g0) hx hb hr hlocks hS rfl (((K, ln, Ls, hp0), gn) : GU × Nat) hw ⟨gex, hW, ok1, gfx, pdNS, (by omega)⟩ (show (gn - g0) ≤ gn - g0 from by omega) (show (14 * (gn - g0)) ≤ 14 * (gn - g0) from by omega) (show (gn - g0) ≤ 327680 from by omega) (show (14 * (gn - g0)) ≤ 4580352 from by omega) dX11_ahead_19
    · skip
      have bd14 : (0 : Int) ≤ zi903.toInt ∧ zi903.toInt ≤ 2147483647 := r_le_y (Int32.not_lt.mp cn12) bc_0 (b_all zi903) (by decide) (by decide)
      refine lv_iload_n hx hb dX11_ahead_13 rfl (lv_at hl 3 rfl) ?_
      refine lv_iconst (v := 1) hx hb dX11_ahead_14 (by decide) ?_
      refine lv_icmp_le (tgt := 20) hx hb dX11_ahead_15 (by decide) (fun cn15 => ?_) (fun cn15 => ?_)
      · skip
        have bd16 : (0 : Int) ≤ zi903.toInt ∧ zi903.toInt ≤ 1 := r_le_x cn15 bd14 bc_1 (by decide) (by decide)
        refine lv_aload_n hx hb dX11_ahead_20 rfl (lv_at hl 0 rfl) ?_
        obtain ⟨qa18, eq17, kd19⟩ := rd_12015 ok1 kd900
        refine p_get (ci := 11) (v := .ref qa18) (C := RX11) (T := TX11) (N := 17) hx hb hT iw_X11 hown hK hw hW kd900 (by decide) rfl rfl 15 (by decide) eq17 (hT _ tb_672) (fun _ h9 => h9) dX11_ahead_21 ?_
        refine lv_aload_n hx hb dX11_ahead_24 rfl (lv_at hl 0 rfl) ?_
        obtain ⟨qa21, eq20, kd22⟩ := rd_12003 ok1 kd900
        refine p_get (ci := 11) (v := .ref qa21) (C := RX11) (T := TX11) (N := 17) hx hb hT iw_X11 hown hK hw hW kd900 (by decide) rfl rfl 3 (by decide) eq20 (hT _ tb_660) (fun _ h9 => h9) dX11_ahead_25 ?_
        refine lv_aload_n hx hb dX11_ahead_28 rfl (lv_at hl 0 rfl) ?_
        obtain ⟨qa24, eq23, kd25⟩ := rd_12005 ok1 kd900
        refine p_get (ci := 11) (v := .ref qa24) (C := RX11) (T := TX11) (N := 17) hx hb hT iw_X11 hown hK hw hW kd900 (by decide) rfl rfl 5 (by decide) eq23 (hT _ tb_662) (fun _ h9 => h9) dX11_ahead_29 ?_
        refine lv_iload_n hx hb dX11_ahead_32 rfl (lv_at hl 1 rfl) ?_
        refine lv_iload_n hx hb dX11_ahead_33 rfl (lv_at hl 2 rfl) ?_
        have gf33 : FrX wsC K0 hp0 hp0 := gfx
        refine kg_v hw hS hA (va_runV (As := [.ref qa21, .ref qa24, .int zi901, .int zi902]) (rest := []) ⟨hx, hb, hml, hown, hT⟩ (Met.szx (cX0_find_0 l G cy ev K ln Ls hW _ hp0 ok1 qa18 qa21 qa24 zi901 zi902 gn kd19 kd22 kd25 (b_wid2 bd10 (by decide) (by decide)) (b_wid2 bd11 (by decide) (by decide)) pdNS)) (cwV 4 hT (good_V tb_1132 tb_1129 tb_1130 tb_1131 tb_120) rfl rfl rfl (by decide +kernel) ⟨Nat.le_of_ble_eq_true rfl, Nat.le_of_ble_eq_true rfl⟩) (pool_preV (ci := 0) hK hE hS hA hw hW kd19 (by decide) rfl) rfl rfl hl.1 rfl (lv_room (Nat.le_of_ble_eq_true rfl)) dX11_ahead_34 ⟨(show (gn - g0) + 327680 ≤ 327680 from by omega), (show (14 * (gn - g0)) + 4580352 ≤ 4580352 from by omega)⟩) (fun u gn H locs hq26 hw hS => ?_)
        obtain ⟨K, ln, Ls, hp27⟩ := u
        obtain ⟨ex29, hW, ok28, fx30, pd31, hle32⟩ := hq26
        have hw : PW G cy K ln Ls A hp27 H := hw
        have gfx : FrX wsC K0 hp0 hp27 := FrX.tr gf33 gex fx30 (by decide)
        have gex := EXx.tr gex ex29
        have kd36 := EXx.kd ex29 kd900 (by decide)
        have hgn := NSx.bd pd31
        refine W.widen (k := gn - g0) (n := 14 * (gn - g0)) (by omega) (by omega) ?_
        have hga : g0 ≤ gn := by omega
        refine lv_aload_n hx hb dX11_ahead_37 rfl (lv_at hl 0 rfl) ?_
        obtain ⟨qa38, eq37, kd39⟩ := rd_12015 ok28 kd36
        refine p_get (ci := 11) (v := .ref qa38) (C := RX11) (T := TX11) (N := 17) hx hb hT iw_X11 hown hK hw hW kd36 (by decide) rfl rfl 15 (by decide) eq37 (hT _ tb_672) (fun _ h9 => h9) dX11_ahead_38 ?_
        obtain ⟨zi41, eq40, bd42⟩ := rd_1003 ok28 kd39
        refine p_getN (ci := 0) (v := .int zi41) (C := RX0) (T := TX0) (N := 8) hx hb hT iw_X0 hown hK hw hW kd39 (by decide) rfl rfl 3 (by decide) eq40 (hK.fl nw_492) (fun _ h9 => h9) dX11_ahead_41 ?_
        refine lv_if_ne (tgt := 50) hx hb dX11_ahead_44 (by decide) (fun cn43 => ?_) (fun cn43 => ?_)
        · skip
          have tf44 : (zi41 : Int32).toInt ≠ (0 : Int32).toInt := fun e => cn43 (Int32.toInt_inj.mp e)
          have := toi bc_0
          have bd45 : (1 : Int) ≤ zi41.toInt ∧ zi41.toInt ≤ 4 := r_ne_lo cn43 bd42 (toi bc_0) (by decide) (by decide)
          refine lv_iload_n hx hb dX11_ahead_50 rfl (lv_at hl 3 rfl) ?_
          refine lv_if_ne (tgt := 64) hx hb dX11_ahead_51 (by decide) (fun cn46 => ?_) (fun cn46 => ?_)
          · skip
            have tf47 : (zi903 : Int32).toInt ≠ (0 : Int32).toInt := fun e => cn46 (Int32.toInt_inj.mp e)
            have := toi bc_0
            have bd48 : (1 : Int) ≤ zi903.toInt ∧ zi903.toInt ≤ 1 := r_ne_lo cn46 bd16 (toi bc_0) (by decide) (by decide)
            refine lv_aload_n hx hb dX11_ahead_64 rfl (lv_at hl 0 rfl) ?_
            refine p_get (ci := 11) (v := .ref qa38) (C := RX11) (T := TX11) (N := 17) hx hb hT iw_X11 hown hK hw hW kd36 (by decide) rfl rfl 15 (by decide) eq37 (hT _ tb_672) (fun _ h9 => h9) dX11_ahead_65 ?_
            obtain ⟨zi50, eq49⟩ := rd_1004 ok28 kd39
            refine p_getN (ci := 0) (v := .int zi50) (C := RX0) (T := TX0) (N := 8) hx hb hT iw_X0 hown hK hw hW kd39 (by decide) rfl rfl 4 (by decide) eq49 (hK.fl nw_494) (fun _ h9 => h9) dX11_ahead_68 ?_
            rw [hQ]
            exact kgz_i (n := g0) hx hb hr hlocks hS rfl (((K, ln, Ls, hp27), gn) : GU × Nat) hw ⟨gex, hW, ok28, gfx, pd31, (by omega)⟩ (show (gn - g0) ≤ gn - g0 from by omega) (show (14 * (gn - g0)) ≤ 14 * (gn - g0) from by omega) (show (gn - g0) ≤ 327680 from by omega) (show (14 * (gn - g0)) ≤ 4580352 from by omega) dX11_ahead_71
          · skip
            have bd51 : (0 : Int) ≤ zi903.toInt ∧ zi903.toInt ≤ 0 := r_eq_x cn46 bd16 bc_0 (by decide) (by decide)
            refine lv_aload_n hx hb dX11_ahead_54 rfl (lv_at hl 0 rfl) ?_
            refine p_get (ci := 11) (v := .ref qa38) (C := RX11) (T := TX11) (N := 17) hx hb hT iw_X11 hown hK hw hW kd36 (by decide) rfl rfl 15 (by decide) eq37 (hT _ tb_672) (fun _ h9 => h9) dX11_ahead_55 ?_
            refine p_getN (ci := 0) (v := .int zi41) (C := RX0) (T := TX0) (N := 8) hx hb hT iw_X0 hown hK hw hW kd39 (by decide) rfl rfl 3 (by decide) eq40 (hK.fl nw_492) (fun _ h9 => h9) dX11_ahead_58 ?_
            refine lv_goto (tgt := 71) hx hb dX11_ahead_61 (by decide) ?_
            rw [hQ]
            exact kgz_i (n := g0) hx hb hr hlocks hS rfl (((K, ln, Ls, hp27), gn) : GU × Nat) hw ⟨gex, hW, ok28, gfx, pd31, (by omega)⟩ (show (gn - g0) ≤ gn - g0 from by omega) (show (14 * (gn - g0)) ≤ 14 * (gn - g0) from by omega) (show (gn - g0) ≤ 327680 from by omega) (show (14 * (gn - g0)) ≤ 4580352 from by omega) dX11_ahead_71
        · skip
          have bd52 : (0 : Int) ≤ zi41.toInt ∧ zi41.toInt ≤ 0 := r_eq_x cn43 bd42 bc_0 (by decide) (by decide)
          refine lv_bipush (v := (-2)) hx hb dX11_ahead_47 (by decide) ?_
          rw [hQ]
          exact kgz_i (n := g0) hx hb hr hlocks hS rfl (((K, ln, Ls, hp27), gn) : GU × Nat) hw ⟨gex, hW, ok28, gfx, pd31, (by omega)⟩ (show (gn - g0) ≤ gn - g0 from by omega) (show (14 * (gn - g0)) ≤ 14 * (gn - g0) from by omega) (show (gn - g0) ≤ 327680 from by omega) (show (14 * (gn - g0)) ≤ 4580352 from by omega) dX11_ahead_49
      · skip
        have bd53 : (2 : Int) ≤ zi903.toInt ∧ zi903.toInt ≤ 2147483647 := r_lt_y (Int32.not_le.mp cn15) bc_1 bd14 (by decide) (by decide)
        refine lv_iconst (v := (-1)) hx hb dX11_ahead_18 (by decide) ?_
        rw [hQ]
        exact kgz_i (n := g0) hx hb hr hlocks hS rfl (((K, ln, Ls, hp0), gn) : GU × Nat) hw ⟨gex, hW, ok1, gfx, pdNS, (by omega)⟩ (show (gn - g0) ≤ gn - g0 from by omega) (show (14 * (gn - g0)) ≤ 14 * (gn - g0) from by omega) (show (gn - g0) ≤ 327680 from by omega) (show (14 * (gn - g0)) ≤ 4580352 from by omega) dX11_ahead_19

set_option maxRecDepth 100000 in
set_option maxHeartbeats 4000000 in
theorem cX11_aheadAt_0 (l : Launch) (G : va_G) (cy : Nat → ClassId) (ev : Ew) (K0 ln0 : Nat → Nat) (Ls0 : List Nat) (hW0 : SW K0 ln0 Ls0) (sz : Nat) (hp0 : Nat → Nat → Value) (ok0 : Ok K0 hp0) (qa900 : Nat) (zi901 : Int32) (zi902 : Int32) (zi903 : Int32) (g0 : Nat) (kd900 : K0 qa900 = 12) (pdNS : NSx K0 ln0 hp0 g0) : Met l yX11_aheadAt (WS yX11_aheadAt cX11_aheadAt 4 (some .int)) { frames := 7, cells := 327680, slots := 4580352, locals := 178 } (PB2 [.ref qa900, .int zi901, .int zi902, .int zi903] sz G cy ev (va_pl Ls0 (cellOf cy K0 ln0 hp0))) (QGi (fun (r : Int32) (u : GU × Nat) => GPx wsC K0 ln0 hp0 g0 u.1 u.2) G cy g0 (va_A (va_pl Ls0 (cellOf cy K0 ln0 hp0)) sz)) 327680 4580352 (va_A (va_pl Ls0 (cellOf cy K0 ln0 hp0)) sz) := by
  refine met_of2 (y := yX11_aheadAt) (L := 4) (av := [.ref qa900, .int zi901, .int zi902, .int zi903]) (Qc := fun A => QGi (fun (r : Int32) (u : GU × Nat) => GPx wsC K0 ln0 hp0 g0 u.1 u.2) G cy g0 A) (plainFor_of_name (by decide)) (Nat.le_of_ble_eq_true rfl) ?_
  intro p e s m below meth c hsz hx hb hr hml hown hT hlocks hin hK A hA hE hw hS ls hl
  have hw : PW G cy K0 ln0 Ls0 A hp0 s.heap := hw
  have hown : s.vm.findClass "LieClock" = some m.cls := hown
  have hl : lv_has ls 4 [(0, .ref qa900), (1, .int zi901), (2, .int zi902), (3, .int zi903)] := hl
  obtain ⟨Q, hQ⟩ : ∃ Q : State → Prop, Q = MQ below (QGi (fun (r : Int32) (u : GU × Nat) => GPx wsC K0 ln0 hp0 g0 u.1 u.2) G cy g0 A) ([.ref qa900, .int zi901, .int zi902, .int zi903] : List Value).toArray s 327680 4580352 A := ⟨_, rfl⟩
  rw [← hQ]
  obtain ⟨K, ln, Ls, gn, hW, gex, gfx, ok1, hKe, hga, hge, kd900, pdNS, hw⟩ : ∃ (K ln : Nat → Nat) (Ls : List Nat) (gn : Nat), SW K ln Ls ∧ EXx K0 ln0 K ln ∧ FrX wsC K0 hp0 hp0 ∧ Ok K hp0 ∧ K = K0 ∧ g0 ≤ gn ∧ gn = g0 ∧ (K qa900 = 12) ∧ (NSx K ln hp0 gn) ∧ PW G cy K ln Ls A hp0 s.heap := ⟨K0, ln0, Ls0, g0, hW0, EXx.rf, FrX.rf, ok0, rfl, Nat.le_refl _, rfl, kd900, pdNS, hw⟩
  have hg0 : 256 ≤ g0 ∧ g0 ≤ 131072 := by have := NSx.bd pdNS; omega
  refine W.widen (k := gn - g0) (n := 14 * (gn - g0)) (Nat.zero_le _) (Nat.zero_le _) ?_
  have hgn := NSx.bd pdNS
  refine lv_aload_n hx hb dX11_aheadAt_0 rfl (lv_at hl 0 rfl) ?_
  refine lv_iload_n hx hb dX11_aheadAt_1 rfl (lv_at hl 1 rfl) ?_
  refine lv_iload_n hx hb dX11_aheadAt_2 rfl (lv_at hl 2 rfl) ?_
  refine kq_i hw hS hA (va_runV (As := [.int zi901, .int zi902]) (rest := []) ⟨hx, hb, hml, hown, hT⟩ (cX11_areTwoCases_0 l G cy ev K ln Ls hW _ hp0 ok1 qa900 zi901 zi902 kd900) (cwV 2 hT (good_V tb_1128 tb_1125 tb_1127 tb_32 tb_105) rfl rfl rfl (by decide +kernel) ⟨Nat.le_of_ble_eq_true rfl, Nat.le_of_ble_eq_true rfl⟩) (pool_preV (ci := 11) hK hE hS hA hw hW kd900 (by decide) rfl) rfl rfl hl.1 rfl (lv_room (Nat.le_of_ble_eq_true rfl)) dX11_aheadAt_3 ⟨(show (gn - g0) + 0 ≤ 327680 from by omega), (show (14 * (gn - g0)) + 0 ≤ 4580352 from by omega)⟩) (fun zi5 hp1 H locs hq4 hw hS => ?_)
  obtain ⟨ok2, F3, bd6, hc7, hc8⟩ := hq4
  obtain rfl : hp0 = hp1 := (Fr.nil F3).symm
  have hw : PW G cy K ln Ls A hp0 H := hw
  rcases b01 bd6 with cn9 | cn9
  · skip
    subst cn9
    refine lv_if_eq (tgt := 13) hx hb dX11_aheadAt_6 (by decide) (fun _ => ?_) (fun c => absurd (d_eq bc_0 bc_0) c)
    refine lv_iconst (v := (-1)) hx hb dX11_aheadAt_13 (by decide) ?_
    rw [hQ]
    exact kgz_i (n := g0) hx hb hr hlocks hS rfl (((K, ln, Ls, hp0), gn) : GU × Nat) hw ⟨gex, hW, ok1, gfx, pdNS, (by omega)⟩ (show (gn - g0) ≤ gn - g0 from by omega) (show (14 * (gn - g0)) ≤ 14 * (gn - g0) from by omega) (show (gn - g0) ≤ 327680 from by omega) (show (14 * (gn - g0)) ≤ 4580352 from by omega) dX11_aheadAt_14
  · skip
    subst cn9
    have bd10 : (0 : Int) ≤ zi901.toInt ∧ zi901.toInt ≤ 7 := b_meet (b_all zi901) (hc7 rfl) (by decide) (by decide)
    have bd11 : (0 : Int) ≤ zi902.toInt ∧ zi902.toInt ≤ 7 := b_meet (b_all zi902) (hc8 rfl) (by decide) (by decide)
    refine lv_if_eq (tgt := 13) hx hb dX11_aheadAt_6 (by decide) (fun c => absurd c (d_ne bc_1 bc_0 (by decide))) (fun _ => ?_)
    refine lv_iload_n hx hb dX11_aheadAt_9 rfl (lv_at hl 3 rfl) ?_
    refine lv_if_ge (tgt := 15) hx hb dX11_aheadAt_10 (by decide) (fun cn12 => ?_) (fun cn12 => ?_)
    · skip
      have bd13 : (0 : Int) ≤ zi903.toInt ∧ zi903.toInt ≤ 2147483647 := r_le_y cn12 bc_0 (b_all zi903) (by decide) (by decide)
      refine lv_aload_n hx hb dX11_aheadAt_15 rfl (lv_at hl 0 rfl) ?_
      obtain ⟨qa15, eq14, kd16⟩ := rd_12015 ok1 kd900
      refine p_get (ci := 11) (v := .ref qa15) (C := RX11) (T := TX11) (N := 17) hx hb hT iw_X11 hown hK hw hW kd900 (by decide) rfl rfl 15 (by decide) eq14 (hT _ tb_672) (fun _ h9 => h9) dX11_aheadAt_16 ?_
      refine lv_aload_n hx hb dX11_aheadAt_19 rfl (lv_at hl 0 rfl) ?_
      obtain ⟨qa18, eq17, kd19⟩ := rd_12003 ok1 kd900
      refine p_get (ci := 11) (v := .ref qa18) (C := RX11) (T := TX11) (N := 17) hx hb hT iw_X11 hown hK hw hW kd900 (by decide) rfl rfl 3 (by decide) eq17 (hT _ tb_660) (fun _ h9 => h9) dX11_aheadAt_20 ?_
      refine lv_aload_n hx hb dX11_aheadAt_23 rfl (lv_at hl 0 rfl) ?_
      obtain ⟨qa21, eq20, kd22⟩ := rd_12005 ok1 kd900
      refine p_get (ci := 11) (v := .ref qa21) (C := RX11) (T := TX11) (N := 17) hx hb hT iw_X11 hown hK hw hW kd900 (by decide) rfl rfl 5 (by decide) eq20 (hT _ tb_662) (fun _ h9 => h9) dX11_aheadAt_24 ?_
      refine lv_iload_n hx hb dX11_aheadAt_27 rfl (lv_at hl 1 rfl) ?_
      refine lv_iload_n hx hb dX11_aheadAt_28 rfl (lv_at hl 2 rfl) ?_
      have gf30 : FrX wsC K0 hp0 hp0 := gfx
      refine kg_v hw hS hA (va_runV (As := [.ref qa18, .ref qa21, .int zi901, .int zi902]) (rest := []) ⟨hx, hb, hml, hown, hT⟩ (Met.szx (cX0_find_0 l G cy ev K ln Ls hW _ hp0 ok1 qa15 qa18 qa21 zi901 zi902 gn kd16 kd19 kd22 (b_wid2 bd10 (by decide) (by decide)) (b_wid2 bd11 (by decide) (by decide)) pdNS)) (cwV 4 hT (good_V tb_1132 tb_1129 tb_1130 tb_1131 tb_120) rfl rfl rfl (by decide +kernel) ⟨Nat.le_of_ble_eq_true rfl, Nat.le_of_ble_eq_true rfl⟩) (pool_preV (ci := 0) hK hE hS hA hw hW kd16 (by decide) rfl) rfl rfl hl.1 rfl (lv_room (Nat.le_of_ble_eq_true rfl)) dX11_aheadAt_29 ⟨(show (gn - g0) + 327680 ≤ 327680 from by omega), (show (14 * (gn - g0)) + 4580352 ≤ 4580352 from by omega)⟩) (fun u gn H locs hq23 hw hS => ?_)
      obtain ⟨K, ln, Ls, hp24⟩ := u
      obtain ⟨ex26, hW, ok25, fx27, pd28, hle29⟩ := hq23
      have hw : PW G cy K ln Ls A hp24 H := hw
      have gfx : FrX wsC K0 hp0 hp24 := FrX.tr gf30 gex fx27 (by decide)
      have gex := EXx.tr gex ex26
      have kd33 := EXx.kd ex26 kd900 (by decide)
      have hgn := NSx.bd pd28
      refine W.widen (k := gn - g0) (n := 14 * (gn - g0)) (by omega) (by omega) ?_
      have hga : g0 ≤ gn := by omega
      refine lv_aload_n hx hb dX11_aheadAt_32 rfl (lv_at hl 0 rfl) ?_
      obtain ⟨qa35, eq34, kd36⟩ := rd_12015 ok25 kd33
      refine p_get (ci := 11) (v := .ref qa35) (C := RX11) (T := TX11) (N := 17) hx hb hT iw_X11 hown hK hw hW kd33 (by decide) rfl rfl 15 (by decide) eq34 (hT _ tb_672) (fun _ h9 => h9) dX11_aheadAt_33 ?_
      obtain ⟨zi38, eq37, bd39⟩ := rd_1003 ok25 kd36
      refine p_getN (ci := 0) (v := .int zi38) (C := RX0) (T := TX0) (N := 8) hx hb hT iw_X0 hown hK hw hW kd36 (by decide) rfl rfl 3 (by decide) eq37 (hK.fl nw_492) (fun _ h9 => h9) dX11_aheadAt_36 ?_
      refine lv_if_ne (tgt := 45) hx hb dX11_aheadAt_39 (by decide) (fun cn40 => ?_) (fun cn40 => ?_)
      · skip
        have tf41 : (zi38 : Int32).toInt ≠ (0 : Int32).toInt := fun e => cn40 (Int32.toInt_inj.mp e)
        have := toi bc_0
        have bd42 : (1 : Int) ≤ zi38.toInt ∧ zi38.toInt ≤ 4 := r_ne_lo cn40 bd39 (toi bc_0) (by decide) (by decide)
        refine lv_iload_n hx hb dX11_aheadAt_45 rfl (lv_at hl 3 rfl) ?_
        refine lv_aload_n hx hb dX11_aheadAt_46 rfl (lv_at hl 0 rfl) ?_
        refine p_get (ci := 11) (v := .ref qa35) (C := RX11) (T := TX11) (N := 17) hx hb hT iw_X11 hown hK hw hW kd33 (by decide) rfl rfl 15 (by decide) eq34 (hT _ tb_672) (fun _ h9 => h9) dX11_aheadAt_47 ?_
        refine p_getN (ci := 0) (v := .int zi38) (C := RX0) (T := TX0) (N := 8) hx hb hT iw_X0 hown hK hw hW kd36 (by decide) rfl rfl 3 (by decide) eq37 (hK.fl nw_492) (fun _ h9 => h9) dX11_aheadAt_50 ?_
        refine lv_icmp_ge (tgt := 68) hx hb dX11_aheadAt_53 (by decide) (fun cn43 => ?_) (fun cn43 => ?_)
        · skip
          have tf44 : zi38.toInt ≤ zi903.toInt := (fa_le _ _).mp cn43
          have bd45 : (1 : Int) ≤ zi903.toInt ∧ zi903.toInt ≤ 2147483647 := r_le_y cn43 bd42 bd13 (by decide) (by decide)
          refine lv_iconst (v := (-1)) hx hb dX11_aheadAt_68 (by decide) ?_
          rw [hQ]
          exact kgz_i (n := g0) hx hb hr hlocks hS rfl (((K, ln, Ls, hp24), gn) : GU × Nat) hw ⟨gex, hW, ok25, gfx, pd28, (by omega)⟩ (show (gn - g0) ≤ gn - g0 from by omega) (show (14 * (gn - g0)) ≤ 14 * (gn - g0) from by omega) (show (gn - g0) ≤ 327680 from by omega) (show (14 * (gn - g0)) ≤ 4580352 from by omega) dX11_aheadAt_69
        · skip
          have tf46 : zi903.toInt < zi38.toInt := (fa_lt _ _).mp (Int32.not_le.mp cn43)
          have bd47 : (0 : Int) ≤ zi903.toInt ∧ zi903.toInt ≤ 3 := r_lt_x (Int32.not_le.mp cn43) bd13 bd42 (by decide) (by decide)
          refine lv_aload_n hx hb dX11_aheadAt_56 rfl (lv_at hl 0 rfl) ?_
          refine p_get (ci := 11) (v := .ref qa35) (C := RX11) (T := TX11) (N := 17) hx hb hT iw_X11 hown hK hw hW kd33 (by decide) rfl rfl 15 (by decide) eq34 (hT _ tb_672) (fun _ h9 => h9) dX11_aheadAt_57 ?_
          obtain ⟨qa49, eq48, kd50⟩ := rd_1002 ok25 kd36
          refine p_getN (ci := 0) (v := .ref qa49) (C := RX0) (T := TX0) (N := 8) hx hb hT iw_X0 hown hK hw hW kd36 (by decide) rfl rfl 2 (by decide) eq48 (hK.fl nw_490) (fun _ h9 => h9) dX11_aheadAt_60 ?_
          refine lv_iload_n hx hb dX11_aheadAt_63 rfl (lv_at hl 3 rfl) ?_
          obtain ⟨zi52, eq51⟩ := rd_20000 ok25 kd50 ((zi903 : Int32).toNatClampNeg)
          refine p_iald (v := zi52) hx hb hK hw hW kd50 (by decide) rfl (hW.len kd50 (n := 4) rfl (by decide)) (vp_b bd47 (by decide) (by decide)) eq51 dX11_aheadAt_64 ?_
          refine lv_goto (tgt := 69) hx hb dX11_aheadAt_65 (by decide) ?_
          rw [hQ]
          exact kgz_i (n := g0) hx hb hr hlocks hS rfl (((K, ln, Ls, hp24), gn) : GU × Nat) hw ⟨gex, hW, ok25, gfx, pd28, (by omega)⟩ (show (gn - g0) ≤ gn - g0 from by omega) (show (14 * (gn - g0)) ≤ 14 * (gn - g0) from by omega) (show (gn - g0) ≤ 327680 from by omega) (show (14 * (gn - g0)) ≤ 4580352 from by omega) dX11_aheadAt_69
      · skip
        have bd53 : (0 : Int) ≤ zi38.toInt ∧ zi38.toInt ≤ 0 := r_eq_x cn40 bd39 bc_0 (by decide) (by decide)
        refine lv_bipush (v := (-2)) hx hb dX11_aheadAt_42 (by decide) ?_
        rw [hQ]
        exact kgz_i (n := g0) hx hb hr hlocks hS rfl (((K, ln, Ls, hp24), gn) : GU × Nat) hw ⟨gex, hW, ok25, gfx, pd28, (by omega)⟩ (show (gn - g0) ≤ gn - g0 from by omega) (show (14 * (gn - g0)) ≤ 14 * (gn - g0) from by omega) (show (gn - g0) ≤ 327680 from by omega) (show (14 * (gn - g0)) ≤ 4580352 from by omega) dX11_aheadAt_44
    · skip
      have bd54 : (-2147483648 : Int) ≤ zi903.toInt ∧ zi903.toInt ≤ -1 := r_lt_x (Int32.not_le.mp cn12) (b_all zi903) bc_0 (by decide) (by decide)
      refine lv_iconst (v := (-1)) hx hb dX11_aheadAt_13 (by decide) ?_
      rw [hQ]
      exact kgz_i (n := g0) hx hb hr hlocks hS rfl (((K, ln, Ls, hp0), gn) : GU × Nat) hw ⟨gex, hW, ok1, gfx, pdNS, (by omega)⟩ (show (gn - g0) ≤ gn - g0 from by omega) (show (14 * (gn - g0)) ≤ 14 * (gn - g0) from by omega) (show (gn - g0) ≤ 327680 from by omega) (show (14 * (gn - g0)) ≤ 4580352 from by omega) dX11_aheadAt_14

set_option maxRecDepth 100000 in
set_option maxHeartbeats 4000000 in
theorem cX11_fits_0 (l : Launch) (G : va_G) (cy : Nat → ClassId) (ev : Ew) (K0 ln0 : Nat → Nat) (Ls0 : List Nat) (hW0 : SW K0 ln0 Ls0) (sz : Nat) (hp0 : Nat → Nat → Value) (ok0 : Ok K0 hp0) (qa900 : Nat) (zi901 : Int32) (g0 : Nat) (kd900 : K0 qa900 = 12) (pdNS : NSx K0 ln0 hp0 g0) : Met l yX11_fits (WS yX11_fits cX11_fits 2 (some .long)) { frames := 7, cells := 327680, slots := 4580352, locals := 183 } (PB2 [.ref qa900, .int zi901] sz G cy ev (va_pl Ls0 (cellOf cy K0 ln0 hp0))) (QGl (fun (r : Int64) (u : GU × Nat) => GPx wsC K0 ln0 hp0 g0 u.1 u.2) G cy g0 (va_A (va_pl Ls0 (cellOf cy K0 ln0 hp0)) sz)) 327680 4580352 (va_A (va_pl Ls0 (cellOf cy K0 ln0 hp0)) sz) := by
  refine met_of2 (y := yX11_fits) (L := 2) (av := [.ref qa900, .int zi901]) (Qc := fun A => QGl (fun (r : Int64) (u : GU × Nat) => GPx wsC K0 ln0 hp0 g0 u.1 u.2) G cy g0 A) (plainFor_of_name (by decide)) (Nat.le_of_ble_eq_true rfl) ?_
  intro p e s m below meth c hsz hx hb hr hml hown hT hlocks hin hK A hA hE hw hS ls hl
  have hw : PW G cy K0 ln0 Ls0 A hp0 s.heap := hw
  have hown : s.vm.findClass "LieClock" = some m.cls := hown
  have hl : lv_has ls 2 [(0, .ref qa900), (1, .int zi901)] := hl
  obtain ⟨Q, hQ⟩ : ∃ Q : State → Prop, Q = MQ below (QGl (fun (r : Int64) (u : GU × Nat) => GPx wsC K0 ln0 hp0 g0 u.1 u.2) G cy g0 A) ([.ref qa900, .int zi901] : List Value).toArray s 327680 4580352 A := ⟨_, rfl⟩
  rw [← hQ]
  obtain ⟨K, ln, Ls, gn, hW, gex, gfx, ok1, hKe, hga, hge, kd900, pdNS, hw⟩ : ∃ (K ln : Nat → Nat) (Ls : List Nat) (gn : Nat), SW K ln Ls ∧ EXx K0 ln0 K ln ∧ FrX wsC K0 hp0 hp0 ∧ Ok K hp0 ∧ K = K0 ∧ g0 ≤ gn ∧ gn = g0 ∧ (K qa900 = 12) ∧ (NSx K ln hp0 gn) ∧ PW G cy K ln Ls A hp0 s.heap := ⟨K0, ln0, Ls0, g0, hW0, EXx.rf, FrX.rf, ok0, rfl, Nat.le_refl _, rfl, kd900, pdNS, hw⟩
  have hg0 : 256 ≤ g0 ∧ g0 ≤ 131072 := by have := NSx.bd pdNS; omega
  refine W.widen (k := gn - g0) (n := 14 * (gn - g0)) (Nat.zero_le _) (Nat.zero_le _) ?_
  have hgn := NSx.bd pdNS
  refine lv_iload_n hx hb dX11_fits_0 rfl (lv_at hl 1 rfl) ?_
  refine lv_if_lt (tgt := 15) hx hb dX11_fits_1 (by decide) (fun cn1 => ?_) (fun cn1 => ?_)
  · skip
    have bd2 : (-2147483648 : Int) ≤ zi901.toInt ∧ zi901.toInt ≤ -1 := r_lt_x cn1 (b_all zi901) bc_0 (by decide) (by decide)
    refine lv_ldc2 (v := (-1)) hx hb hown (hT _ tb_1264) dX11_fits_15 ?_
    rw [hQ]
    exact kgz_l (n := g0) hx hb hr hlocks hS (((K, ln, Ls, hp0), gn) : GU × Nat) hw ⟨gex, hW, ok1, gfx, pdNS, (by omega)⟩ (show (gn - g0) ≤ gn - g0 from by omega) (show (14 * (gn - g0)) ≤ 14 * (gn - g0) from by omega) (show (gn - g0) ≤ 327680 from by omega) (show (14 * (gn - g0)) ≤ 4580352 from by omega) dX11_fits_18
  · skip
    have bd3 : (0 : Int) ≤ zi901.toInt ∧ zi901.toInt ≤ 2147483647 := r_le_y (Int32.not_lt.mp cn1) bc_0 (b_all zi901) (by decide) (by decide)
    refine lv_iload_n hx hb dX11_fits_4 rfl (lv_at hl 1 rfl) ?_
    refine lv_aload_n hx hb dX11_fits_5 rfl (lv_at hl 0 rfl) ?_
    obtain ⟨qa5, eq4, kd6⟩ := rd_12016 ok1 kd900
    refine p_get (ci := 11) (v := .ref qa5) (C := RX11) (T := TX11) (N := 17) hx hb hT iw_X11 hown hK hw hW kd900 (by decide) rfl rfl 16 (by decide) eq4 (hT _ tb_673) (fun _ h9 => h9) dX11_fits_6 ?_
    obtain ⟨zi8, eq7, bd9⟩ := rd_2003 ok1 kd6
    refine p_getN (ci := 1) (v := .int zi8) (C := RX1) (T := TX1) (N := 8) hx hb hT iw_X1 hown hK hw hW kd6 (by decide) rfl rfl 3 (by decide) eq7 (hK.fl nw_528) (fun _ h9 => h9) dX11_fits_9 ?_
    refine lv_icmp_le (tgt := 19) hx hb dX11_fits_12 (by decide) (fun cn10 => ?_) (fun cn10 => ?_)
    · skip
      have tf11 : zi901.toInt ≤ zi8.toInt := (fa_le _ _).mp cn10
      have bd12 : (0 : Int) ≤ zi901.toInt ∧ zi901.toInt ≤ 5 := r_le_x cn10 bd3 bd9 (by decide) (by decide)
      refine lv_aload_n hx hb dX11_fits_19 rfl (lv_at hl 0 rfl) ?_
      refine p_get (ci := 11) (v := .ref qa5) (C := RX11) (T := TX11) (N := 17) hx hb hT iw_X11 hown hK hw hW kd900 (by decide) rfl rfl 16 (by decide) eq4 (hT _ tb_673) (fun _ h9 => h9) dX11_fits_20 ?_
      refine lv_aload_n hx hb dX11_fits_23 rfl (lv_at hl 0 rfl) ?_
      obtain ⟨qa14, eq13, kd15⟩ := rd_12003 ok1 kd900
      refine p_get (ci := 11) (v := .ref qa14) (C := RX11) (T := TX11) (N := 17) hx hb hT iw_X11 hown hK hw hW kd900 (by decide) rfl rfl 3 (by decide) eq13 (hT _ tb_660) (fun _ h9 => h9) dX11_fits_24 ?_
      refine lv_iload_n hx hb dX11_fits_27 rfl (lv_at hl 1 rfl) ?_
      have gf23 : FrX wsC K0 hp0 hp0 := gfx
      refine kg_v hw hS hA (va_runV (As := [.ref qa14, .int zi901]) (rest := []) ⟨hx, hb, hml, hown, hT⟩ (Met.szx (cX1_find_0 l G cy ev K ln Ls hW _ hp0 ok1 qa5 qa14 zi901 gn kd6 kd15 (b_wid2 bd12 (by decide) (by decide)) pdNS)) (cwV 2 hT (good_V tb_1316 tb_1313 tb_1314 tb_1315 tb_121) rfl rfl rfl (by decide +kernel) ⟨Nat.le_of_ble_eq_true rfl, Nat.le_of_ble_eq_true rfl⟩) (pool_preV (ci := 1) hK hE hS hA hw hW kd6 (by decide) rfl) rfl rfl hl.1 rfl (lv_room (Nat.le_of_ble_eq_true rfl)) dX11_fits_28 ⟨(show (gn - g0) + 327680 ≤ 327680 from by omega), (show (14 * (gn - g0)) + 4580352 ≤ 4580352 from by omega)⟩) (fun u gn H locs hq16 hw hS => ?_)
      obtain ⟨K, ln, Ls, hp17⟩ := u
      obtain ⟨ex19, hW, ok18, fx20, pd21, hle22⟩ := hq16
      have hw : PW G cy K ln Ls A hp17 H := hw
      have gfx : FrX wsC K0 hp0 hp17 := FrX.tr gf23 gex fx20 (by decide)
      have gex := EXx.tr gex ex19
      have kd26 := EXx.kd ex19 kd900 (by decide)
      have hgn := NSx.bd pd21
      refine W.widen (k := gn - g0) (n := 14 * (gn - g0)) (by omega) (by omega) ?_
      have hga : g0 ≤ gn := by omega
      refine lv_aload_n hx hb dX11_fits_31 rfl (lv_at hl 0 rfl) ?_
      obtain ⟨qa28, eq27, kd29⟩ := rd_12016 ok18 kd26
      refine p_get (ci := 11) (v := .ref qa28) (C := RX11) (T := TX11) (N := 17) hx hb hT iw_X11 hown hK hw hW kd26 (by decide) rfl rfl 16 (by decide) eq27 (hT _ tb_673) (fun _ h9 => h9) dX11_fits_32 ?_
      obtain ⟨qa31, eq30, kd32⟩ := rd_2005 ok18 kd29
      refine p_getN (ci := 1) (v := .ref qa31) (C := RX1) (T := TX1) (N := 8) hx hb hT iw_X1 hown hK hw hW kd29 (by decide) rfl rfl 5 (by decide) eq30 (hK.fl nw_531) (fun _ h9 => h9) dX11_fits_35 ?_
      refine lv_iload_n hx hb dX11_fits_38 rfl (lv_at hl 1 rfl) ?_
      obtain ⟨wl34, eq33⟩ := rd_23000 ok18 kd32 ((zi901 : Int32).toNatClampNeg)
      refine p_lald (v := wl34) hx hb hK hw hW kd32 (by decide) rfl (hW.len kd32 (n := 6) rfl (by decide)) (vp_b bd12 (by decide) (by decide)) eq33 dX11_fits_39 ?_
      rw [hQ]
      exact kgz_l (n := g0) hx hb hr hlocks hS (((K, ln, Ls, hp17), gn) : GU × Nat) hw ⟨gex, hW, ok18, gfx, pd21, (by omega)⟩ (show (gn - g0) ≤ gn - g0 from by omega) (show (14 * (gn - g0)) ≤ 14 * (gn - g0) from by omega) (show (gn - g0) ≤ 327680 from by omega) (show (14 * (gn - g0)) ≤ 4580352 from by omega) dX11_fits_40
    · skip
      have tf35 : zi8.toInt < zi901.toInt := (fa_lt _ _).mp (Int32.not_le.mp cn10)
      have bd36 : (1 : Int) ≤ zi901.toInt ∧ zi901.toInt ≤ 2147483647 := r_lt_y (Int32.not_le.mp cn10) bd9 bd3 (by decide) (by decide)
      refine lv_ldc2 (v := (-1)) hx hb hown (hT _ tb_1264) dX11_fits_15 ?_
      rw [hQ]
      exact kgz_l (n := g0) hx hb hr hlocks hS (((K, ln, Ls, hp0), gn) : GU × Nat) hw ⟨gex, hW, ok1, gfx, pdNS, (by omega)⟩ (show (gn - g0) ≤ gn - g0 from by omega) (show (14 * (gn - g0)) ≤ 14 * (gn - g0) from by omega) (show (gn - g0) ≤ 327680 from by omega) (show (14 * (gn - g0)) ≤ 4580352 from by omega) dX11_fits_18

set_option maxRecDepth 100000 in
set_option maxHeartbeats 4000000 in
theorem cX11_surely_0 (l : Launch) (G : va_G) (cy : Nat → ClassId) (ev : Ew) (K0 ln0 : Nat → Nat) (Ls0 : List Nat) (hW0 : SW K0 ln0 Ls0) (sz : Nat) (hp0 : Nat → Nat → Value) (ok0 : Ok K0 hp0) (qa900 : Nat) (zi901 : Int32) (g0 : Nat) (kd900 : K0 qa900 = 12) (pdNS : NSx K0 ln0 hp0 g0) : Met l yX11_surely (WS yX11_surely cX11_surely 2 (some .int)) { frames := 7, cells := 327680, slots := 4580352, locals := 183 } (PB2 [.ref qa900, .int zi901] sz G cy ev (va_pl Ls0 (cellOf cy K0 ln0 hp0))) (QGi (fun (r : Int32) (u : GU × Nat) => GPx wsC K0 ln0 hp0 g0 u.1 u.2) G cy g0 (va_A (va_pl Ls0 (cellOf cy K0 ln0 hp0)) sz)) 327680 4580352 (va_A (va_pl Ls0 (cellOf cy K0 ln0 hp0)) sz) := by
  refine met_of2 (y := yX11_surely) (L := 2) (av := [.ref qa900, .int zi901]) (Qc := fun A => QGi (fun (r : Int32) (u : GU × Nat) => GPx wsC K0 ln0 hp0 g0 u.1 u.2) G cy g0 A) (plainFor_of_name (by decide)) (Nat.le_of_ble_eq_true rfl) ?_
  intro p e s m below meth c hsz hx hb hr hml hown hT hlocks hin hK A hA hE hw hS ls hl
  have hw : PW G cy K0 ln0 Ls0 A hp0 s.heap := hw
  have hown : s.vm.findClass "LieClock" = some m.cls := hown
  have hl : lv_has ls 2 [(0, .ref qa900), (1, .int zi901)] := hl
  obtain ⟨Q, hQ⟩ : ∃ Q : State → Prop, Q = MQ below (QGi (fun (r : Int32) (u : GU × Nat) => GPx wsC K0 ln0 hp0 g0 u.1 u.2) G cy g0 A) ([.ref qa900, .int zi901] : List Value).toArray s 327680 4580352 A := ⟨_, rfl⟩
  rw [← hQ]
  obtain ⟨K, ln, Ls, gn, hW, gex, gfx, ok1, hKe, hga, hge, kd900, pdNS, hw⟩ : ∃ (K ln : Nat → Nat) (Ls : List Nat) (gn : Nat), SW K ln Ls ∧ EXx K0 ln0 K ln ∧ FrX wsC K0 hp0 hp0 ∧ Ok K hp0 ∧ K = K0 ∧ g0 ≤ gn ∧ gn = g0 ∧ (K qa900 = 12) ∧ (NSx K ln hp0 gn) ∧ PW G cy K ln Ls A hp0 s.heap := ⟨K0, ln0, Ls0, g0, hW0, EXx.rf, FrX.rf, ok0, rfl, Nat.le_refl _, rfl, kd900, pdNS, hw⟩
  have hg0 : 256 ≤ g0 ∧ g0 ≤ 131072 := by have := NSx.bd pdNS; omega
  refine W.widen (k := gn - g0) (n := 14 * (gn - g0)) (Nat.zero_le _) (Nat.zero_le _) ?_
  have hgn := NSx.bd pdNS
  refine lv_iload_n hx hb dX11_surely_0 rfl (lv_at hl 1 rfl) ?_
  refine lv_if_lt (tgt := 15) hx hb dX11_surely_1 (by decide) (fun cn1 => ?_) (fun cn1 => ?_)
  · skip
    have bd2 : (-2147483648 : Int) ≤ zi901.toInt ∧ zi901.toInt ≤ -1 := r_lt_x cn1 (b_all zi901) bc_0 (by decide) (by decide)
    refine lv_iconst (v := (-1)) hx hb dX11_surely_15 (by decide) ?_
    rw [hQ]
    exact kgz_i (n := g0) hx hb hr hlocks hS rfl (((K, ln, Ls, hp0), gn) : GU × Nat) hw ⟨gex, hW, ok1, gfx, pdNS, (by omega)⟩ (show (gn - g0) ≤ gn - g0 from by omega) (show (14 * (gn - g0)) ≤ 14 * (gn - g0) from by omega) (show (gn - g0) ≤ 327680 from by omega) (show (14 * (gn - g0)) ≤ 4580352 from by omega) dX11_surely_16
  · skip
    have bd3 : (0 : Int) ≤ zi901.toInt ∧ zi901.toInt ≤ 2147483647 := r_le_y (Int32.not_lt.mp cn1) bc_0 (b_all zi901) (by decide) (by decide)
    refine lv_iload_n hx hb dX11_surely_4 rfl (lv_at hl 1 rfl) ?_
    refine lv_aload_n hx hb dX11_surely_5 rfl (lv_at hl 0 rfl) ?_
    obtain ⟨qa5, eq4, kd6⟩ := rd_12016 ok1 kd900
    refine p_get (ci := 11) (v := .ref qa5) (C := RX11) (T := TX11) (N := 17) hx hb hT iw_X11 hown hK hw hW kd900 (by decide) rfl rfl 16 (by decide) eq4 (hT _ tb_673) (fun _ h9 => h9) dX11_surely_6 ?_
    obtain ⟨zi8, eq7, bd9⟩ := rd_2003 ok1 kd6
    refine p_getN (ci := 1) (v := .int zi8) (C := RX1) (T := TX1) (N := 8) hx hb hT iw_X1 hown hK hw hW kd6 (by decide) rfl rfl 3 (by decide) eq7 (hK.fl nw_528) (fun _ h9 => h9) dX11_surely_9 ?_
    refine lv_icmp_le (tgt := 17) hx hb dX11_surely_12 (by decide) (fun cn10 => ?_) (fun cn10 => ?_)
    · skip
      have tf11 : zi901.toInt ≤ zi8.toInt := (fa_le _ _).mp cn10
      have bd12 : (0 : Int) ≤ zi901.toInt ∧ zi901.toInt ≤ 5 := r_le_x cn10 bd3 bd9 (by decide) (by decide)
      refine lv_aload_n hx hb dX11_surely_17 rfl (lv_at hl 0 rfl) ?_
      refine p_get (ci := 11) (v := .ref qa5) (C := RX11) (T := TX11) (N := 17) hx hb hT iw_X11 hown hK hw hW kd900 (by decide) rfl rfl 16 (by decide) eq4 (hT _ tb_673) (fun _ h9 => h9) dX11_surely_18 ?_
      refine lv_aload_n hx hb dX11_surely_21 rfl (lv_at hl 0 rfl) ?_
      obtain ⟨qa14, eq13, kd15⟩ := rd_12003 ok1 kd900
      refine p_get (ci := 11) (v := .ref qa14) (C := RX11) (T := TX11) (N := 17) hx hb hT iw_X11 hown hK hw hW kd900 (by decide) rfl rfl 3 (by decide) eq13 (hT _ tb_660) (fun _ h9 => h9) dX11_surely_22 ?_
      refine lv_iload_n hx hb dX11_surely_25 rfl (lv_at hl 1 rfl) ?_
      have gf23 : FrX wsC K0 hp0 hp0 := gfx
      refine kg_v hw hS hA (va_runV (As := [.ref qa14, .int zi901]) (rest := []) ⟨hx, hb, hml, hown, hT⟩ (Met.szx (cX1_find_0 l G cy ev K ln Ls hW _ hp0 ok1 qa5 qa14 zi901 gn kd6 kd15 (b_wid2 bd12 (by decide) (by decide)) pdNS)) (cwV 2 hT (good_V tb_1316 tb_1313 tb_1314 tb_1315 tb_121) rfl rfl rfl (by decide +kernel) ⟨Nat.le_of_ble_eq_true rfl, Nat.le_of_ble_eq_true rfl⟩) (pool_preV (ci := 1) hK hE hS hA hw hW kd6 (by decide) rfl) rfl rfl hl.1 rfl (lv_room (Nat.le_of_ble_eq_true rfl)) dX11_surely_26 ⟨(show (gn - g0) + 327680 ≤ 327680 from by omega), (show (14 * (gn - g0)) + 4580352 ≤ 4580352 from by omega)⟩) (fun u gn H locs hq16 hw hS => ?_)
      obtain ⟨K, ln, Ls, hp17⟩ := u
      obtain ⟨ex19, hW, ok18, fx20, pd21, hle22⟩ := hq16
      have hw : PW G cy K ln Ls A hp17 H := hw
      have gfx : FrX wsC K0 hp0 hp17 := FrX.tr gf23 gex fx20 (by decide)
      have gex := EXx.tr gex ex19
      have kd26 := EXx.kd ex19 kd900 (by decide)
      have hgn := NSx.bd pd21
      refine W.widen (k := gn - g0) (n := 14 * (gn - g0)) (by omega) (by omega) ?_
      have hga : g0 ≤ gn := by omega
      refine lv_aload_n hx hb dX11_surely_29 rfl (lv_at hl 0 rfl) ?_
      obtain ⟨qa28, eq27, kd29⟩ := rd_12016 ok18 kd26
      refine p_get (ci := 11) (v := .ref qa28) (C := RX11) (T := TX11) (N := 17) hx hb hT iw_X11 hown hK hw hW kd26 (by decide) rfl rfl 16 (by decide) eq27 (hT _ tb_673) (fun _ h9 => h9) dX11_surely_30 ?_
      obtain ⟨qa31, eq30, kd32⟩ := rd_2006 ok18 kd29
      refine p_getN (ci := 1) (v := .ref qa31) (C := RX1) (T := TX1) (N := 8) hx hb hT iw_X1 hown hK hw hW kd29 (by decide) rfl rfl 6 (by decide) eq30 (hK.fl nw_533) (fun _ h9 => h9) dX11_surely_33 ?_
      refine lv_iload_n hx hb dX11_surely_36 rfl (lv_at hl 1 rfl) ?_
      obtain ⟨zi34, eq33⟩ := rd_24000 ok18 kd32 ((zi901 : Int32).toNatClampNeg)
      refine p_iald (v := zi34) hx hb hK hw hW kd32 (by decide) rfl (hW.len kd32 (n := 6) rfl (by decide)) (vp_b bd12 (by decide) (by decide)) eq33 dX11_surely_37 ?_
      rw [hQ]
      exact kgz_i (n := g0) hx hb hr hlocks hS rfl (((K, ln, Ls, hp17), gn) : GU × Nat) hw ⟨gex, hW, ok18, gfx, pd21, (by omega)⟩ (show (gn - g0) ≤ gn - g0 from by omega) (show (14 * (gn - g0)) ≤ 14 * (gn - g0) from by omega) (show (gn - g0) ≤ 327680 from by omega) (show (14 * (gn - g0)) ≤ 4580352 from by omega) dX11_surely_38
    · skip
      have tf35 : zi8.toInt < zi901.toInt := (fa_lt _ _).mp (Int32.not_le.mp cn10)
      have bd36 : (1 : Int) ≤ zi901.toInt ∧ zi901.toInt ≤ 2147483647 := r_lt_y (Int32.not_le.mp cn10) bd9 bd3 (by decide) (by decide)
      refine lv_iconst (v := (-1)) hx hb dX11_surely_15 (by decide) ?_
      rw [hQ]
      exact kgz_i (n := g0) hx hb hr hlocks hS rfl (((K, ln, Ls, hp0), gn) : GU × Nat) hw ⟨gex, hW, ok1, gfx, pdNS, (by omega)⟩ (show (gn - g0) ≤ gn - g0 from by omega) (show (14 * (gn - g0)) ≤ 14 * (gn - g0) from by omega) (show (gn - g0) ≤ 327680 from by omega) (show (14 * (gn - g0)) ≤ 4580352 from by omega) dX11_surely_16

set_option maxRecDepth 100000 in
set_option maxHeartbeats 4000000 in
theorem cX11_liars_0 (l : Launch) (G : va_G) (cy : Nat → ClassId) (ev : Ew) (K0 ln0 : Nat → Nat) (Ls0 : List Nat) (hW0 : SW K0 ln0 Ls0) (sz : Nat) (hp0 : Nat → Nat → Value) (ok0 : Ok K0 hp0) (qa900 : Nat) (zi901 : Int32) (g0 : Nat) (kd900 : K0 qa900 = 12) (pdNS : NSx K0 ln0 hp0 g0) : Met l yX11_liars (WS yX11_liars cX11_liars 2 (some .int)) { frames := 7, cells := 327680, slots := 4580352, locals := 183 } (PB2 [.ref qa900, .int zi901] sz G cy ev (va_pl Ls0 (cellOf cy K0 ln0 hp0))) (QGi (fun (r : Int32) (u : GU × Nat) => GPx wsC K0 ln0 hp0 g0 u.1 u.2) G cy g0 (va_A (va_pl Ls0 (cellOf cy K0 ln0 hp0)) sz)) 327680 4580352 (va_A (va_pl Ls0 (cellOf cy K0 ln0 hp0)) sz) := by
  refine met_of2 (y := yX11_liars) (L := 2) (av := [.ref qa900, .int zi901]) (Qc := fun A => QGi (fun (r : Int32) (u : GU × Nat) => GPx wsC K0 ln0 hp0 g0 u.1 u.2) G cy g0 A) (plainFor_of_name (by decide)) (Nat.le_of_ble_eq_true rfl) ?_
  intro p e s m below meth c hsz hx hb hr hml hown hT hlocks hin hK A hA hE hw hS ls hl
  have hw : PW G cy K0 ln0 Ls0 A hp0 s.heap := hw
  have hown : s.vm.findClass "LieClock" = some m.cls := hown
  have hl : lv_has ls 2 [(0, .ref qa900), (1, .int zi901)] := hl
  obtain ⟨Q, hQ⟩ : ∃ Q : State → Prop, Q = MQ below (QGi (fun (r : Int32) (u : GU × Nat) => GPx wsC K0 ln0 hp0 g0 u.1 u.2) G cy g0 A) ([.ref qa900, .int zi901] : List Value).toArray s 327680 4580352 A := ⟨_, rfl⟩
  rw [← hQ]
  obtain ⟨K, ln, Ls, gn, hW, gex, gfx, ok1, hKe, hga, hge, kd900, pdNS, hw⟩ : ∃ (K ln : Nat → Nat) (Ls : List Nat) (gn : Nat), SW K ln Ls ∧ EXx K0 ln0 K ln ∧ FrX wsC K0 hp0 hp0 ∧ Ok K hp0 ∧ K = K0 ∧ g0 ≤ gn ∧ gn = g0 ∧ (K qa900 = 12) ∧ (NSx K ln hp0 gn) ∧ PW G cy K ln Ls A hp0 s.heap := ⟨K0, ln0, Ls0, g0, hW0, EXx.rf, FrX.rf, ok0, rfl, Nat.le_refl _, rfl, kd900, pdNS, hw⟩
  have hg0 : 256 ≤ g0 ∧ g0 ≤ 131072 := by have := NSx.bd pdNS; omega
  refine W.widen (k := gn - g0) (n := 14 * (gn - g0)) (Nat.zero_le _) (Nat.zero_le _) ?_
  have hgn := NSx.bd pdNS
  refine lv_iload_n hx hb dX11_liars_0 rfl (lv_at hl 1 rfl) ?_
  refine lv_if_lt (tgt := 15) hx hb dX11_liars_1 (by decide) (fun cn1 => ?_) (fun cn1 => ?_)
  · skip
    have bd2 : (-2147483648 : Int) ≤ zi901.toInt ∧ zi901.toInt ≤ -1 := r_lt_x cn1 (b_all zi901) bc_0 (by decide) (by decide)
    refine lv_iconst (v := (-1)) hx hb dX11_liars_15 (by decide) ?_
    rw [hQ]
    exact kgz_i (n := g0) hx hb hr hlocks hS rfl (((K, ln, Ls, hp0), gn) : GU × Nat) hw ⟨gex, hW, ok1, gfx, pdNS, (by omega)⟩ (show (gn - g0) ≤ gn - g0 from by omega) (show (14 * (gn - g0)) ≤ 14 * (gn - g0) from by omega) (show (gn - g0) ≤ 327680 from by omega) (show (14 * (gn - g0)) ≤ 4580352 from by omega) dX11_liars_16
  · skip
    have bd3 : (0 : Int) ≤ zi901.toInt ∧ zi901.toInt ≤ 2147483647 := r_le_y (Int32.not_lt.mp cn1) bc_0 (b_all zi901) (by decide) (by decide)
    refine lv_iload_n hx hb dX11_liars_4 rfl (lv_at hl 1 rfl) ?_
    refine lv_aload_n hx hb dX11_liars_5 rfl (lv_at hl 0 rfl) ?_
    obtain ⟨qa5, eq4, kd6⟩ := rd_12016 ok1 kd900
    refine p_get (ci := 11) (v := .ref qa5) (C := RX11) (T := TX11) (N := 17) hx hb hT iw_X11 hown hK hw hW kd900 (by decide) rfl rfl 16 (by decide) eq4 (hT _ tb_673) (fun _ h9 => h9) dX11_liars_6 ?_
    obtain ⟨zi8, eq7, bd9⟩ := rd_2003 ok1 kd6
    refine p_getN (ci := 1) (v := .int zi8) (C := RX1) (T := TX1) (N := 8) hx hb hT iw_X1 hown hK hw hW kd6 (by decide) rfl rfl 3 (by decide) eq7 (hK.fl nw_528) (fun _ h9 => h9) dX11_liars_9 ?_
    refine lv_icmp_le (tgt := 17) hx hb dX11_liars_12 (by decide) (fun cn10 => ?_) (fun cn10 => ?_)
    · skip
      have tf11 : zi901.toInt ≤ zi8.toInt := (fa_le _ _).mp cn10
      have bd12 : (0 : Int) ≤ zi901.toInt ∧ zi901.toInt ≤ 5 := r_le_x cn10 bd3 bd9 (by decide) (by decide)
      refine lv_aload_n hx hb dX11_liars_17 rfl (lv_at hl 0 rfl) ?_
      refine p_get (ci := 11) (v := .ref qa5) (C := RX11) (T := TX11) (N := 17) hx hb hT iw_X11 hown hK hw hW kd900 (by decide) rfl rfl 16 (by decide) eq4 (hT _ tb_673) (fun _ h9 => h9) dX11_liars_18 ?_
      refine lv_aload_n hx hb dX11_liars_21 rfl (lv_at hl 0 rfl) ?_
      obtain ⟨qa14, eq13, kd15⟩ := rd_12003 ok1 kd900
      refine p_get (ci := 11) (v := .ref qa14) (C := RX11) (T := TX11) (N := 17) hx hb hT iw_X11 hown hK hw hW kd900 (by decide) rfl rfl 3 (by decide) eq13 (hT _ tb_660) (fun _ h9 => h9) dX11_liars_22 ?_
      refine lv_iload_n hx hb dX11_liars_25 rfl (lv_at hl 1 rfl) ?_
      have gf23 : FrX wsC K0 hp0 hp0 := gfx
      refine kg_v hw hS hA (va_runV (As := [.ref qa14, .int zi901]) (rest := []) ⟨hx, hb, hml, hown, hT⟩ (Met.szx (cX1_find_0 l G cy ev K ln Ls hW _ hp0 ok1 qa5 qa14 zi901 gn kd6 kd15 (b_wid2 bd12 (by decide) (by decide)) pdNS)) (cwV 2 hT (good_V tb_1316 tb_1313 tb_1314 tb_1315 tb_121) rfl rfl rfl (by decide +kernel) ⟨Nat.le_of_ble_eq_true rfl, Nat.le_of_ble_eq_true rfl⟩) (pool_preV (ci := 1) hK hE hS hA hw hW kd6 (by decide) rfl) rfl rfl hl.1 rfl (lv_room (Nat.le_of_ble_eq_true rfl)) dX11_liars_26 ⟨(show (gn - g0) + 327680 ≤ 327680 from by omega), (show (14 * (gn - g0)) + 4580352 ≤ 4580352 from by omega)⟩) (fun u gn H locs hq16 hw hS => ?_)
      obtain ⟨K, ln, Ls, hp17⟩ := u
      obtain ⟨ex19, hW, ok18, fx20, pd21, hle22⟩ := hq16
      have hw : PW G cy K ln Ls A hp17 H := hw
      have gfx : FrX wsC K0 hp0 hp17 := FrX.tr gf23 gex fx20 (by decide)
      have gex := EXx.tr gex ex19
      have kd26 := EXx.kd ex19 kd900 (by decide)
      have hgn := NSx.bd pd21
      refine W.widen (k := gn - g0) (n := 14 * (gn - g0)) (by omega) (by omega) ?_
      have hga : g0 ≤ gn := by omega
      refine lv_aload_n hx hb dX11_liars_29 rfl (lv_at hl 0 rfl) ?_
      obtain ⟨qa28, eq27, kd29⟩ := rd_12016 ok18 kd26
      refine p_get (ci := 11) (v := .ref qa28) (C := RX11) (T := TX11) (N := 17) hx hb hT iw_X11 hown hK hw hW kd26 (by decide) rfl rfl 16 (by decide) eq27 (hT _ tb_673) (fun _ h9 => h9) dX11_liars_30 ?_
      obtain ⟨qa31, eq30, kd32⟩ := rd_2007 ok18 kd29
      refine p_getN (ci := 1) (v := .ref qa31) (C := RX1) (T := TX1) (N := 8) hx hb hT iw_X1 hown hK hw hW kd29 (by decide) rfl rfl 7 (by decide) eq30 (hK.fl nw_535) (fun _ h9 => h9) dX11_liars_33 ?_
      refine lv_iload_n hx hb dX11_liars_36 rfl (lv_at hl 1 rfl) ?_
      obtain ⟨zi34, eq33⟩ := rd_25000 ok18 kd32 ((zi901 : Int32).toNatClampNeg)
      refine p_iald (v := zi34) hx hb hK hw hW kd32 (by decide) rfl (hW.len kd32 (n := 6) rfl (by decide)) (vp_b bd12 (by decide) (by decide)) eq33 dX11_liars_37 ?_
      rw [hQ]
      exact kgz_i (n := g0) hx hb hr hlocks hS rfl (((K, ln, Ls, hp17), gn) : GU × Nat) hw ⟨gex, hW, ok18, gfx, pd21, (by omega)⟩ (show (gn - g0) ≤ gn - g0 from by omega) (show (14 * (gn - g0)) ≤ 14 * (gn - g0) from by omega) (show (gn - g0) ≤ 327680 from by omega) (show (14 * (gn - g0)) ≤ 4580352 from by omega) dX11_liars_38
    · skip
      have tf35 : zi8.toInt < zi901.toInt := (fa_lt _ _).mp (Int32.not_le.mp cn10)
      have bd36 : (1 : Int) ≤ zi901.toInt ∧ zi901.toInt ≤ 2147483647 := r_lt_y (Int32.not_le.mp cn10) bd9 bd3 (by decide) (by decide)
      refine lv_iconst (v := (-1)) hx hb dX11_liars_15 (by decide) ?_
      rw [hQ]
      exact kgz_i (n := g0) hx hb hr hlocks hS rfl (((K, ln, Ls, hp0), gn) : GU × Nat) hw ⟨gex, hW, ok1, gfx, pdNS, (by omega)⟩ (show (gn - g0) ≤ gn - g0 from by omega) (show (14 * (gn - g0)) ≤ 14 * (gn - g0) from by omega) (show (gn - g0) ≤ 327680 from by omega) (show (14 * (gn - g0)) ≤ 4580352 from by omega) dX11_liars_16
