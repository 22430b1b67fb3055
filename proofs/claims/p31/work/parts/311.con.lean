set_option maxRecDepth 100000 in
set_option maxHeartbeats 4000000 in
theorem cX3_add_vG_0 (l : Launch) (G : va_G) (cy : Nat → ClassId) (ev : Ew) (K0 ln0 : Nat → Nat) (Ls0 : List Nat) (hW0 : SW K0 ln0 Ls0) (sz : Nat) (hp0 : Nat → Nat → Value) (ok0 : Ok K0 hp0) (qa900 : Nat) (qa901 : Nat) (zi902 : Int32) (wl903 : Int64) (zi904 : Int32) (g0 : Nat) (kd900 : K0 qa900 = 4) (kd901 : K0 qa901 = 8) (pdNS : NSx K0 ln0 hp0 g0) : Met l yX3_add (WS yX3_add cX3_add 7 none) { frames := 3, cells := 65536, slots := 917504, locals := 84 } (PB2 [.ref qa900, .ref qa901, .int zi902, .long wl903, .int zi904] sz G cy ev (va_pl Ls0 (cellOf cy K0 ln0 hp0))) (QGv (fun u : GU × Nat => GPx wsC K0 ln0 hp0 g0 u.1 u.2) G cy g0 (va_A (va_pl Ls0 (cellOf cy K0 ln0 hp0)) sz)) 65536 917504 (va_A (va_pl Ls0 (cellOf cy K0 ln0 hp0)) sz) := by
  refine met_of2 (y := yX3_add) (L := 7) (av := [.ref qa900, .ref qa901, .int zi902, .long wl903, .int zi904]) (Qc := fun A => QGv (fun u : GU × Nat => GPx wsC K0 ln0 hp0 g0 u.1 u.2) G cy g0 A) (plainFor_of_name (by decide)) (Nat.le_of_ble_eq_true rfl) ?_
  intro p e s m below meth c hsz hx hb hr hml hown hT hlocks hin hK A hA hE hw hS ls hl
  have hw : PW G cy K0 ln0 Ls0 A hp0 s.heap := hw
  have hown : s.vm.findClass "LieClock$Nodes" = some m.cls := hown
  have hl : lv_has ls 7 [(0, .ref qa900), (1, .ref qa901), (2, .int zi902), (3, .long wl903), (5, .int zi904)] := hl
  obtain ⟨Q, hQ⟩ : ∃ Q : State → Prop, Q = MQ below (QGv (fun u : GU × Nat => GPx wsC K0 ln0 hp0 g0 u.1 u.2) G cy g0 A) ([.ref qa900, .ref qa901, .int zi902, .long wl903, .int zi904] : List Value).toArray s 65536 917504 A := ⟨_, rfl⟩
  rw [← hQ]
  obtain ⟨K, ln, Ls, gn, hW, gex, gfx, ok1, hKe, hga, hge, kd900, kd901, pdNS, hw⟩ : ∃ (K ln : Nat → Nat) (Ls : List Nat) (gn : Nat), SW K ln Ls ∧ EXx K0 ln0 K ln ∧ FrX wsC K0 hp0 hp0 ∧ Ok K hp0 ∧ K = K0 ∧ g0 ≤ gn ∧ gn = g0 ∧ (K qa900 = 4) ∧ (K qa901 = 8) ∧ (NSx K ln hp0 gn) ∧ PW G cy K ln Ls A hp0 s.heap := ⟨K0, ln0, Ls0, g0, hW0, EXx.rf, FrX.rf, ok0, rfl, Nat.le_refl _, rfl, kd900, kd901, pdNS, hw⟩
  have hg0 : 256 ≤ g0 ∧ g0 ≤ 131072 := by have := NSx.bd pdNS; omega
  have hgn := NSx.bd pdNS
  obtain ⟨zi2, eq1, bd3⟩ := rd_4006 ok1 kd900
  have nz4 := (pdNS).sz kd900 eq1
  refine lv_aload_n hx hb dX3_add_0 rfl (lv_at hl 0 rfl) ?_
  refine lv_aload_n hx hb dX3_add_1 rfl (lv_at hl 1 rfl) ?_
  refine lv_iload hx hb dX3_add_2 (lv_at hl 4 rfl) ?_
  refine kq_i hw hS hA (va_runV (As := [.ref qa901, .int zi904]) (rest := []) ⟨hx, hb, hml, hown, hT⟩ (cX3_slotOf_0 l G cy ev K ln Ls hW _ hp0 ok1 qa900 qa901 zi904 gn kd900 kd901 pdNS) (cwV 2 hT (good_V tb_1146 tb_1143 tb_1145 tb_33 tb_117) rfl rfl rfl (by decide +kernel) ⟨Nat.le_of_ble_eq_true rfl, Nat.le_of_ble_eq_true rfl⟩) (pool_preV (ci := 3) hK hE hS hA hw hW kd900 (by decide) rfl) rfl rfl hl.1 rfl (lv_room (Nat.le_of_ble_eq_true rfl)) dX3_add_4 ⟨(show 0 + 0 ≤ 65536 from by omega), (show 0 + 0 ≤ 917504 from by omega)⟩) (fun zi9 hp5 H locs hq8 hw hS => ?_)
  obtain ⟨ok6, F7, bd10, xq11, xq12⟩ := hq8
  obtain rfl : hp0 = hp5 := (Fr.nil F7).symm
  have hw : PW G cy K ln Ls A hp0 H := hw
  refine lv_istore (lv' := [(6, .int zi9), (0, .ref qa900), (1, .ref qa901), (2, .int zi902), (3, .long wl903), (5, .int zi904)]) hx hb dX3_add_7 hl (by decide) rfl (fun ls hl => ?_)
  refine lv_iload hx hb dX3_add_9 (lv_at hl 0 rfl) ?_
  refine lv_if_lt (tgt := 43) hx hb dX3_add_11 (by decide) (fun cn13 => ?_) (fun cn13 => ?_)
  · skip
    have bd14 : (-1 : Int) ≤ zi9.toInt ∧ zi9.toInt ≤ -1 := r_lt_x cn13 bd10 bc_0 (by decide) (by decide)
    refine lv_aload_n hx hb dX3_add_43 rfl (lv_at hl 1 rfl) ?_
    refine p_get (ci := 3) (v := .int zi2) (C := RX3) (T := TX3) (N := 7) hx hb hT iw_X3 hown hK hw hW kd900 (by decide) rfl rfl 6 (by decide) eq1 (hT _ tb_503) (fun _ h9 => h9) dX3_add_44 ?_
    refine lv_aload_n hx hb dX3_add_47 rfl (lv_at hl 1 rfl) ?_
    obtain ⟨qa16, eq15, kd17⟩ := rd_4000 ok1 kd900
    have ln18 := (pdNS).ref kd900 (by decide) eq15
    refine p_get (ci := 3) (v := .ref qa16) (C := RX3) (T := TX3) (N := 7) hx hb hT iw_X3 hown hK hw hW kd900 (by decide) rfl rfl 0 (by decide) eq15 (hT _ tb_492) (fun _ h9 => h9) dX3_add_48 ?_
    obtain ⟨zi19, ez20⟩ : ∃ z : Int32, Int32.ofNat (ln qa16) = z := ⟨_, rfl⟩
    refine p_alen (v := zi19) hx hb hK hw hW kd17 (by decide) rfl rfl ez20 dX3_add_51 ?_
    have hl21 : zi19.toInt = (gn : Nat) := by have h9 := ofNat_len ez20 (by rw [ln18]; omega); rw [ln18] at h9; exact h9
    have bd22 : (256 : Int) ≤ zi19.toInt ∧ zi19.toInt ≤ 131072 := (by omega)
    refine lv_icmp_lt (tgt := 68) hx hb dX3_add_52 (by decide) (fun cn23 => ?_) (fun cn23 => ?_)
    · skip
      have tf24 : zi2.toInt < zi19.toInt := (fa_lt _ _).mp cn23
      have bd25 : (0 : Int) ≤ zi2.toInt ∧ zi2.toInt ≤ 131071 := r_lt_x cn23 bd3 bd22 (by decide) (by decide)
      refine lv_iload hx hb dX3_add_68 (lv_at hl 0 rfl) ?_
      refine lv_if_lt (tgt := 85) hx hb dX3_add_70 (by decide) (fun _ => ?_) (fun c => absurd (d_lt bd14 bc_0 (by decide)) c)
      rw [hQ]
      exact kgz_v (n := g0) hx hb hr hlocks hS (((K, ln, Ls, hp0), gn) : GU × Nat) hw ⟨gex, hW, ok1, gfx, pdNS, (by omega)⟩ (show 0 ≤ gn - g0 from by omega) (show 0 ≤ 14 * (gn - g0) from by omega) (show 0 ≤ 65536 from by omega) (show 0 ≤ 917504 from by omega) dX3_add_85
    · skip
      have tf26 : zi19.toInt ≤ zi2.toInt := (fa_le _ _).mp (Int32.not_lt.mp cn23)
      have bd27 : (256 : Int) ≤ zi2.toInt ∧ zi2.toInt ≤ 131072 := r_le_y (Int32.not_lt.mp cn23) bd22 bd3 (by decide) (by decide)
      refine lv_aload_n hx hb dX3_add_55 rfl (lv_at hl 1 rfl) ?_
      by_cases hq28 : 2 * gn ≤ 131072
      · skip
        have gf36 : FrX wsC K0 hp0 hp0 := gfx
        refine kg_v hw hS hA (va_runV (As := []) (rest := []) ⟨hx, hb, hml, hown, hT⟩ (Met.szx (cX3_grow_vGG_0 l G cy ev K ln Ls hW _ hp0 ok1 qa900 gn kd900 pdNS (by omega))) (cwV 0 hT (good_V tb_1159 tb_1156 tb_1158 tb_34 tb_117) rfl rfl rfl (by decide +kernel) ⟨Nat.le_of_ble_eq_true rfl, Nat.le_of_ble_eq_true rfl⟩) (pool_preV (ci := 3) hK hE hS hA hw hW kd900 (by decide) rfl) rfl rfl hl.1 rfl (lv_room (Nat.le_of_ble_eq_true rfl)) dX3_add_56 ⟨(show 0 + 65536 ≤ 65536 from by omega), (show 0 + 917504 ≤ 917504 from by omega)⟩) (fun u gn H locs hq29 hw hS => ?_)
        obtain ⟨K, ln, Ls, hp30⟩ := u
        obtain ⟨⟨ex32, hW, ok31, fx33, pd34, hle35⟩, gp38⟩ := hq29
        have gp38 : gn = _ := gp38
        have hw : PW G cy K ln Ls A hp30 H := hw
        have gfx : FrX wsC K0 hp0 hp30 := FrX.tr gf36 gex fx33 (by decide)
        have gex := EXx.tr gex ex32
        have kd39 := EXx.kd ex32 kd900 (by decide)
        have kd40 := EXx.kd ex32 kd901 (by decide)
        have hgn := NSx.bd pd34
        refine W.widen (k := gn - g0) (n := 14 * (gn - g0)) (by omega) (by omega) ?_
        have hga : g0 ≤ gn := by omega
        refine lv_aload_n hx hb dX3_add_59 rfl (lv_at hl 1 rfl) ?_
        refine lv_aload_n hx hb dX3_add_60 rfl (lv_at hl 2 rfl) ?_
        refine lv_iload hx hb dX3_add_61 (lv_at hl 5 rfl) ?_
        refine kq_i hw hS hA (va_runV (As := [.ref qa901, .int zi904]) (rest := []) ⟨hx, hb, hml, hown, hT⟩ (cX3_slotOf_0 l G cy ev K ln Ls hW _ hp30 ok31 qa900 qa901 zi904 gn kd39 kd40 pd34) (cwV 2 hT (good_V tb_1146 tb_1143 tb_1145 tb_33 tb_117) rfl rfl rfl (by decide +kernel) ⟨Nat.le_of_ble_eq_true rfl, Nat.le_of_ble_eq_true rfl⟩) (pool_preV (ci := 3) hK hE hS hA hw hW kd39 (by decide) rfl) rfl rfl hl.1 rfl (lv_room (Nat.le_of_ble_eq_true rfl)) dX3_add_63 ⟨(show (gn - g0) + 0 ≤ 65536 from by omega), (show (14 * (gn - g0)) + 0 ≤ 917504 from by omega)⟩) (fun zi45 hp41 H locs hq44 hw hS => ?_)
        obtain ⟨ok42, F43, bd46, xq47, xq48⟩ := hq44
        obtain rfl : hp30 = hp41 := (Fr.nil F43).symm
        have hw : PW G cy K ln Ls A hp30 H := hw
        refine lv_istore (lv' := [(6, .int zi45), (0, .ref qa900), (1, .ref qa901), (2, .int zi902), (3, .long wl903), (5, .int zi904)]) hx hb dX3_add_66 hl (by decide) rfl (fun ls hl => ?_)
        refine lv_iload hx hb dX3_add_68 (lv_at hl 0 rfl) ?_
        refine lv_if_lt (tgt := 85) hx hb dX3_add_70 (by decide) (fun cn49 => ?_) (fun cn49 => ?_)
        · skip
          have bd50 : (-1 : Int) ≤ zi45.toInt ∧ zi45.toInt ≤ -1 := r_lt_x cn49 bd46 bc_0 (by decide) (by decide)
          rw [hQ]
          exact kgz_v (n := g0) hx hb hr hlocks hS (((K, ln, Ls, hp30), gn) : GU × Nat) hw ⟨gex, hW, ok31, gfx, pd34, (by omega)⟩ (show (gn - g0) ≤ gn - g0 from by omega) (show (14 * (gn - g0)) ≤ 14 * (gn - g0) from by omega) (show (gn - g0) ≤ 65536 from by omega) (show (14 * (gn - g0)) ≤ 917504 from by omega) dX3_add_85
        · skip
          have bd51 : (0 : Int) ≤ zi45.toInt ∧ zi45.toInt ≤ 262143 := r_le_y (Int32.not_lt.mp cn49) bc_0 bd46 (by decide) (by decide)
          refine lv_aload_n hx hb dX3_add_73 rfl (lv_at hl 1 rfl) ?_
          obtain ⟨zi53, eq52, bd54⟩ := rd_4006 ok31 kd39
          have nz55 := (pd34).sz kd39 eq52
          refine p_get (ci := 3) (v := .int zi53) (C := RX3) (T := TX3) (N := 7) hx hb hT iw_X3 hown hK hw hW kd39 (by decide) rfl rfl 6 (by decide) eq52 (hT _ tb_503) (fun _ h9 => h9) dX3_add_74 ?_
          refine lv_aload_n hx hb dX3_add_77 rfl (lv_at hl 1 rfl) ?_
          obtain ⟨qa57, eq56, kd58⟩ := rd_4000 ok31 kd39
          have ln59 := (pd34).ref kd39 (by decide) eq56
          refine p_get (ci := 3) (v := .ref qa57) (C := RX3) (T := TX3) (N := 7) hx hb hT iw_X3 hown hK hw hW kd39 (by decide) rfl rfl 0 (by decide) eq56 (hT _ tb_492) (fun _ h9 => h9) dX3_add_78 ?_
          obtain ⟨zi60, ez61⟩ : ∃ z : Int32, Int32.ofNat (ln qa57) = z := ⟨_, rfl⟩
          refine p_alen (v := zi60) hx hb hK hw hW kd58 (by decide) rfl rfl ez61 dX3_add_81 ?_
          have hl62 : zi60.toInt = (gn : Nat) := by have h9 := ofNat_len ez61 (by rw [ln59]; omega); rw [ln59] at h9; exact h9
          have bd63 : (256 : Int) ≤ zi60.toInt ∧ zi60.toInt ≤ 131072 := (by omega)
          refine lv_icmp_lt (tgt := 86) hx hb dX3_add_82 (by decide) (fun cn64 => ?_) (fun cn64 => ?_)
          · skip
            have tf65 : zi53.toInt < zi60.toInt := (fa_lt _ _).mp cn64
            have bd66 : (0 : Int) ≤ zi53.toInt ∧ zi53.toInt ≤ 131071 := r_lt_x cn64 bd54 bd63 (by decide) (by decide)
            refine lv_aload_n hx hb dX3_add_86 rfl (lv_at hl 1 rfl) ?_
            refine p_get (ci := 3) (v := .ref qa57) (C := RX3) (T := TX3) (N := 7) hx hb hT iw_X3 hown hK hw hW kd39 (by decide) rfl rfl 0 (by decide) eq56 (hT _ tb_492) (fun _ h9 => h9) dX3_add_87 ?_
            refine lv_aload_n hx hb dX3_add_90 rfl (lv_at hl 1 rfl) ?_
            refine p_get (ci := 3) (v := .int zi53) (C := RX3) (T := TX3) (N := 7) hx hb hT iw_X3 hown hK hw hW kd39 (by decide) rfl rfl 6 (by decide) eq52 (hT _ tb_503) (fun _ h9 => h9) dX3_add_91 ?_
            refine lv_aload_n hx hb dX3_add_94 rfl (lv_at hl 2 rfl) ?_
            refine kq_i hw hS hA (va_runS (As := [.ref qa901]) (rest := [.int zi53, .ref qa57]) ⟨hx, hb, hml, hown, hT⟩ (cX3_packed_0 l G cy ev K ln Ls hW _ hp30 ok31 qa901 kd40) (va_cwS 1 hT (good_S tb_1149 tb_1147 tb_1148 tb_117) rfl rfl rfl (by decide +kernel) ⟨Nat.le_of_ble_eq_true rfl, Nat.le_of_ble_eq_true rfl⟩) (PB2.preS hK hE hS hA hw) rfl rfl hl.1 rfl (lv_room (Nat.le_of_ble_eq_true rfl)) dX3_add_95 ⟨(show (gn - g0) + 0 ≤ 65536 from by omega), (show (14 * (gn - g0)) + 0 ≤ 917504 from by omega)⟩) (fun zi71 hp67 H locs hq70 hw hS => ?_)
            obtain ⟨ok68, F69, xq72⟩ := hq70
            obtain rfl : hp30 = hp67 := (Fr.nil F69).symm
            have hw : PW G cy K ln Ls A hp30 H := hw
            refine p_iast (x := zi71) hx hb hK hw hS hW kd58 (by decide) rfl ln59 (vp_bv (by omega) (by omega)) dX3_add_98 (fun hp73 eh74 H locs hw hS => ?_)
            have ok75 := wr_28000 ok31 kd58 eh74
            refine lv_aload_n hx hb dX3_add_99 rfl (lv_at hl 1 rfl) ?_
            obtain ⟨qa77, eq76, kd78⟩ := rd_4001 ok75 kd39
            have pd79 : NSx K ln hp73 gn := NSx_fr ok31  (show Fr [28000] K hp30 hp73 from (Fr.put (cq := 28000) (Fr.rf) eh74 kd58 (cd_a (by decide)) (by decide))) (by decide) pd34
            have ln80 := (pd79).ref kd39 (by decide) eq76
            refine p_get (ci := 3) (v := .ref qa77) (C := RX3) (T := TX3) (N := 7) hx hb hT iw_X3 hown hK hw hW kd39 (by decide) rfl rfl 1 (by decide) eq76 (hT _ tb_495) (fun _ h9 => h9) dX3_add_100 ?_
            refine lv_aload_n hx hb dX3_add_103 rfl (lv_at hl 1 rfl) ?_
            have eq81 : hp73 qa900 6 = .int zi53 := Eq.trans (up_at eh74 (Or.inl (kd_ne kd39 kd58 (by decide)))) eq52
            refine p_get (ci := 3) (v := .int zi53) (C := RX3) (T := TX3) (N := 7) hx hb hT iw_X3 hown hK hw hW kd39 (by decide) rfl rfl 6 (by decide) eq81 (hT _ tb_503) (fun _ h9 => h9) dX3_add_104 ?_
            refine lv_aload_n hx hb dX3_add_107 rfl (lv_at hl 2 rfl) ?_
            obtain ⟨zi83, eq82⟩ := rd_8000 ok75 kd40
            refine p_getN (ci := 7) (v := .int zi83) (C := RX7) (T := TX7) (N := 13) hx hb hT iw_X7 hown hK hw hW kd40 (by decide) rfl rfl 0 (by decide) eq82 (hK.fl nw_308) (fun _ h9 => h9) dX3_add_108 ?_
            refine p_iast (x := zi83) hx hb hK hw hS hW kd78 (by decide) rfl ln80 (vp_bv (by omega) (by omega)) dX3_add_111 (fun hp84 eh85 H locs hw hS => ?_)
            have ok86 := wr_29000 ok75 kd78 eh85
            refine lv_aload_n hx hb dX3_add_112 rfl (lv_at hl 1 rfl) ?_
            obtain ⟨qa88, eq87, kd89⟩ := rd_4002 ok86 kd39
            have pd90 : NSx K ln hp84 gn := NSx_fr ok75  (show Fr [29000] K hp73 hp84 from (Fr.put (cq := 29000) (Fr.rf) eh85 kd78 (cd_a (by decide)) (by decide))) (by decide) pd79
            have ln91 := (pd90).ref kd39 (by decide) eq87
            refine p_get (ci := 3) (v := .ref qa88) (C := RX3) (T := TX3) (N := 7) hx hb hT iw_X3 hown hK hw hW kd39 (by decide) rfl rfl 2 (by decide) eq87 (hT _ tb_497) (fun _ h9 => h9) dX3_add_113 ?_
            refine lv_aload_n hx hb dX3_add_116 rfl (lv_at hl 1 rfl) ?_
            have eq92 : hp84 qa900 6 = .int zi53 := Eq.trans (up_at eh85 (Or.inl (kd_ne kd39 kd78 (by decide)))) eq81
            refine p_get (ci := 3) (v := .int zi53) (C := RX3) (T := TX3) (N := 7) hx hb hT iw_X3 hown hK hw hW kd39 (by decide) rfl rfl 6 (by decide) eq92 (hT _ tb_503) (fun _ h9 => h9) dX3_add_117 ?_
            refine lv_aload_n hx hb dX3_add_120 rfl (lv_at hl 2 rfl) ?_
            obtain ⟨zi94, eq93⟩ := rd_8004 ok86 kd40
            refine p_getN (ci := 7) (v := .int zi94) (C := RX7) (T := TX7) (N := 13) hx hb hT iw_X7 hown hK hw hW kd40 (by decide) rfl rfl 4 (by decide) eq93 (hK.fl nw_323) (fun _ h9 => h9) dX3_add_121 ?_
            refine p_iast (x := zi94) hx hb hK hw hS hW kd89 (by decide) rfl ln91 (vp_bv (by omega) (by omega)) dX3_add_124 (fun hp95 eh96 H locs hw hS => ?_)
            have ok97 := wr_30000 ok86 kd89 eh96
            refine lv_aload_n hx hb dX3_add_125 rfl (lv_at hl 1 rfl) ?_
            obtain ⟨qa99, eq98, kd100⟩ := rd_4003 ok97 kd39
            have pd101 : NSx K ln hp95 gn := NSx_fr ok86  (show Fr [30000] K hp84 hp95 from (Fr.put (cq := 30000) (Fr.rf) eh96 kd89 (cd_a (by decide)) (by decide))) (by decide) pd90
            have ln102 := (pd101).ref kd39 (by decide) eq98
            refine p_get (ci := 3) (v := .ref qa99) (C := RX3) (T := TX3) (N := 7) hx hb hT iw_X3 hown hK hw hW kd39 (by decide) rfl rfl 3 (by decide) eq98 (hT _ tb_498) (fun _ h9 => h9) dX3_add_126 ?_
            refine lv_aload_n hx hb dX3_add_129 rfl (lv_at hl 1 rfl) ?_
            have eq103 : hp95 qa900 6 = .int zi53 := Eq.trans (up_at eh96 (Or.inl (kd_ne kd39 kd89 (by decide)))) eq92
            refine p_get (ci := 3) (v := .int zi53) (C := RX3) (T := TX3) (N := 7) hx hb hT iw_X3 hown hK hw hW kd39 (by decide) rfl rfl 6 (by decide) eq103 (hT _ tb_503) (fun _ h9 => h9) dX3_add_130 ?_
            refine lv_iload_n hx hb dX3_add_133 rfl (lv_at hl 3 rfl) ?_
            refine p_iast (x := zi902) hx hb hK hw hS hW kd100 (by decide) rfl ln102 (vp_bv (by omega) (by omega)) dX3_add_134 (fun hp104 eh105 H locs hw hS => ?_)
            have ok106 := wr_31000 ok97 kd100 eh105
            refine lv_aload_n hx hb dX3_add_135 rfl (lv_at hl 1 rfl) ?_
            obtain ⟨qa108, eq107, kd109⟩ := rd_4004 ok106 kd39
            have pd110 : NSx K ln hp104 gn := NSx_fr ok97  (show Fr [31000] K hp95 hp104 from (Fr.put (cq := 31000) (Fr.rf) eh105 kd100 (cd_a (by decide)) (by decide))) (by decide) pd101
            have ln111 := (pd110).ref kd39 (by decide) eq107
            refine p_get (ci := 3) (v := .ref qa108) (C := RX3) (T := TX3) (N := 7) hx hb hT iw_X3 hown hK hw hW kd39 (by decide) rfl rfl 4 (by decide) eq107 (hT _ tb_500) (fun _ h9 => h9) dX3_add_136 ?_
            refine lv_aload_n hx hb dX3_add_139 rfl (lv_at hl 1 rfl) ?_
            have eq112 : hp104 qa900 6 = .int zi53 := Eq.trans (up_at eh105 (Or.inl (kd_ne kd39 kd100 (by decide)))) eq103
            refine p_get (ci := 3) (v := .int zi53) (C := RX3) (T := TX3) (N := 7) hx hb hT iw_X3 hown hK hw hW kd39 (by decide) rfl rfl 6 (by decide) eq112 (hT _ tb_503) (fun _ h9 => h9) dX3_add_140 ?_
            refine lv_lload_n hx hb dX3_add_143 rfl (lv_at hl 4 rfl) ?_
            refine p_last (x := wl903) hx hb hK hw hS hW kd109 (by decide) rfl ln111 (vp_bv (by omega) (by omega)) dX3_add_144 (fun hp113 eh114 H locs hw hS => ?_)
            have ok115 := wr_32000 ok106 kd109 eh114
            refine lv_aload_n hx hb dX3_add_145 rfl (lv_at hl 1 rfl) ?_
            refine lv_dup hx hb dX3_add_146 rfl ?_
            have eq116 : hp113 qa900 6 = .int zi53 := Eq.trans (up_at eh114 (Or.inl (kd_ne kd39 kd109 (by decide)))) eq112
            refine p_get (ci := 3) (v := .int zi53) (C := RX3) (T := TX3) (N := 7) hx hb hT iw_X3 hown hK hw hW kd39 (by decide) rfl rfl 6 (by decide) eq116 (hT _ tb_503) (fun _ h9 => h9) dX3_add_147 ?_
            refine lv_iconst (v := 1) hx hb dX3_add_150 (by decide) ?_
            refine lv_iadd hx hb dX3_add_151 (lv_topi (fun zi117 ea118 => ?_))
            have bd119 : (1 : Int) ≤ zi117.toInt ∧ zi117.toInt ≤ 131072 := b_iadd ea118 bd66 bc_1 (by decide) (by decide) (by decide) (by decide)
            have qe120 : zi117.toInt = (zi53 : Int32).toInt + (1 : Int32).toInt := e_iadd ea118 bd66 bc_1 (by decide) (by decide)
            have qe121 : zi117.toInt = zi53.toInt + 1 := by have ha : (1 : Int32).toInt = 1 := (by decide); rw [ha] at qe120; exact qe120
            have pd122 : NSx K ln hp113 gn := NSx_fr ok106  (show Fr [32000] K hp104 hp113 from (Fr.put (cq := 32000) (Fr.rf) eh114 kd109 (cd_a (by decide)) (by decide))) (by decide) pd110
            refine p_put (ci := 3) (v := .int zi117) (ty := .int) (C := RX3) (T := TX3) (N := 7) hx hb hT iw_X3 tyX3 tyX3_ok nmX3 hown hK hw hS hW kd39 (by decide) rfl rfl 6 (by decide) (hT _ tb_503) (fun _ h9 => h9) rfl (by decide +kernel) rfl rfl dX3_add_152 (fun hp123 eh124 H locs hw hS => ?_)
            have ok125 := wr_4006 bd119 (by decide) (by decide) ok115 kd39 eh124
            have ns126 : NSx K ln hp123 gn := NSx_size pd122 eh124 kd900 (by omega) ok115
            refine lv_aload_n hx hb dX3_add_155 rfl (lv_at hl 1 rfl) ?_
            obtain ⟨qa128, eq127, kd129⟩ := rd_4005 ok125 kd39
            have ln130 := (ns126).tab kd39 eq127
            refine p_get (ci := 3) (v := .ref qa128) (C := RX3) (T := TX3) (N := 7) hx hb hT iw_X3 hown hK hw hW kd39 (by decide) rfl rfl 5 (by decide) eq127 (hT _ tb_502) (fun _ h9 => h9) dX3_add_156 ?_
            refine lv_iload hx hb dX3_add_159 (lv_at hl 0 rfl) ?_
            refine lv_aload_n hx hb dX3_add_161 rfl (lv_at hl 1 rfl) ?_
            refine p_get (ci := 3) (v := .int zi117) (C := RX3) (T := TX3) (N := 7) hx hb hT iw_X3 hown hK hw hW kd39 (by decide) rfl rfl 6 (by decide) (hp_self eh124) (hT _ tb_503) (fun _ h9 => h9) dX3_add_162 ?_
            refine p_iast (x := zi117) hx hb hK hw hS hW kd129 (by decide) rfl ln130 (vp_bv (by omega) (by omega)) dX3_add_165 (fun hp131 eh132 H locs hw hS => ?_)
            have ok133 := wr_33000 bd119 (by decide) (by decide) ok125 kd129 eh132
            have ns134 : NSx K ln hp131 gn := NSx_tab ns126 kd129 eh132 (by omega)
            rw [hQ]
            exact kgz_v (n := g0) hx hb hr hlocks hS (((K, ln, Ls, hp131), gn) : GU × Nat) hw ⟨gex, hW, ok133, (FrX.tr gfx gex (FrX.of (show Fr [4006, 28000, 29000, 30000, 31000, 32000, 33000] K hp30 hp131 from (Fr.put (cq := 33000) (Fr.put (cq := 4006) (Fr.put (cq := 32000) (Fr.put (cq := 31000) (Fr.put (cq := 30000) (Fr.put (cq := 29000) (Fr.put (cq := 28000) (Fr.rf) eh74 kd58 (cd_a (by decide)) (by decide)) eh85 kd78 (cd_a (by decide)) (by decide)) eh96 kd89 (cd_a (by decide)) (by decide)) eh105 kd100 (cd_a (by decide)) (by decide)) eh114 kd109 (cd_a (by decide)) (by decide)) eh124 kd39 (cd_o (by decide)) (by decide)) eh132 kd129 (cd_a (by decide)) (by decide)))) (by decide)), ns134, (by omega)⟩ (show (gn - g0) ≤ gn - g0 from by omega) (show (14 * (gn - g0)) ≤ 14 * (gn - g0) from by omega) (show (gn - g0) ≤ 65536 from by omega) (show (14 * (gn - g0)) ≤ 917504 from by omega) dX3_add_166
          · skip
            have tf135 : zi60.toInt ≤ zi53.toInt := (fa_le _ _).mp (Int32.not_lt.mp cn64)
            have bd136 : (256 : Int) ≤ zi53.toInt ∧ zi53.toInt ≤ 131072 := r_le_y (Int32.not_lt.mp cn64) bd63 bd54 (by decide) (by decide)
            rw [hQ]
            exact kgz_v (n := g0) hx hb hr hlocks hS (((K, ln, Ls, hp30), gn) : GU × Nat) hw ⟨gex, hW, ok31, gfx, pd34, (by omega)⟩ (show (gn - g0) ≤ gn - g0 from by omega) (show (14 * (gn - g0)) ≤ 14 * (gn - g0) from by omega) (show (gn - g0) ≤ 65536 from by omega) (show (14 * (gn - g0)) ≤ 917504 from by omega) dX3_add_85
      · skip
        refine kq_v hw hS hA (va_runV (As := []) (rest := []) ⟨hx, hb, hml, hown, hT⟩ (cX3_grow_vGM_0 l G cy ev K ln Ls hW _ hp0 ok1 qa900 gn kd900 pdNS (by omega)) (cwV 0 hT (good_V tb_1159 tb_1156 tb_1158 tb_34 tb_117) rfl rfl rfl (by decide +kernel) ⟨Nat.le_of_ble_eq_true rfl, Nat.le_of_ble_eq_true rfl⟩) (pool_preV (ci := 3) hK hE hS hA hw hW kd900 (by decide) rfl) rfl rfl hl.1 rfl (lv_room (Nat.le_of_ble_eq_true rfl)) dX3_add_56 ⟨(show 0 + 0 ≤ 65536 from by omega), (show 0 + 0 ≤ 917504 from by omega)⟩) (fun hp137 H locs hq140 hw hS => ?_)
        obtain ⟨ok138, F139⟩ := hq140
        obtain rfl : hp0 = hp137 := (Fr.nil F139).symm
        have hw : PW G cy K ln Ls A hp0 H := hw
        refine lv_aload_n hx hb dX3_add_59 rfl (lv_at hl 1 rfl) ?_
        refine lv_aload_n hx hb dX3_add_60 rfl (lv_at hl 2 rfl) ?_
        refine lv_iload hx hb dX3_add_61 (lv_at hl 5 rfl) ?_
        refine kq_i hw hS hA (va_runV (As := [.ref qa901, .int zi904]) (rest := []) ⟨hx, hb, hml, hown, hT⟩ (cX3_slotOf_0 l G cy ev K ln Ls hW _ hp0 ok1 qa900 qa901 zi904 gn kd900 kd901 pdNS) (cwV 2 hT (good_V tb_1146 tb_1143 tb_1145 tb_33 tb_117) rfl rfl rfl (by decide +kernel) ⟨Nat.le_of_ble_eq_true rfl, Nat.le_of_ble_eq_true rfl⟩) (pool_preV (ci := 3) hK hE hS hA hw hW kd900 (by decide) rfl) rfl rfl hl.1 rfl (lv_room (Nat.le_of_ble_eq_true rfl)) dX3_add_63 ⟨(show 0 + 0 ≤ 65536 from by omega), (show 0 + 0 ≤ 917504 from by omega)⟩) (fun zi146 hp142 H locs hq145 hw hS => ?_)
        obtain ⟨ok143, F144, bd147, xq148, xq149⟩ := hq145
        obtain rfl : hp0 = hp142 := (Fr.nil F144).symm
        have hw : PW G cy K ln Ls A hp0 H := hw
        refine lv_istore (lv' := [(6, .int zi146), (0, .ref qa900), (1, .ref qa901), (2, .int zi902), (3, .long wl903), (5, .int zi904)]) hx hb dX3_add_66 hl (by decide) rfl (fun ls hl => ?_)
        refine lv_iload hx hb dX3_add_68 (lv_at hl 0 rfl) ?_
        refine lv_if_lt (tgt := 85) hx hb dX3_add_70 (by decide) (fun cn150 => ?_) (fun cn150 => ?_)
        · skip
          have bd151 : (-1 : Int) ≤ zi146.toInt ∧ zi146.toInt ≤ -1 := r_lt_x cn150 bd147 bc_0 (by decide) (by decide)
          rw [hQ]
          exact kgz_v (n := g0) hx hb hr hlocks hS (((K, ln, Ls, hp0), gn) : GU × Nat) hw ⟨gex, hW, ok1, gfx, pdNS, (by omega)⟩ (show 0 ≤ gn - g0 from by omega) (show 0 ≤ 14 * (gn - g0) from by omega) (show 0 ≤ 65536 from by omega) (show 0 ≤ 917504 from by omega) dX3_add_85
        · skip
          have bd152 : (0 : Int) ≤ zi146.toInt ∧ zi146.toInt ≤ 262143 := r_le_y (Int32.not_lt.mp cn150) bc_0 bd147 (by decide) (by decide)
          refine lv_aload_n hx hb dX3_add_73 rfl (lv_at hl 1 rfl) ?_
          refine p_get (ci := 3) (v := .int zi2) (C := RX3) (T := TX3) (N := 7) hx hb hT iw_X3 hown hK hw hW kd900 (by decide) rfl rfl 6 (by decide) eq1 (hT _ tb_503) (fun _ h9 => h9) dX3_add_74 ?_
          refine lv_aload_n hx hb dX3_add_77 rfl (lv_at hl 1 rfl) ?_
          refine p_get (ci := 3) (v := .ref qa16) (C := RX3) (T := TX3) (N := 7) hx hb hT iw_X3 hown hK hw hW kd900 (by decide) rfl rfl 0 (by decide) eq15 (hT _ tb_492) (fun _ h9 => h9) dX3_add_78 ?_
          obtain ⟨zi153, ez154⟩ : ∃ z : Int32, Int32.ofNat (ln qa16) = z := ⟨_, rfl⟩
          refine p_alen (v := zi153) hx hb hK hw hW kd17 (by decide) rfl rfl ez154 dX3_add_81 ?_
          have hl155 : zi153.toInt = (gn : Nat) := by have h9 := ofNat_len ez154 (by rw [ln18]; omega); rw [ln18] at h9; exact h9
          have bd156 : (256 : Int) ≤ zi153.toInt ∧ zi153.toInt ≤ 131072 := (by omega)
          refine lv_icmp_lt (tgt := 86) hx hb dX3_add_82 (by decide) (fun cn157 => ?_) (fun cn157 => ?_)
          · skip
            have tf158 : zi2.toInt < zi153.toInt := (fa_lt _ _).mp cn157
            have bd159 : (256 : Int) ≤ zi2.toInt ∧ zi2.toInt ≤ 131071 := r_lt_x cn157 bd27 bd156 (by decide) (by decide)
            have bd160 : (257 : Int) ≤ zi153.toInt ∧ zi153.toInt ≤ 131072 := r_lt_y cn157 bd27 bd156 (by decide) (by decide)
            refine lv_aload_n hx hb dX3_add_86 rfl (lv_at hl 1 rfl) ?_
            refine p_get (ci := 3) (v := .ref qa16) (C := RX3) (T := TX3) (N := 7) hx hb hT iw_X3 hown hK hw hW kd900 (by decide) rfl rfl 0 (by decide) eq15 (hT _ tb_492) (fun _ h9 => h9) dX3_add_87 ?_
            refine lv_aload_n hx hb dX3_add_90 rfl (lv_at hl 1 rfl) ?_
            refine p_get (ci := 3) (v := .int zi2) (C := RX3) (T := TX3) (N := 7) hx hb hT iw_X3 hown hK hw hW kd900 (by decide) rfl rfl 6 (by decide) eq1 (hT _ tb_503) (fun _ h9 => h9) dX3_add_91 ?_
            refine lv_aload_n hx hb dX3_add_94 rfl (lv_at hl 2 rfl) ?_
            refine kq_i hw hS hA (va_runS (As := [.ref qa901]) (rest := [.int zi2, .ref qa16]) ⟨hx, hb, hml, hown, hT⟩ (cX3_packed_0 l G cy ev K ln Ls hW _ hp0 ok1 qa901 kd901) (va_cwS 1 hT (good_S tb_1149 tb_1147 tb_1148 tb_117) rfl rfl rfl (by decide +kernel) ⟨Nat.le_of_ble_eq_true rfl, Nat.le_of_ble_eq_true rfl⟩) (PB2.preS hK hE hS hA hw) rfl rfl hl.1 rfl (lv_room (Nat.le_of_ble_eq_true rfl)) dX3_add_95 ⟨(show 0 + 0 ≤ 65536 from by omega), (show 0 + 0 ≤ 917504 from by omega)⟩) (fun zi165 hp161 H locs hq164 hw hS => ?_)
            obtain ⟨ok162, F163, xq166⟩ := hq164
            obtain rfl : hp0 = hp161 := (Fr.nil F163).symm
            have hw : PW G cy K ln Ls A hp0 H := hw
            refine p_iast (x := zi165) hx hb hK hw hS hW kd17 (by decide) rfl ln18 (vp_bv (by omega) (by omega)) dX3_add_98 (fun hp167 eh168 H locs hw hS => ?_)
            have ok169 := wr_28000 ok1 kd17 eh168
            refine lv_aload_n hx hb dX3_add_99 rfl (lv_at hl 1 rfl) ?_
            obtain ⟨qa171, eq170, kd172⟩ := rd_4001 ok169 kd900
            have pd173 : NSx K ln hp167 gn := NSx_fr ok1  (show Fr [28000] K hp0 hp167 from (Fr.put (cq := 28000) (Fr.rf) eh168 kd17 (cd_a (by decide)) (by decide))) (by decide) pdNS
            have ln174 := (pd173).ref kd900 (by decide) eq170
            refine p_get (ci := 3) (v := .ref qa171) (C := RX3) (T := TX3) (N := 7) hx hb hT iw_X3 hown hK hw hW kd900 (by decide) rfl rfl 1 (by decide) eq170 (hT _ tb_495) (fun _ h9 => h9) dX3_add_100 ?_
            refine lv_aload_n hx hb dX3_add_103 rfl (lv_at hl 1 rfl) ?_
            have eq175 : hp167 qa900 6 = .int zi2 := Eq.trans (up_at eh168 (Or.inl (kd_ne kd900 kd17 (by decide)))) eq1
            refine p_get (ci := 3) (v := .int zi2) (C := RX3) (T := TX3) (N := 7) hx hb hT iw_X3 hown hK hw hW kd900 (by decide) rfl rfl 6 (by decide) eq175 (hT _ tb_503) (fun _ h9 => h9) dX3_add_104 ?_
            refine lv_aload_n hx hb dX3_add_107 rfl (lv_at hl 2 rfl) ?_
            obtain ⟨zi177, eq176⟩ := rd_8000 ok169 kd901
            refine p_getN (ci := 7) (v := .int zi177) (C := RX7) (T := TX7) (N := 13) hx hb hT iw_X7 hown hK hw hW kd901 (by decide) rfl rfl 0 (by decide) eq176 (hK.fl nw_308) (fun _ h9 => h9) dX3_add_108 ?_
            refine p_iast (x := zi177) hx hb hK hw hS hW kd172 (by decide) rfl ln174 (vp_bv (by omega) (by omega)) dX3_add_111 (fun hp178 eh179 H locs hw hS => ?_)
            have ok180 := wr_29000 ok169 kd172 eh179
            refine lv_aload_n hx hb dX3_add_112 rfl (lv_at hl 1 rfl) ?_
            obtain ⟨qa182, eq181, kd183⟩ := rd_4002 ok180 kd900
            have pd184 : NSx K ln hp178 gn := NSx_fr ok169  (show Fr [29000] K hp167 hp178 from (Fr.put (cq := 29000) (Fr.rf) eh179 kd172 (cd_a (by decide)) (by decide))) (by decide) pd173
            have ln185 := (pd184).ref kd900 (by decide) eq181
            refine p_get (ci := 3) (v := .ref qa182) (C := RX3) (T := TX3) (N := 7) hx hb hT iw_X3 hown hK hw hW kd900 (by decide) rfl rfl 2 (by decide) eq181 (hT _ tb_497) (fun _ h9 => h9) dX3_add_113 ?_
            refine lv_aload_n hx hb dX3_add_116 rfl (lv_at hl 1 rfl) ?_
            have eq186 : hp178 qa900 6 = .int zi2 := Eq.trans (up_at eh179 (Or.inl (kd_ne kd900 kd172 (by decide)))) eq175
            refine p_get (ci := 3) (v := .int zi2) (C := RX3) (T := TX3) (N := 7) hx hb hT iw_X3 hown hK hw hW kd900 (by decide) rfl rfl 6 (by decide) eq186 (hT _ tb_503) (fun _ h9 => h9) dX3_add_117 ?_
            refine lv_aload_n hx hb dX3_add_120 rfl (lv_at hl 2 rfl) ?_
            obtain ⟨zi188, eq187⟩ := rd_8004 ok180 kd901
            refine p_getN (ci := 7) (v := .int zi188) (C := RX7) (T := TX7) (N := 13) hx hb hT iw_X7 hown hK hw hW kd901 (by decide) rfl rfl 4 (by decide) eq187 (hK.fl nw_323) (fun _ h9 => h9) dX3_add_121 ?_
            refine p_iast (x := zi188) hx hb hK hw hS hW kd183 (by decide) rfl ln185 (vp_bv (by omega) (by omega)) dX3_add_124 (fun hp189 eh190 H locs hw hS => ?_)
            have ok191 := wr_30000 ok180 kd183 eh190
            refine lv_aload_n hx hb dX3_add_125 rfl (lv_at hl 1 rfl) ?_
            obtain ⟨qa193, eq192, kd194⟩ := rd_4003 ok191 kd900
            have pd195 : NSx K ln hp189 gn := NSx_fr ok180  (show Fr [30000] K hp178 hp189 from (Fr.put (cq := 30000) (Fr.rf) eh190 kd183 (cd_a (by decide)) (by decide))) (by decide) pd184
            have ln196 := (pd195).ref kd900 (by decide) eq192
            refine p_get (ci := 3) (v := .ref qa193) (C := RX3) (T := TX3) (N := 7) hx hb hT iw_X3 hown hK hw hW kd900 (by decide) rfl rfl 3 (by decide) eq192 (hT _ tb_498) (fun _ h9 => h9) dX3_add_126 ?_
            refine lv_aload_n hx hb dX3_add_129 rfl (lv_at hl 1 rfl) ?_
            have eq197 : hp189 qa900 6 = .int zi2 := Eq.trans (up_at eh190 (Or.inl (kd_ne kd900 kd183 (by decide)))) eq186
            refine p_get (ci := 3) (v := .int zi2) (C := RX3) (T := TX3) (N := 7) hx hb hT iw_X3 hown hK hw hW kd900 (by decide) rfl rfl 6 (by decide) eq197 (hT _ tb_503) (fun _ h9 => h9) dX3_add_130 ?_
            refine lv_iload_n hx hb dX3_add_133 rfl (lv_at hl 3 rfl) ?_
            refine p_iast (x := zi902) hx hb hK hw hS hW kd194 (by decide) rfl ln196 (vp_bv (by omega) (by omega)) dX3_add_134 (fun hp198 eh199 H locs hw hS => ?_)
            have ok200 := wr_31000 ok191 kd194 eh199
            refine lv_aload_n hx hb dX3_add_135 rfl (lv_at hl 1 rfl) ?_
            obtain ⟨qa202, eq201, kd203⟩ := rd_4004 ok200 kd900
            have pd204 : NSx K ln hp198 gn := NSx_fr ok191  (show Fr [31000] K hp189 hp198 from (Fr.put (cq := 31000) (Fr.rf) eh199 kd194 (cd_a (by decide)) (by decide))) (by decide) pd195
            have ln205 := (pd204).ref kd900 (by decide) eq201
            refine p_get (ci := 3) (v := .ref qa202) (C := RX3) (T := TX3) (N := 7) hx hb hT iw_X3 hown hK hw hW kd900 (by decide) rfl rfl 4 (by decide) eq201 (hT _ tb_500) (fun _ h9 => h9) dX3_add_136 ?_
            refine lv_aload_n hx hb dX3_add_139 rfl (lv_at hl 1 rfl) ?_
            have eq206 : hp198 qa900 6 = .int zi2 := Eq.trans (up_at eh199 (Or.inl (kd_ne kd900 kd194 (by decide)))) eq197
            refine p_get (ci := 3) (v := .int zi2) (C := RX3) (T := TX3) (N := 7) hx hb hT iw_X3 hown hK hw hW kd900 (by decide) rfl rfl 6 (by decide) eq206 (hT _ tb_503) (fun _ h9 => h9) dX3_add_140 ?_
            refine lv_lload_n hx hb dX3_add_143 rfl (lv_at hl 4 rfl) ?_
            refine p_last (x := wl903) hx hb hK hw hS hW kd203 (by decide) rfl ln205 (vp_bv (by omega) (by omega)) dX3_add_144 (fun hp207 eh208 H locs hw hS => ?_)
            have ok209 := wr_32000 ok200 kd203 eh208
            refine lv_aload_n hx hb dX3_add_145 rfl (lv_at hl 1 rfl) ?_
            refine lv_dup hx hb dX3_add_146 rfl ?_
            have eq210 : hp207 qa900 6 = .int zi2 := Eq.trans (up_at eh208 (Or.inl (kd_ne kd900 kd203 (by decide)))) eq206
            refine p_get (ci := 3) (v := .int zi2) (C := RX3) (T := TX3) (N := 7) hx hb hT iw_X3 hown hK hw hW kd900 (by decide) rfl rfl 6 (by decide) eq210 (hT _ tb_503) (fun _ h9 => h9) dX3_add_147 ?_
            refine lv_iconst (v := 1) hx hb dX3_add_150 (by decide) ?_
            refine lv_iadd hx hb dX3_add_151 (lv_topi (fun zi211 ea212 => ?_))
            have bd213 : (257 : Int) ≤ zi211.toInt ∧ zi211.toInt ≤ 131072 := b_iadd ea212 bd159 bc_1 (by decide) (by decide) (by decide) (by decide)
            have qe214 : zi211.toInt = (zi2 : Int32).toInt + (1 : Int32).toInt := e_iadd ea212 bd159 bc_1 (by decide) (by decide)
            have qe215 : zi211.toInt = zi2.toInt + 1 := by have ha : (1 : Int32).toInt = 1 := (by decide); rw [ha] at qe214; exact qe214
            have pd216 : NSx K ln hp207 gn := NSx_fr ok200  (show Fr [32000] K hp198 hp207 from (Fr.put (cq := 32000) (Fr.rf) eh208 kd203 (cd_a (by decide)) (by decide))) (by decide) pd204
            refine p_put (ci := 3) (v := .int zi211) (ty := .int) (C := RX3) (T := TX3) (N := 7) hx hb hT iw_X3 tyX3 tyX3_ok nmX3 hown hK hw hS hW kd900 (by decide) rfl rfl 6 (by decide) (hT _ tb_503) (fun _ h9 => h9) rfl (by decide +kernel) rfl rfl dX3_add_152 (fun hp217 eh218 H locs hw hS => ?_)
            have ok219 := wr_4006 bd213 (by decide) (by decide) ok209 kd900 eh218
            have ns220 : NSx K ln hp217 gn := NSx_size pd216 eh218 kd900 (by omega) ok209
            refine lv_aload_n hx hb dX3_add_155 rfl (lv_at hl 1 rfl) ?_
            obtain ⟨qa222, eq221, kd223⟩ := rd_4005 ok219 kd900
            have ln224 := (ns220).tab kd900 eq221
            refine p_get (ci := 3) (v := .ref qa222) (C := RX3) (T := TX3) (N := 7) hx hb hT iw_X3 hown hK hw hW kd900 (by decide) rfl rfl 5 (by decide) eq221 (hT _ tb_502) (fun _ h9 => h9) dX3_add_156 ?_
            refine lv_iload hx hb dX3_add_159 (lv_at hl 0 rfl) ?_
            refine lv_aload_n hx hb dX3_add_161 rfl (lv_at hl 1 rfl) ?_
            refine p_get (ci := 3) (v := .int zi211) (C := RX3) (T := TX3) (N := 7) hx hb hT iw_X3 hown hK hw hW kd900 (by decide) rfl rfl 6 (by decide) (hp_self eh218) (hT _ tb_503) (fun _ h9 => h9) dX3_add_162 ?_
            refine p_iast (x := zi211) hx hb hK hw hS hW kd223 (by decide) rfl ln224 (vp_bv (by omega) (by omega)) dX3_add_165 (fun hp225 eh226 H locs hw hS => ?_)
            have ok227 := wr_33000 bd213 (by decide) (by decide) ok219 kd223 eh226
            have ns228 : NSx K ln hp225 gn := NSx_tab ns220 kd223 eh226 (by omega)
            rw [hQ]
            exact kgz_v (n := g0) hx hb hr hlocks hS (((K, ln, Ls, hp225), gn) : GU × Nat) hw ⟨gex, hW, ok227, (FrX.tr gfx gex (FrX.of (show Fr [4006, 28000, 29000, 30000, 31000, 32000, 33000] K hp0 hp225 from (Fr.put (cq := 33000) (Fr.put (cq := 4006) (Fr.put (cq := 32000) (Fr.put (cq := 31000) (Fr.put (cq := 30000) (Fr.put (cq := 29000) (Fr.put (cq := 28000) (Fr.rf) eh168 kd17 (cd_a (by decide)) (by decide)) eh179 kd172 (cd_a (by decide)) (by decide)) eh190 kd183 (cd_a (by decide)) (by decide)) eh199 kd194 (cd_a (by decide)) (by decide)) eh208 kd203 (cd_a (by decide)) (by decide)) eh218 kd900 (cd_o (by decide)) (by decide)) eh226 kd223 (cd_a (by decide)) (by decide)))) (by decide)), ns228, (by omega)⟩ (show 0 ≤ gn - g0 from by omega) (show 0 ≤ 14 * (gn - g0) from by omega) (show 0 ≤ 65536 from by omega) (show 0 ≤ 917504 from by omega) dX3_add_166
          · skip
            have tf229 : zi153.toInt ≤ zi2.toInt := (fa_le _ _).mp (Int32.not_lt.mp cn157)
            rw [hQ]
            exact kgz_v (n := g0) hx hb hr hlocks hS (((K, ln, Ls, hp0), gn) : GU × Nat) hw ⟨gex, hW, ok1, gfx, pdNS, (by omega)⟩ (show 0 ≤ gn - g0 from by omega) (show 0 ≤ 14 * (gn - g0) from by omega) (show 0 ≤ 65536 from by omega) (show 0 ≤ 917504 from by omega) dX3_add_85
  · skip
    have bd230 : (0 : Int) ≤ zi9.toInt ∧ zi9.toInt ≤ 262143 := r_le_y (Int32.not_lt.mp cn13) bc_0 bd10 (by decide) (by decide)
    refine lv_aload_n hx hb dX3_add_14 rfl (lv_at hl 1 rfl) ?_
    obtain ⟨qa232, eq231, kd233⟩ := rd_4005 ok1 kd900
    have ln234 := (pdNS).tab kd900 eq231
    refine p_get (ci := 3) (v := .ref qa232) (C := RX3) (T := TX3) (N := 7) hx hb hT iw_X3 hown hK hw hW kd900 (by decide) rfl rfl 5 (by decide) eq231 (hT _ tb_502) (fun _ h9 => h9) dX3_add_15 ?_
    refine lv_iload hx hb dX3_add_18 (lv_at hl 0 rfl) ?_
    obtain ⟨zi236, eq235, bd237⟩ := rd_33000 ok1 kd233 ((zi9 : Int32).toNatClampNeg)
    have nz238 := (pdNS).elt kd900 eq231 (vp_bv (by omega) (by omega)) eq235
    refine p_iald (v := zi236) hx hb hK hw hW kd233 (by decide) rfl ln234 (vp_bv (by omega) (by omega)) eq235 dX3_add_20 ?_
    refine lv_if_le (tgt := 43) hx hb dX3_add_21 (by decide) (fun cn239 => ?_) (fun cn239 => ?_)
    · skip
      have bd240 : (0 : Int) ≤ zi236.toInt ∧ zi236.toInt ≤ 0 := r_le_x cn239 bd237 bc_0 (by decide) (by decide)
      refine lv_aload_n hx hb dX3_add_43 rfl (lv_at hl 1 rfl) ?_
      refine p_get (ci := 3) (v := .int zi2) (C := RX3) (T := TX3) (N := 7) hx hb hT iw_X3 hown hK hw hW kd900 (by decide) rfl rfl 6 (by decide) eq1 (hT _ tb_503) (fun _ h9 => h9) dX3_add_44 ?_
      refine lv_aload_n hx hb dX3_add_47 rfl (lv_at hl 1 rfl) ?_
      obtain ⟨qa242, eq241, kd243⟩ := rd_4000 ok1 kd900
      have ln244 := (pdNS).ref kd900 (by decide) eq241
      refine p_get (ci := 3) (v := .ref qa242) (C := RX3) (T := TX3) (N := 7) hx hb hT iw_X3 hown hK hw hW kd900 (by decide) rfl rfl 0 (by decide) eq241 (hT _ tb_492) (fun _ h9 => h9) dX3_add_48 ?_
      obtain ⟨zi245, ez246⟩ : ∃ z : Int32, Int32.ofNat (ln qa242) = z := ⟨_, rfl⟩
      refine p_alen (v := zi245) hx hb hK hw hW kd243 (by decide) rfl rfl ez246 dX3_add_51 ?_
      have hl247 : zi245.toInt = (gn : Nat) := by have h9 := ofNat_len ez246 (by rw [ln244]; omega); rw [ln244] at h9; exact h9
      have bd248 : (256 : Int) ≤ zi245.toInt ∧ zi245.toInt ≤ 131072 := (by omega)
      refine lv_icmp_lt (tgt := 68) hx hb dX3_add_52 (by decide) (fun cn249 => ?_) (fun cn249 => ?_)
      · skip
        have tf250 : zi2.toInt < zi245.toInt := (fa_lt _ _).mp cn249
        have bd251 : (0 : Int) ≤ zi2.toInt ∧ zi2.toInt ≤ 131071 := r_lt_x cn249 bd3 bd248 (by decide) (by decide)
        refine lv_iload hx hb dX3_add_68 (lv_at hl 0 rfl) ?_
        refine lv_if_lt (tgt := 85) hx hb dX3_add_70 (by decide) (fun c => absurd c (d_nlt bd230 bc_0 (by decide))) (fun _ => ?_)
        refine lv_aload_n hx hb dX3_add_73 rfl (lv_at hl 1 rfl) ?_
        refine p_get (ci := 3) (v := .int zi2) (C := RX3) (T := TX3) (N := 7) hx hb hT iw_X3 hown hK hw hW kd900 (by decide) rfl rfl 6 (by decide) eq1 (hT _ tb_503) (fun _ h9 => h9) dX3_add_74 ?_
        refine lv_aload_n hx hb dX3_add_77 rfl (lv_at hl 1 rfl) ?_
        refine p_get (ci := 3) (v := .ref qa242) (C := RX3) (T := TX3) (N := 7) hx hb hT iw_X3 hown hK hw hW kd900 (by decide) rfl rfl 0 (by decide) eq241 (hT _ tb_492) (fun _ h9 => h9) dX3_add_78 ?_
        obtain ⟨zi252, ez253⟩ : ∃ z : Int32, Int32.ofNat (ln qa242) = z := ⟨_, rfl⟩
        refine p_alen (v := zi252) hx hb hK hw hW kd243 (by decide) rfl rfl ez253 dX3_add_81 ?_
        have hl254 : zi252.toInt = (gn : Nat) := by have h9 := ofNat_len ez253 (by rw [ln244]; omega); rw [ln244] at h9; exact h9
        have bd255 : (256 : Int) ≤ zi252.toInt ∧ zi252.toInt ≤ 131072 := (by omega)
        refine lv_icmp_lt (tgt := 86) hx hb dX3_add_82 (by decide) (fun cn256 => ?_) (fun cn256 => ?_)
        · skip
          have tf257 : zi2.toInt < zi252.toInt := (fa_lt _ _).mp cn256
          refine lv_aload_n hx hb dX3_add_86 rfl (lv_at hl 1 rfl) ?_
          refine p_get (ci := 3) (v := .ref qa242) (C := RX3) (T := TX3) (N := 7) hx hb hT iw_X3 hown hK hw hW kd900 (by decide) rfl rfl 0 (by decide) eq241 (hT _ tb_492) (fun _ h9 => h9) dX3_add_87 ?_
          refine lv_aload_n hx hb dX3_add_90 rfl (lv_at hl 1 rfl) ?_
          refine p_get (ci := 3) (v := .int zi2) (C := RX3) (T := TX3) (N := 7) hx hb hT iw_X3 hown hK hw hW kd900 (by decide) rfl rfl 6 (by decide) eq1 (hT _ tb_503) (fun _ h9 => h9) dX3_add_91 ?_
          refine lv_aload_n hx hb dX3_add_94 rfl (lv_at hl 2 rfl) ?_
          refine kq_i hw hS hA (va_runS (As := [.ref qa901]) (rest := [.int zi2, .ref qa242]) ⟨hx, hb, hml, hown, hT⟩ (cX3_packed_0 l G cy ev K ln Ls hW _ hp0 ok1 qa901 kd901) (va_cwS 1 hT (good_S tb_1149 tb_1147 tb_1148 tb_117) rfl rfl rfl (by decide +kernel) ⟨Nat.le_of_ble_eq_true rfl, Nat.le_of_ble_eq_true rfl⟩) (PB2.preS hK hE hS hA hw) rfl rfl hl.1 rfl (lv_room (Nat.le_of_ble_eq_true rfl)) dX3_add_95 ⟨(show 0 + 0 ≤ 65536 from by omega), (show 0 + 0 ≤ 917504 from by omega)⟩) (fun zi262 hp258 H locs hq261 hw hS => ?_)
          obtain ⟨ok259, F260, xq263⟩ := hq261
          obtain rfl : hp0 = hp258 := (Fr.nil F260).symm
          have hw : PW G cy K ln Ls A hp0 H := hw
          refine p_iast (x := zi262) hx hb hK hw hS hW kd243 (by decide) rfl ln244 (vp_bv (by omega) (by omega)) dX3_add_98 (fun hp264 eh265 H locs hw hS => ?_)
          have ok266 := wr_28000 ok1 kd243 eh265
          refine lv_aload_n hx hb dX3_add_99 rfl (lv_at hl 1 rfl) ?_
          obtain ⟨qa268, eq267, kd269⟩ := rd_4001 ok266 kd900
          have pd270 : NSx K ln hp264 gn := NSx_fr ok1  (show Fr [28000] K hp0 hp264 from (Fr.put (cq := 28000) (Fr.rf) eh265 kd243 (cd_a (by decide)) (by decide))) (by decide) pdNS
          have ln271 := (pd270).ref kd900 (by decide) eq267
          refine p_get (ci := 3) (v := .ref qa268) (C := RX3) (T := TX3) (N := 7) hx hb hT iw_X3 hown hK hw hW kd900 (by decide) rfl rfl 1 (by decide) eq267 (hT _ tb_495) (fun _ h9 => h9) dX3_add_100 ?_
          refine lv_aload_n hx hb dX3_add_103 rfl (lv_at hl 1 rfl) ?_
          have eq272 : hp264 qa900 6 = .int zi2 := Eq.trans (up_at eh265 (Or.inl (kd_ne kd900 kd243 (by decide)))) eq1
          refine p_get (ci := 3) (v := .int zi2) (C := RX3) (T := TX3) (N := 7) hx hb hT iw_X3 hown hK hw hW kd900 (by decide) rfl rfl 6 (by decide) eq272 (hT _ tb_503) (fun _ h9 => h9) dX3_add_104 ?_
          refine lv_aload_n hx hb dX3_add_107 rfl (lv_at hl 2 rfl) ?_
          obtain ⟨zi274, eq273⟩ := rd_8000 ok266 kd901
          refine p_getN (ci := 7) (v := .int zi274) (C := RX7) (T := TX7) (N := 13) hx hb hT iw_X7 hown hK hw hW kd901 (by decide) rfl rfl 0 (by decide) eq273 (hK.fl nw_308) (fun _ h9 => h9) dX3_add_108 ?_
          refine p_iast (x := zi274) hx hb hK hw hS hW kd269 (by decide) rfl ln271 (vp_bv (by omega) (by omega)) dX3_add_111 (fun hp275 eh276 H locs hw hS => ?_)
          have ok277 := wr_29000 ok266 kd269 eh276
          refine lv_aload_n hx hb dX3_add_112 rfl (lv_at hl 1 rfl) ?_
          obtain ⟨qa279, eq278, kd280⟩ := rd_4002 ok277 kd900
          have pd281 : NSx K ln hp275 gn := NSx_fr ok266  (show Fr [29000] K hp264 hp275 from (Fr.put (cq := 29000) (Fr.rf) eh276 kd269 (cd_a (by decide)) (by decide))) (by decide) pd270
          have ln282 := (pd281).ref kd900 (by decide) eq278
          refine p_get (ci := 3) (v := .ref qa279) (C := RX3) (T := TX3) (N := 7) hx hb hT iw_X3 hown hK hw hW kd900 (by decide) rfl rfl 2 (by decide) eq278 (hT _ tb_497) (fun _ h9 => h9) dX3_add_113 ?_
          refine lv_aload_n hx hb dX3_add_116 rfl (lv_at hl 1 rfl) ?_
          have eq283 : hp275 qa900 6 = .int zi2 := Eq.trans (up_at eh276 (Or.inl (kd_ne kd900 kd269 (by decide)))) eq272
          refine p_get (ci := 3) (v := .int zi2) (C := RX3) (T := TX3) (N := 7) hx hb hT iw_X3 hown hK hw hW kd900 (by decide) rfl rfl 6 (by decide) eq283 (hT _ tb_503) (fun _ h9 => h9) dX3_add_117 ?_
          refine lv_aload_n hx hb dX3_add_120 rfl (lv_at hl 2 rfl) ?_
          obtain ⟨zi285, eq284⟩ := rd_8004 ok277 kd901
          refine p_getN (ci := 7) (v := .int zi285) (C := RX7) (T := TX7) (N := 13) hx hb hT iw_X7 hown hK hw hW kd901 (by decide) rfl rfl 4 (by decide) eq284 (hK.fl nw_323) (fun _ h9 => h9) dX3_add_121 ?_
          refine p_iast (x := zi285) hx hb hK hw hS hW kd280 (by decide) rfl ln282 (vp_bv (by omega) (by omega)) dX3_add_124 (fun hp286 eh287 H locs hw hS => ?_)
          have ok288 := wr_30000 ok277 kd280 eh287
          refine lv_aload_n hx hb dX3_add_125 rfl (lv_at hl 1 rfl) ?_
          obtain ⟨qa290, eq289, kd291⟩ := rd_4003 ok288 kd900
          have pd292 : NSx K ln hp286 gn := NSx_fr ok277  (show Fr [30000] K hp275 hp286 from (Fr.put (cq := 30000) (Fr.rf) eh287 kd280 (cd_a (by decide)) (by decide))) (by decide) pd281
          have ln293 := (pd292).ref kd900 (by decide) eq289
          refine p_get (ci := 3) (v := .ref qa290) (C := RX3) (T := TX3) (N := 7) hx hb hT iw_X3 hown hK hw hW kd900 (by decide) rfl rfl 3 (by decide) eq289 (hT _ tb_498) (fun _ h9 => h9) dX3_add_126 ?_
          refine lv_aload_n hx hb dX3_add_129 rfl (lv_at hl 1 rfl) ?_
          have eq294 : hp286 qa900 6 = .int zi2 := Eq.trans (up_at eh287 (Or.inl (kd_ne kd900 kd280 (by decide)))) eq283
          refine p_get (ci := 3) (v := .int zi2) (C := RX3) (T := TX3) (N := 7) hx hb hT iw_X3 hown hK hw hW kd900 (by decide) rfl rfl 6 (by decide) eq294 (hT _ tb_503) (fun _ h9 => h9) dX3_add_130 ?_
          refine lv_iload_n hx hb dX3_add_133 rfl (lv_at hl 3 rfl) ?_
          refine p_iast (x := zi902) hx hb hK hw hS hW kd291 (by decide) rfl ln293 (vp_bv (by omega) (by omega)) dX3_add_134 (fun hp295 eh296 H locs hw hS => ?_)
          have ok297 := wr_31000 ok288 kd291 eh296
          refine lv_aload_n hx hb dX3_add_135 rfl (lv_at hl 1 rfl) ?_
          obtain ⟨qa299, eq298, kd300⟩ := rd_4004 ok297 kd900
          have pd301 : NSx K ln hp295 gn := NSx_fr ok288  (show Fr [31000] K hp286 hp295 from (Fr.put (cq := 31000) (Fr.rf) eh296 kd291 (cd_a (by decide)) (by decide))) (by decide) pd292
          have ln302 := (pd301).ref kd900 (by decide) eq298
          refine p_get (ci := 3) (v := .ref qa299) (C := RX3) (T := TX3) (N := 7) hx hb hT iw_X3 hown hK hw hW kd900 (by decide) rfl rfl 4 (by decide) eq298 (hT _ tb_500) (fun _ h9 => h9) dX3_add_136 ?_
          refine lv_aload_n hx hb dX3_add_139 rfl (lv_at hl 1 rfl) ?_
          have eq303 : hp295 qa900 6 = .int zi2 := Eq.trans (up_at eh296 (Or.inl (kd_ne kd900 kd291 (by decide)))) eq294
          refine p_get (ci := 3) (v := .int zi2) (C := RX3) (T := TX3) (N := 7) hx hb hT iw_X3 hown hK hw hW kd900 (by decide) rfl rfl 6 (by decide) eq303 (hT _ tb_503) (fun _ h9 => h9) dX3_add_140 ?_
          refine lv_lload_n hx hb dX3_add_143 rfl (lv_at hl 4 rfl) ?_
          refine p_last (x := wl903) hx hb hK hw hS hW kd300 (by decide) rfl ln302 (vp_bv (by omega) (by omega)) dX3_add_144 (fun hp304 eh305 H locs hw hS => ?_)
          have ok306 := wr_32000 ok297 kd300 eh305
          refine lv_aload_n hx hb dX3_add_145 rfl (lv_at hl 1 rfl) ?_
          refine lv_dup hx hb dX3_add_146 rfl ?_
          have eq307 : hp304 qa900 6 = .int zi2 := Eq.trans (up_at eh305 (Or.inl (kd_ne kd900 kd300 (by decide)))) eq303
          refine p_get (ci := 3) (v := .int zi2) (C := RX3) (T := TX3) (N := 7) hx hb hT iw_X3 hown hK hw hW kd900 (by decide) rfl rfl 6 (by decide) eq307 (hT _ tb_503) (fun _ h9 => h9) dX3_add_147 ?_
          refine lv_iconst (v := 1) hx hb dX3_add_150 (by decide) ?_
          refine lv_iadd hx hb dX3_add_151 (lv_topi (fun zi308 ea309 => ?_))
          have bd310 : (1 : Int) ≤ zi308.toInt ∧ zi308.toInt ≤ 131072 := b_iadd ea309 bd251 bc_1 (by decide) (by decide) (by decide) (by decide)
          have qe311 : zi308.toInt = (zi2 : Int32).toInt + (1 : Int32).toInt := e_iadd ea309 bd251 bc_1 (by decide) (by decide)
          have qe312 : zi308.toInt = zi2.toInt + 1 := by have ha : (1 : Int32).toInt = 1 := (by decide); rw [ha] at qe311; exact qe311
          have pd313 : NSx K ln hp304 gn := NSx_fr ok297  (show Fr [32000] K hp295 hp304 from (Fr.put (cq := 32000) (Fr.rf) eh305 kd300 (cd_a (by decide)) (by decide))) (by decide) pd301
          refine p_put (ci := 3) (v := .int zi308) (ty := .int) (C := RX3) (T := TX3) (N := 7) hx hb hT iw_X3 tyX3 tyX3_ok nmX3 hown hK hw hS hW kd900 (by decide) rfl rfl 6 (by decide) (hT _ tb_503) (fun _ h9 => h9) rfl (by decide +kernel) rfl rfl dX3_add_152 (fun hp314 eh315 H locs hw hS => ?_)
          have ok316 := wr_4006 bd310 (by decide) (by decide) ok306 kd900 eh315
          have ns317 : NSx K ln hp314 gn := NSx_size pd313 eh315 kd900 (by omega) ok306
          refine lv_aload_n hx hb dX3_add_155 rfl (lv_at hl 1 rfl) ?_
          have eq318 : hp314 qa900 5 = .ref qa232 := Eq.trans (up_at eh315 (Or.inr (by decide))) (Eq.trans (up_at eh305 (Or.inl (kd_ne kd900 kd300 (by decide)))) (Eq.trans (up_at eh296 (Or.inl (kd_ne kd900 kd291 (by decide)))) (Eq.trans (up_at eh287 (Or.inl (kd_ne kd900 kd280 (by decide)))) (Eq.trans (up_at eh276 (Or.inl (kd_ne kd900 kd269 (by decide)))) (Eq.trans (up_at eh265 (Or.inl (kd_ne kd900 kd243 (by decide)))) eq231)))))
          refine p_get (ci := 3) (v := .ref qa232) (C := RX3) (T := TX3) (N := 7) hx hb hT iw_X3 hown hK hw hW kd900 (by decide) rfl rfl 5 (by decide) eq318 (hT _ tb_502) (fun _ h9 => h9) dX3_add_156 ?_
          refine lv_iload hx hb dX3_add_159 (lv_at hl 0 rfl) ?_
          refine lv_aload_n hx hb dX3_add_161 rfl (lv_at hl 1 rfl) ?_
          refine p_get (ci := 3) (v := .int zi308) (C := RX3) (T := TX3) (N := 7) hx hb hT iw_X3 hown hK hw hW kd900 (by decide) rfl rfl 6 (by decide) (hp_self eh315) (hT _ tb_503) (fun _ h9 => h9) dX3_add_162 ?_
          refine p_iast (x := zi308) hx hb hK hw hS hW kd233 (by decide) rfl ln234 (vp_bv (by omega) (by omega)) dX3_add_165 (fun hp319 eh320 H locs hw hS => ?_)
          have ok321 := wr_33000 bd310 (by decide) (by decide) ok316 kd233 eh320
          have ns322 : NSx K ln hp319 gn := NSx_tab ns317 kd233 eh320 (by omega)
          rw [hQ]
          exact kgz_v (n := g0) hx hb hr hlocks hS (((K, ln, Ls, hp319), gn) : GU × Nat) hw ⟨gex, hW, ok321, (FrX.tr gfx gex (FrX.of (show Fr [4006, 28000, 29000, 30000, 31000, 32000, 33000] K hp0 hp319 from (Fr.put (cq := 33000) (Fr.put (cq := 4006) (Fr.put (cq := 32000) (Fr.put (cq := 31000) (Fr.put (cq := 30000) (Fr.put (cq := 29000) (Fr.put (cq := 28000) (Fr.rf) eh265 kd243 (cd_a (by decide)) (by decide)) eh276 kd269 (cd_a (by decide)) (by decide)) eh287 kd280 (cd_a (by decide)) (by decide)) eh296 kd291 (cd_a (by decide)) (by decide)) eh305 kd300 (cd_a (by decide)) (by decide)) eh315 kd900 (cd_o (by decide)) (by decide)) eh320 kd233 (cd_a (by decide)) (by decide)))) (by decide)), ns322, (by omega)⟩ (show 0 ≤ gn - g0 from by omega) (show 0 ≤ 14 * (gn - g0) from by omega) (show 0 ≤ 65536 from by omega) (show 0 ≤ 917504 from by omega) dX3_add_166
        · skip
          have tf323 : zi252.toInt ≤ zi2.toInt := (fa_le _ _).mp (Int32.not_lt.mp cn256)
          have bd324 : (256 : Int) ≤ zi252.toInt ∧ zi252.toInt ≤ 131071 := r_le_x (Int32.not_lt.mp cn256) bd255 bd251 (by decide) (by decide)
          have bd325 : (256 : Int) ≤ zi2.toInt ∧ zi2.toInt ≤ 131071 := r_le_y (Int32.not_lt.mp cn256) bd255 bd251 (by decide) (by decide)
          rw [hQ]
          exact kgz_v (n := g0) hx hb hr hlocks hS (((K, ln, Ls, hp0), gn) : GU × Nat) hw ⟨gex, hW, ok1, gfx, pdNS, (by omega)⟩ (show 0 ≤ gn - g0 from by omega) (show 0 ≤ 14 * (gn - g0) from by omega) (show 0 ≤ 65536 from by omega) (show 0 ≤ 917504 from by omega) dX3_add_85
      · skip
        have tf326 : zi245.toInt ≤ zi2.toInt := (fa_le _ _).mp (Int32.not_lt.mp cn249)
        have bd327 : (256 : Int) ≤ zi2.toInt ∧ zi2.toInt ≤ 131072 := r_le_y (Int32.not_lt.mp cn249) bd248 bd3 (by decide) (by decide)
        refine lv_aload_n hx hb dX3_add_55 rfl (lv_at hl 1 rfl) ?_
        by_cases hq328 : 2 * gn ≤ 131072
        · skip
          have gf336 : FrX wsC K0 hp0 hp0 := gfx
          refine kg_v hw hS hA (va_runV (As := []) (rest := []) ⟨hx, hb, hml, hown, hT⟩ (Met.szx (cX3_grow_vGG_0 l G cy ev K ln Ls hW _ hp0 ok1 qa900 gn kd900 pdNS (by omega))) (cwV 0 hT (good_V tb_1159 tb_1156 tb_1158 tb_34 tb_117) rfl rfl rfl (by decide +kernel) ⟨Nat.le_of_ble_eq_true rfl, Nat.le_of_ble_eq_true rfl⟩) (pool_preV (ci := 3) hK hE hS hA hw hW kd900 (by decide) rfl) rfl rfl hl.1 rfl (lv_room (Nat.le_of_ble_eq_true rfl)) dX3_add_56 ⟨(show 0 + 65536 ≤ 65536 from by omega), (show 0 + 917504 ≤ 917504 from by omega)⟩) (fun u gn H locs hq329 hw hS => ?_)
          obtain ⟨K, ln, Ls, hp330⟩ := u
          obtain ⟨⟨ex332, hW, ok331, fx333, pd334, hle335⟩, gp338⟩ := hq329
          have gp338 : gn = _ := gp338
          have hw : PW G cy K ln Ls A hp330 H := hw
          have gfx : FrX wsC K0 hp0 hp330 := FrX.tr gf336 gex fx333 (by decide)
          have gex := EXx.tr gex ex332
          have kd339 := EXx.kd ex332 kd900 (by decide)
          have kd340 := EXx.kd ex332 kd901 (by decide)
          have hgn := NSx.bd pd334
          refine W.widen (k := gn - g0) (n := 14 * (gn - g0)) (by omega) (by omega) ?_
          have hga : g0 ≤ gn := by omega
          refine lv_aload_n hx hb dX3_add_59 rfl (lv_at hl 1 rfl) ?_
          refine lv_aload_n hx hb dX3_add_60 rfl (lv_at hl 2 rfl) ?_
          refine lv_iload hx hb dX3_add_61 (lv_at hl 5 rfl) ?_
          refine kq_i hw hS hA (va_runV (As := [.ref qa901, .int zi904]) (rest := []) ⟨hx, hb, hml, hown, hT⟩ (cX3_slotOf_0 l G cy ev K ln Ls hW _ hp330 ok331 qa900 qa901 zi904 gn kd339 kd340 pd334) (cwV 2 hT (good_V tb_1146 tb_1143 tb_1145 tb_33 tb_117) rfl rfl rfl (by decide +kernel) ⟨Nat.le_of_ble_eq_true rfl, Nat.le_of_ble_eq_true rfl⟩) (pool_preV (ci := 3) hK hE hS hA hw hW kd339 (by decide) rfl) rfl rfl hl.1 rfl (lv_room (Nat.le_of_ble_eq_true rfl)) dX3_add_63 ⟨(show (gn - g0) + 0 ≤ 65536 from by omega), (show (14 * (gn - g0)) + 0 ≤ 917504 from by omega)⟩) (fun zi345 hp341 H locs hq344 hw hS => ?_)
          obtain ⟨ok342, F343, bd346, xq347, xq348⟩ := hq344
          obtain rfl : hp330 = hp341 := (Fr.nil F343).symm
          have hw : PW G cy K ln Ls A hp330 H := hw
          refine lv_istore (lv' := [(6, .int zi345), (0, .ref qa900), (1, .ref qa901), (2, .int zi902), (3, .long wl903), (5, .int zi904)]) hx hb dX3_add_66 hl (by decide) rfl (fun ls hl => ?_)
          refine lv_iload hx hb dX3_add_68 (lv_at hl 0 rfl) ?_
          refine lv_if_lt (tgt := 85) hx hb dX3_add_70 (by decide) (fun cn349 => ?_) (fun cn349 => ?_)
          · skip
            have bd350 : (-1 : Int) ≤ zi345.toInt ∧ zi345.toInt ≤ -1 := r_lt_x cn349 bd346 bc_0 (by decide) (by decide)
            rw [hQ]
            exact kgz_v (n := g0) hx hb hr hlocks hS (((K, ln, Ls, hp330), gn) : GU × Nat) hw ⟨gex, hW, ok331, gfx, pd334, (by omega)⟩ (show (gn - g0) ≤ gn - g0 from by omega) (show (14 * (gn - g0)) ≤ 14 * (gn - g0) from by omega) (show (gn - g0) ≤ 65536 from by omega) (show (14 * (gn - g0)) ≤ 917504 from by omega) dX3_add_85
          · skip
            have bd351 : (0 : Int) ≤ zi345.toInt ∧ zi345.toInt ≤ 262143 := r_le_y (Int32.not_lt.mp cn349) bc_0 bd346 (by decide) (by decide)
            refine lv_aload_n hx hb dX3_add_73 rfl (lv_at hl 1 rfl) ?_
            obtain ⟨zi353, eq352, bd354⟩ := rd_4006 ok331 kd339
            have nz355 := (pd334).sz kd339 eq352
            refine p_get (ci := 3) (v := .int zi353) (C := RX3) (T := TX3) (N := 7) hx hb hT iw_X3 hown hK hw hW kd339 (by decide) rfl rfl 6 (by decide) eq352 (hT _ tb_503) (fun _ h9 => h9) dX3_add_74 ?_
            refine lv_aload_n hx hb dX3_add_77 rfl (lv_at hl 1 rfl) ?_
            obtain ⟨qa357, eq356, kd358⟩ := rd_4000 ok331 kd339
            have ln359 := (pd334).ref kd339 (by decide) eq356
            refine p_get (ci := 3) (v := .ref qa357) (C := RX3) (T := TX3) (N := 7) hx hb hT iw_X3 hown hK hw hW kd339 (by decide) rfl rfl 0 (by decide) eq356 (hT _ tb_492) (fun _ h9 => h9) dX3_add_78 ?_
            obtain ⟨zi360, ez361⟩ : ∃ z : Int32, Int32.ofNat (ln qa357) = z := ⟨_, rfl⟩
            refine p_alen (v := zi360) hx hb hK hw hW kd358 (by decide) rfl rfl ez361 dX3_add_81 ?_
            have hl362 : zi360.toInt = (gn : Nat) := by have h9 := ofNat_len ez361 (by rw [ln359]; omega); rw [ln359] at h9; exact h9
            have bd363 : (256 : Int) ≤ zi360.toInt ∧ zi360.toInt ≤ 131072 := (by omega)
            refine lv_icmp_lt (tgt := 86) hx hb dX3_add_82 (by decide) (fun cn364 => ?_) (fun cn364 => ?_)
            · skip
              have tf365 : zi353.toInt < zi360.toInt := (fa_lt _ _).mp cn364
              have bd366 : (0 : Int) ≤ zi353.toInt ∧ zi353.toInt ≤ 131071 := r_lt_x cn364 bd354 bd363 (by decide) (by decide)
              refine lv_aload_n hx hb dX3_add_86 rfl (lv_at hl 1 rfl) ?_
              refine p_get (ci := 3) (v := .ref qa357) (C := RX3) (T := TX3) (N := 7) hx hb hT iw_X3 hown hK hw hW kd339 (by decide) rfl rfl 0 (by decide) eq356 (hT _ tb_492) (fun _ h9 => h9) dX3_add_87 ?_
              refine lv_aload_n hx hb dX3_add_90 rfl (lv_at hl 1 rfl) ?_
              refine p_get (ci := 3) (v := .int zi353) (C := RX3) (T := TX3) (N := 7) hx hb hT iw_X3 hown hK hw hW kd339 (by decide) rfl rfl 6 (by decide) eq352 (hT _ tb_503) (fun _ h9 => h9) dX3_add_91 ?_
              refine lv_aload_n hx hb dX3_add_94 rfl (lv_at hl 2 rfl) ?_
              refine kq_i hw hS hA (va_runS (As := [.ref qa901]) (rest := [.int zi353, .ref qa357]) ⟨hx, hb, hml, hown, hT⟩ (cX3_packed_0 l G cy ev K ln Ls hW _ hp330 ok331 qa901 kd340) (va_cwS 1 hT (good_S tb_1149 tb_1147 tb_1148 tb_117) rfl rfl rfl (by decide +kernel) ⟨Nat.le_of_ble_eq_true rfl, Nat.le_of_ble_eq_true rfl⟩) (PB2.preS hK hE hS hA hw) rfl rfl hl.1 rfl (lv_room (Nat.le_of_ble_eq_true rfl)) dX3_add_95 ⟨(show (gn - g0) + 0 ≤ 65536 from by omega), (show (14 * (gn - g0)) + 0 ≤ 917504 from by omega)⟩) (fun zi371 hp367 H locs hq370 hw hS => ?_)
              obtain ⟨ok368, F369, xq372⟩ := hq370
              obtain rfl : hp330 = hp367 := (Fr.nil F369).symm
              have hw : PW G cy K ln Ls A hp330 H := hw
              refine p_iast (x := zi371) hx hb hK hw hS hW kd358 (by decide) rfl ln359 (vp_bv (by omega) (by omega)) dX3_add_98 (fun hp373 eh374 H locs hw hS => ?_)
              have ok375 := wr_28000 ok331 kd358 eh374
              refine lv_aload_n hx hb dX3_add_99 rfl (lv_at hl 1 rfl) ?_
              obtain ⟨qa377, eq376, kd378⟩ := rd_4001 ok375 kd339
              have pd379 : NSx K ln hp373 gn := NSx_fr ok331  (show Fr [28000] K hp330 hp373 from (Fr.put (cq := 28000) (Fr.rf) eh374 kd358 (cd_a (by decide)) (by decide))) (by decide) pd334
              have ln380 := (pd379).ref kd339 (by decide) eq376
              refine p_get (ci := 3) (v := .ref qa377) (C := RX3) (T := TX3) (N := 7) hx hb hT iw_X3 hown hK hw hW kd339 (by decide) rfl rfl 1 (by decide) eq376 (hT _ tb_495) (fun _ h9 => h9) dX3_add_100 ?_
              refine lv_aload_n hx hb dX3_add_103 rfl (lv_at hl 1 rfl) ?_
              have eq381 : hp373 qa900 6 = .int zi353 := Eq.trans (up_at eh374 (Or.inl (kd_ne kd339 kd358 (by decide)))) eq352
              refine p_get (ci := 3) (v := .int zi353) (C := RX3) (T := TX3) (N := 7) hx hb hT iw_X3 hown hK hw hW kd339 (by decide) rfl rfl 6 (by decide) eq381 (hT _ tb_503) (fun _ h9 => h9) dX3_add_104 ?_
              refine lv_aload_n hx hb dX3_add_107 rfl (lv_at hl 2 rfl) ?_
              obtain ⟨zi383, eq382⟩ := rd_8000 ok375 kd340
              refine p_getN (ci := 7) (v := .int zi383) (C := RX7) (T := TX7) (N := 13) hx hb hT iw_X7 hown hK hw hW kd340 (by decide) rfl rfl 0 (by decide) eq382 (hK.fl nw_308) (fun _ h9 => h9) dX3_add_108 ?_
              refine p_iast (x := zi383) hx hb hK hw hS hW kd378 (by decide) rfl ln380 (vp_bv (by omega) (by omega)) dX3_add_111 (fun hp384 eh385 H locs hw hS => ?_)
              have ok386 := wr_29000 ok375 kd378 eh385
              refine lv_aload_n hx hb dX3_add_112 rfl (lv_at hl 1 rfl) ?_
              obtain ⟨qa388, eq387, kd389⟩ := rd_4002 ok386 kd339
              have pd390 : NSx K ln hp384 gn := NSx_fr ok375  (show Fr [29000] K hp373 hp384 from (Fr.put (cq := 29000) (Fr.rf) eh385 kd378 (cd_a (by decide)) (by decide))) (by decide) pd379
              have ln391 := (pd390).ref kd339 (by decide) eq387
              refine p_get (ci := 3) (v := .ref qa388) (C := RX3) (T := TX3) (N := 7) hx hb hT iw_X3 hown hK hw hW kd339 (by decide) rfl rfl 2 (by decide) eq387 (hT _ tb_497) (fun _ h9 => h9) dX3_add_113 ?_
              refine lv_aload_n hx hb dX3_add_116 rfl (lv_at hl 1 rfl) ?_
              have eq392 : hp384 qa900 6 = .int zi353 := Eq.trans (up_at eh385 (Or.inl (kd_ne kd339 kd378 (by decide)))) eq381
              refine p_get (ci := 3) (v := .int zi353) (C := RX3) (T := TX3) (N := 7) hx hb hT iw_X3 hown hK hw hW kd339 (by decide) rfl rfl 6 (by decide) eq392 (hT _ tb_503) (fun _ h9 => h9) dX3_add_117 ?_
              refine lv_aload_n hx hb dX3_add_120 rfl (lv_at hl 2 rfl) ?_
              obtain ⟨zi394, eq393⟩ := rd_8004 ok386 kd340
              refine p_getN (ci := 7) (v := .int zi394) (C := RX7) (T := TX7) (N := 13) hx hb hT iw_X7 hown hK hw hW kd340 (by decide) rfl rfl 4 (by decide) eq393 (hK.fl nw_323) (fun _ h9 => h9) dX3_add_121 ?_
              refine p_iast (x := zi394) hx hb hK hw hS hW kd389 (by decide) rfl ln391 (vp_bv (by omega) (by omega)) dX3_add_124 (fun hp395 eh396 H locs hw hS => ?_)
              have ok397 := wr_30000 ok386 kd389 eh396
              refine lv_aload_n hx hb dX3_add_125 rfl (lv_at hl 1 rfl) ?_
              obtain ⟨qa399, eq398, kd400⟩ := rd_4003 ok397 kd339
              have pd401 : NSx K ln hp395 gn := NSx_fr ok386  (show Fr [30000] K hp384 hp395 from (Fr.put (cq := 30000) (Fr.rf) eh396 kd389 (cd_a (by decide)) (by decide))) (by decide) pd390
              have ln402 := (pd401).ref kd339 (by decide) eq398
              refine p_get (ci := 3) (v := .ref qa399) (C := RX3) (T := TX3) (N := 7) hx hb hT iw_X3 hown hK hw hW kd339 (by decide) rfl rfl 3 (by decide) eq398 (hT _ tb_498) (fun _ h9 => h9) dX3_add_126 ?_
              refine lv_aload_n hx hb dX3_add_129 rfl (lv_at hl 1 rfl) ?_
              have eq403 : hp395 qa900 6 = .int zi353 := Eq.trans (up_at eh396 (Or.inl (kd_ne kd339 kd389 (by decide)))) eq392
              refine p_get (ci := 3) (v := .int zi353) (C := RX3) (T := TX3) (N := 7) hx hb hT iw_X3 hown hK hw hW kd339 (by decide) rfl rfl 6 (by decide) eq403 (hT _ tb_503) (fun _ h9 => h9) dX3_add_130 ?_
              refine lv_iload_n hx hb dX3_add_133 rfl (lv_at hl 3 rfl) ?_
              refine p_iast (x := zi902) hx hb hK hw hS hW kd400 (by decide) rfl ln402 (vp_bv (by omega) (by omega)) dX3_add_134 (fun hp404 eh405 H locs hw hS => ?_)
              have ok406 := wr_31000 ok397 kd400 eh405
              refine lv_aload_n hx hb dX3_add_135 rfl (lv_at hl 1 rfl) ?_
              obtain ⟨qa408, eq407, kd409⟩ := rd_4004 ok406 kd339
              have pd410 : NSx K ln hp404 gn := NSx_fr ok397  (show Fr [31000] K hp395 hp404 from (Fr.put (cq := 31000) (Fr.rf) eh405 kd400 (cd_a (by decide)) (by decide))) (by decide) pd401
              have ln411 := (pd410).ref kd339 (by decide) eq407
              refine p_get (ci := 3) (v := .ref qa408) (C := RX3) (T := TX3) (N := 7) hx hb hT iw_X3 hown hK hw hW kd339 (by decide) rfl rfl 4 (by decide) eq407 (hT _ tb_500) (fun _ h9 => h9) dX3_add_136 ?_
              refine lv_aload_n hx hb dX3_add_139 rfl (lv_at hl 1 rfl) ?_
              have eq412 : hp404 qa900 6 = .int zi353 := Eq.trans (up_at eh405 (Or.inl (kd_ne kd339 kd400 (by decide)))) eq403
              refine p_get (ci := 3) (v := .int zi353) (C := RX3) (T := TX3) (N := 7) hx hb hT iw_X3 hown hK hw hW kd339 (by decide) rfl rfl 6 (by decide) eq412 (hT _ tb_503) (fun _ h9 => h9) dX3_add_140 ?_
              refine lv_lload_n hx hb dX3_add_143 rfl (lv_at hl 4 rfl) ?_
              refine p_last (x := wl903) hx hb hK hw hS hW kd409 (by decide) rfl ln411 (vp_bv (by omega) (by omega)) dX3_add_144 (fun hp413 eh414 H locs hw hS => ?_)
              have ok415 := wr_32000 ok406 kd409 eh414
              refine lv_aload_n hx hb dX3_add_145 rfl (lv_at hl 1 rfl) ?_
              refine lv_dup hx hb dX3_add_146 rfl ?_
              have eq416 : hp413 qa900 6 = .int zi353 := Eq.trans (up_at eh414 (Or.inl (kd_ne kd339 kd409 (by decide)))) eq412
              refine p_get (ci := 3) (v := .int zi353) (C := RX3) (T := TX3) (N := 7) hx hb hT iw_X3 hown hK hw hW kd339 (by decide) rfl rfl 6 (by decide) eq416 (hT _ tb_503) (fun _ h9 => h9) dX3_add_147 ?_
              refine lv_iconst (v := 1) hx hb dX3_add_150 (by decide) ?_
              refine lv_iadd hx hb dX3_add_151 (lv_topi (fun zi417 ea418 => ?_))
              have bd419 : (1 : Int) ≤ zi417.toInt ∧ zi417.toInt ≤ 131072 := b_iadd ea418 bd366 bc_1 (by decide) (by decide) (by decide) (by decide)
              have qe420 : zi417.toInt = (zi353 : Int32).toInt + (1 : Int32).toInt := e_iadd ea418 bd366 bc_1 (by decide) (by decide)
              have qe421 : zi417.toInt = zi353.toInt + 1 := by have ha : (1 : Int32).toInt = 1 := (by decide); rw [ha] at qe420; exact qe420
              have pd422 : NSx K ln hp413 gn := NSx_fr ok406  (show Fr [32000] K hp404 hp413 from (Fr.put (cq := 32000) (Fr.rf) eh414 kd409 (cd_a (by decide)) (by decide))) (by decide) pd410
              refine p_put (ci := 3) (v := .int zi417) (ty := .int) (C := RX3) (T := TX3) (N := 7) hx hb hT iw_X3 tyX3 tyX3_ok nmX3 hown hK hw hS hW kd339 (by decide) rfl rfl 6 (by decide) (hT _ tb_503) (fun _ h9 => h9) rfl (by decide +kernel) rfl rfl dX3_add_152 (fun hp423 eh424 H locs hw hS => ?_)
              have ok425 := wr_4006 bd419 (by decide) (by decide) ok415 kd339 eh424
              have ns426 : NSx K ln hp423 gn := NSx_size pd422 eh424 kd900 (by omega) ok415
              refine lv_aload_n hx hb dX3_add_155 rfl (lv_at hl 1 rfl) ?_
              obtain ⟨qa428, eq427, kd429⟩ := rd_4005 ok425 kd339
              have ln430 := (ns426).tab kd339 eq427
              refine p_get (ci := 3) (v := .ref qa428) (C := RX3) (T := TX3) (N := 7) hx hb hT iw_X3 hown hK hw hW kd339 (by decide) rfl rfl 5 (by decide) eq427 (hT _ tb_502) (fun _ h9 => h9) dX3_add_156 ?_
              refine lv_iload hx hb dX3_add_159 (lv_at hl 0 rfl) ?_
              refine lv_aload_n hx hb dX3_add_161 rfl (lv_at hl 1 rfl) ?_
              refine p_get (ci := 3) (v := .int zi417) (C := RX3) (T := TX3) (N := 7) hx hb hT iw_X3 hown hK hw hW kd339 (by decide) rfl rfl 6 (by decide) (hp_self eh424) (hT _ tb_503) (fun _ h9 => h9) dX3_add_162 ?_
              refine p_iast (x := zi417) hx hb hK hw hS hW kd429 (by decide) rfl ln430 (vp_bv (by omega) (by omega)) dX3_add_165 (fun hp431 eh432 H locs hw hS => ?_)
              have ok433 := wr_33000 bd419 (by decide) (by decide) ok425 kd429 eh432
              have ns434 : NSx K ln hp431 gn := NSx_tab ns426 kd429 eh432 (by omega)
              rw [hQ]
              exact kgz_v (n := g0) hx hb hr hlocks hS (((K, ln, Ls, hp431), gn) : GU × Nat) hw ⟨gex, hW, ok433, (FrX.tr gfx gex (FrX.of (show Fr [4006, 28000, 29000, 30000, 31000, 32000, 33000] K hp330 hp431 from (Fr.put (cq := 33000) (Fr.put (cq := 4006) (Fr.put (cq := 32000) (Fr.put (cq := 31000) (Fr.put (cq := 30000) (Fr.put (cq := 29000) (Fr.put (cq := 28000) (Fr.rf) eh374 kd358 (cd_a (by decide)) (by decide)) eh385 kd378 (cd_a (by decide)) (by decide)) eh396 kd389 (cd_a (by decide)) (by decide)) eh405 kd400 (cd_a (by decide)) (by decide)) eh414 kd409 (cd_a (by decide)) (by decide)) eh424 kd339 (cd_o (by decide)) (by decide)) eh432 kd429 (cd_a (by decide)) (by decide)))) (by decide)), ns434, (by omega)⟩ (show (gn - g0) ≤ gn - g0 from by omega) (show (14 * (gn - g0)) ≤ 14 * (gn - g0) from by omega) (show (gn - g0) ≤ 65536 from by omega) (show (14 * (gn - g0)) ≤ 917504 from by omega) dX3_add_166
            · skip
              have tf435 : zi360.toInt ≤ zi353.toInt := (fa_le _ _).mp (Int32.not_lt.mp cn364)
              have bd436 : (256 : Int) ≤ zi353.toInt ∧ zi353.toInt ≤ 131072 := r_le_y (Int32.not_lt.mp cn364) bd363 bd354 (by decide) (by decide)
              rw [hQ]
              exact kgz_v (n := g0) hx hb hr hlocks hS (((K, ln, Ls, hp330), gn) : GU × Nat) hw ⟨gex, hW, ok331, gfx, pd334, (by omega)⟩ (show (gn - g0) ≤ gn - g0 from by omega) (show (14 * (gn - g0)) ≤ 14 * (gn - g0) from by omega) (show (gn - g0) ≤ 65536 from by omega) (show (14 * (gn - g0)) ≤ 917504 from by omega) dX3_add_85
        · skip
          refine kq_v hw hS hA (va_runV (As := []) (rest := []) ⟨hx, hb, hml, hown, hT⟩ (cX3_grow_vGM_0 l G cy ev K ln Ls hW _ hp0 ok1 qa900 gn kd900 pdNS (by omega)) (cwV 0 hT (good_V tb_1159 tb_1156 tb_1158 tb_34 tb_117) rfl rfl rfl (by decide +kernel) ⟨Nat.le_of_ble_eq_true rfl, Nat.le_of_ble_eq_true rfl⟩) (pool_preV (ci := 3) hK hE hS hA hw hW kd900 (by decide) rfl) rfl rfl hl.1 rfl (lv_room (Nat.le_of_ble_eq_true rfl)) dX3_add_56 ⟨(show 0 + 0 ≤ 65536 from by omega), (show 0 + 0 ≤ 917504 from by omega)⟩) (fun hp437 H locs hq440 hw hS => ?_)
          obtain ⟨ok438, F439⟩ := hq440
          obtain rfl : hp0 = hp437 := (Fr.nil F439).symm
          have hw : PW G cy K ln Ls A hp0 H := hw
          refine lv_aload_n hx hb dX3_add_59 rfl (lv_at hl 1 rfl) ?_
          refine lv_aload_n hx hb dX3_add_60 rfl (lv_at hl 2 rfl) ?_
          refine lv_iload hx hb dX3_add_61 (lv_at hl 5 rfl) ?_
          refine kq_i hw hS hA (va_runV (As := [.ref qa901, .int zi904]) (rest := []) ⟨hx, hb, hml, hown, hT⟩ (cX3_slotOf_0 l G cy ev K ln Ls hW _ hp0 ok1 qa900 qa901 zi904 gn kd900 kd901 pdNS) (cwV 2 hT (good_V tb_1146 tb_1143 tb_1145 tb_33 tb_117) rfl rfl rfl (by decide +kernel) ⟨Nat.le_of_ble_eq_true rfl, Nat.le_of_ble_eq_true rfl⟩) (pool_preV (ci := 3) hK hE hS hA hw hW kd900 (by decide) rfl) rfl rfl hl.1 rfl (lv_room (Nat.le_of_ble_eq_true rfl)) dX3_add_63 ⟨(show 0 + 0 ≤ 65536 from by omega), (show 0 + 0 ≤ 917504 from by omega)⟩) (fun zi446 hp442 H locs hq445 hw hS => ?_)
          obtain ⟨ok443, F444, bd447, xq448, xq449⟩ := hq445
          obtain rfl : hp0 = hp442 := (Fr.nil F444).symm
          have hw : PW G cy K ln Ls A hp0 H := hw
          refine lv_istore (lv' := [(6, .int zi446), (0, .ref qa900), (1, .ref qa901), (2, .int zi902), (3, .long wl903), (5, .int zi904)]) hx hb dX3_add_66 hl (by decide) rfl (fun ls hl => ?_)
          refine lv_iload hx hb dX3_add_68 (lv_at hl 0 rfl) ?_
          refine lv_if_lt (tgt := 85) hx hb dX3_add_70 (by decide) (fun cn450 => ?_) (fun cn450 => ?_)
          · skip
            have bd451 : (-1 : Int) ≤ zi446.toInt ∧ zi446.toInt ≤ -1 := r_lt_x cn450 bd447 bc_0 (by decide) (by decide)
            rw [hQ]
            exact kgz_v (n := g0) hx hb hr hlocks hS (((K, ln, Ls, hp0), gn) : GU × Nat) hw ⟨gex, hW, ok1, gfx, pdNS, (by omega)⟩ (show 0 ≤ gn - g0 from by omega) (show 0 ≤ 14 * (gn - g0) from by omega) (show 0 ≤ 65536 from by omega) (show 0 ≤ 917504 from by omega) dX3_add_85
          · skip
            have bd452 : (0 : Int) ≤ zi446.toInt ∧ zi446.toInt ≤ 262143 := r_le_y (Int32.not_lt.mp cn450) bc_0 bd447 (by decide) (by decide)
            refine lv_aload_n hx hb dX3_add_73 rfl (lv_at hl 1 rfl) ?_
            refine p_get (ci := 3) (v := .int zi2) (C := RX3) (T := TX3) (N := 7) hx hb hT iw_X3 hown hK hw hW kd900 (by decide) rfl rfl 6 (by decide) eq1 (hT _ tb_503) (fun _ h9 => h9) dX3_add_74 ?_
            refine lv_aload_n hx hb dX3_add_77 rfl (lv_at hl 1 rfl) ?_
            refine p_get (ci := 3) (v := .ref qa242) (C := RX3) (T := TX3) (N := 7) hx hb hT iw_X3 hown hK hw hW kd900 (by decide) rfl rfl 0 (by decide) eq241 (hT _ tb_492) (fun _ h9 => h9) dX3_add_78 ?_
            obtain ⟨zi453, ez454⟩ : ∃ z : Int32, Int32.ofNat (ln qa242) = z := ⟨_, rfl⟩
            refine p_alen (v := zi453) hx hb hK hw hW kd243 (by decide) rfl rfl ez454 dX3_add_81 ?_
            have hl455 : zi453.toInt = (gn : Nat) := by have h9 := ofNat_len ez454 (by rw [ln244]; omega); rw [ln244] at h9; exact h9
            have bd456 : (256 : Int) ≤ zi453.toInt ∧ zi453.toInt ≤ 131072 := (by omega)
            refine lv_icmp_lt (tgt := 86) hx hb dX3_add_82 (by decide) (fun cn457 => ?_) (fun cn457 => ?_)
            · skip
              have tf458 : zi2.toInt < zi453.toInt := (fa_lt _ _).mp cn457
              have bd459 : (256 : Int) ≤ zi2.toInt ∧ zi2.toInt ≤ 131071 := r_lt_x cn457 bd327 bd456 (by decide) (by decide)
              have bd460 : (257 : Int) ≤ zi453.toInt ∧ zi453.toInt ≤ 131072 := r_lt_y cn457 bd327 bd456 (by decide) (by decide)
              refine lv_aload_n hx hb dX3_add_86 rfl (lv_at hl 1 rfl) ?_
              refine p_get (ci := 3) (v := .ref qa242) (C := RX3) (T := TX3) (N := 7) hx hb hT iw_X3 hown hK hw hW kd900 (by decide) rfl rfl 0 (by decide) eq241 (hT _ tb_492) (fun _ h9 => h9) dX3_add_87 ?_
              refine lv_aload_n hx hb dX3_add_90 rfl (lv_at hl 1 rfl) ?_
              refine p_get (ci := 3) (v := .int zi2) (C := RX3) (T := TX3) (N := 7) hx hb hT iw_X3 hown hK hw hW kd900 (by decide) rfl rfl 6 (by decide) eq1 (hT _ tb_503) (fun _ h9 => h9) dX3_add_91 ?_
              refine lv_aload_n hx hb dX3_add_94 rfl (lv_at hl 2 rfl) ?_
              refine kq_i hw hS hA (va_runS (As := [.ref qa901]) (rest := [.int zi2, .ref qa242]) ⟨hx, hb, hml, hown, hT⟩ (cX3_packed_0 l G cy ev K ln Ls hW _ hp0 ok1 qa901 kd901) (va_cwS 1 hT (good_S tb_1149 tb_1147 tb_1148 tb_117) rfl rfl rfl (by decide +kernel) ⟨Nat.le_of_ble_eq_true rfl, Nat.le_of_ble_eq_true rfl⟩) (PB2.preS hK hE hS hA hw) rfl rfl hl.1 rfl (lv_room (Nat.le_of_ble_eq_true rfl)) dX3_add_95 ⟨(show 0 + 0 ≤ 65536 from by omega), (show 0 + 0 ≤ 917504 from by omega)⟩) (fun zi465 hp461 H locs hq464 hw hS => ?_)
              obtain ⟨ok462, F463, xq466⟩ := hq464
              obtain rfl : hp0 = hp461 := (Fr.nil F463).symm
              have hw : PW G cy K ln Ls A hp0 H := hw
              refine p_iast (x := zi465) hx hb hK hw hS hW kd243 (by decide) rfl ln244 (vp_bv (by omega) (by omega)) dX3_add_98 (fun hp467 eh468 H locs hw hS => ?_)
              have ok469 := wr_28000 ok1 kd243 eh468
              refine lv_aload_n hx hb dX3_add_99 rfl (lv_at hl 1 rfl) ?_
              obtain ⟨qa471, eq470, kd472⟩ := rd_4001 ok469 kd900
              have pd473 : NSx K ln hp467 gn := NSx_fr ok1  (show Fr [28000] K hp0 hp467 from (Fr.put (cq := 28000) (Fr.rf) eh468 kd243 (cd_a (by decide)) (by decide))) (by decide) pdNS
              have ln474 := (pd473).ref kd900 (by decide) eq470
              refine p_get (ci := 3) (v := .ref qa471) (C := RX3) (T := TX3) (N := 7) hx hb hT iw_X3 hown hK hw hW kd900 (by decide) rfl rfl 1 (by decide) eq470 (hT _ tb_495) (fun _ h9 => h9) dX3_add_100 ?_
              refine lv_aload_n hx hb dX3_add_103 rfl (lv_at hl 1 rfl) ?_
              have eq475 : hp467 qa900 6 = .int zi2 := Eq.trans (up_at eh468 (Or.inl (kd_ne kd900 kd243 (by decide)))) eq1
              refine p_get (ci := 3) (v := .int zi2) (C := RX3) (T := TX3) (N := 7) hx hb hT iw_X3 hown hK hw hW kd900 (by decide) rfl rfl 6 (by decide) eq475 (hT _ tb_503) (fun _ h9 => h9) dX3_add_104 ?_
              refine lv_aload_n hx hb dX3_add_107 rfl (lv_at hl 2 rfl) ?_
              obtain ⟨zi477, eq476⟩ := rd_8000 ok469 kd901
              refine p_getN (ci := 7) (v := .int zi477) (C := RX7) (T := TX7) (N := 13) hx hb hT iw_X7 hown hK hw hW kd901 (by decide) rfl rfl 0 (by decide) eq476 (hK.fl nw_308) (fun _ h9 => h9) dX3_add_108 ?_
              refine p_iast (x := zi477) hx hb hK hw hS hW kd472 (by decide) rfl ln474 (vp_bv (by omega) (by omega)) dX3_add_111 (fun hp478 eh479 H locs hw hS => ?_)
              have ok480 := wr_29000 ok469 kd472 eh479
              refine lv_aload_n hx hb dX3_add_112 rfl (lv_at hl 1 rfl) ?_
              obtain ⟨qa482, eq481, kd483⟩ := rd_4002 ok480 kd900
              have pd484 : NSx K ln hp478 gn := NSx_fr ok469  (show Fr [29000] K hp467 hp478 from (Fr.put (cq := 29000) (Fr.rf) eh479 kd472 (cd_a (by decide)) (by decide))) (by decide) pd473
              have ln485 := (pd484).ref kd900 (by decide) eq481
              refine p_get (ci := 3) (v := .ref qa482) (C := RX3) (T := TX3) (N := 7) hx hb hT iw_X3 hown hK hw hW kd900 (by decide) rfl rfl 2 (by decide) eq481 (hT _ tb_497) (fun _ h9 => h9) dX3_add_113 ?_
              refine lv_aload_n hx hb dX3_add_116 rfl (lv_at hl 1 rfl) ?_
              have eq486 : hp478 qa900 6 = .int zi2 := Eq.trans (up_at eh479 (Or.inl (kd_ne kd900 kd472 (by decide)))) eq475
              refine p_get (ci := 3) (v := .int zi2) (C := RX3) (T := TX3) (N := 7) hx hb hT iw_X3 hown hK hw hW kd900 (by decide) rfl rfl 6 (by decide) eq486 (hT _ tb_503) (fun _ h9 => h9) dX3_add_117 ?_
              refine lv_aload_n hx hb dX3_add_120 rfl (lv_at hl 2 rfl) ?_
              obtain ⟨zi488, eq487⟩ := rd_8004 ok480 kd901
              refine p_getN (ci := 7) (v := .int zi488) (C := RX7) (T := TX7) (N := 13) hx hb hT iw_X7 hown hK hw hW kd901 (by decide) rfl rfl 4 (by decide) eq487 (hK.fl nw_323) (fun _ h9 => h9) dX3_add_121 ?_
              refine p_iast (x := zi488) hx hb hK hw hS hW kd483 (by decide) rfl ln485 (vp_bv (by omega) (by omega)) dX3_add_124 (fun hp489 eh490 H locs hw hS => ?_)
              have ok491 := wr_30000 ok480 kd483 eh490
              refine lv_aload_n hx hb dX3_add_125 rfl (lv_at hl 1 rfl) ?_
              obtain ⟨qa493, eq492, kd494⟩ := rd_4003 ok491 kd900
              have pd495 : NSx K ln hp489 gn := NSx_fr ok480  (show Fr [30000] K hp478 hp489 from (Fr.put (cq := 30000) (Fr.rf) eh490 kd483 (cd_a (by decide)) (by decide))) (by decide) pd484
              have ln496 := (pd495).ref kd900 (by decide) eq492
              refine p_get (ci := 3) (v := .ref qa493) (C := RX3) (T := TX3) (N := 7) hx hb hT iw_X3 hown hK hw hW kd900 (by decide) rfl rfl 3 (by decide) eq492 (hT _ tb_498) (fun _ h9 => h9) dX3_add_126 ?_
              refine lv_aload_n hx hb dX3_add_129 rfl (lv_at hl 1 rfl) ?_
              have eq497 : hp489 qa900 6 = .int zi2 := Eq.trans (up_at eh490 (Or.inl (kd_ne kd900 kd483 (by decide)))) eq486
              refine p_get (ci := 3) (v := .int zi2) (C := RX3) (T := TX3) (N := 7) hx hb hT iw_X3 hown hK hw hW kd900 (by decide) rfl rfl 6 (by decide) eq497 (hT _ tb_503) (fun _ h9 => h9) dX3_add_130 ?_
              refine lv_iload_n hx hb dX3_add_133 rfl (lv_at hl 3 rfl) ?_
              refine p_iast (x := zi902) hx hb hK hw hS hW kd494 (by decide) rfl ln496 (vp_bv (by omega) (by omega)) dX3_add_134 (fun hp498 eh499 H locs hw hS => ?_)
              have ok500 := wr_31000 ok491 kd494 eh499
              refine lv_aload_n hx hb dX3_add_135 rfl (lv_at hl 1 rfl) ?_
              obtain ⟨qa502, eq501, kd503⟩ := rd_4004 ok500 kd900
              have pd504 : NSx K ln hp498 gn := NSx_fr ok491  (show Fr [31000] K hp489 hp498 from (Fr.put (cq := 31000) (Fr.rf) eh499 kd494 (cd_a (by decide)) (by decide))) (by decide) pd495
              have ln505 := (pd504).ref kd900 (by decide) eq501
              refine p_get (ci := 3) (v := .ref qa502) (C := RX3) (T := TX3) (N := 7) hx hb hT iw_X3 hown hK hw hW kd900 (by decide) rfl rfl 4 (by decide) eq501 (hT _ tb_500) (fun _ h9 => h9) dX3_add_136 ?_
              refine lv_aload_n hx hb dX3_add_139 rfl (lv_at hl 1 rfl) ?_
              have eq506 : hp498 qa900 6 = .int zi2 := Eq.trans (up_at eh499 (Or.inl (kd_ne kd900 kd494 (by decide)))) eq497
              refine p_get (ci := 3) (v := .int zi2) (C := RX3) (T := TX3) (N := 7) hx hb hT iw_X3 hown hK hw hW kd900 (by decide) rfl rfl 6 (by decide) eq506 (hT _ tb_503) (fun _ h9 => h9) dX3_add_140 ?_
              refine lv_lload_n hx hb dX3_add_143 rfl (lv_at hl 4 rfl) ?_
              refine p_last (x := wl903) hx hb hK hw hS hW kd503 (by decide) rfl ln505 (vp_bv (by omega) (by omega)) dX3_add_144 (fun hp507 eh508 H locs hw hS => ?_)
              have ok509 := wr_32000 ok500 kd503 eh508
              refine lv_aload_n hx hb dX3_add_145 rfl (lv_at hl 1 rfl) ?_
              refine lv_dup hx hb dX3_add_146 rfl ?_
              have eq510 : hp507 qa900 6 = .int zi2 := Eq.trans (up_at eh508 (Or.inl (kd_ne kd900 kd503 (by decide)))) eq506
              refine p_get (ci := 3) (v := .int zi2) (C := RX3) (T := TX3) (N := 7) hx hb hT iw_X3 hown hK hw hW kd900 (by decide) rfl rfl 6 (by decide) eq510 (hT _ tb_503) (fun _ h9 => h9) dX3_add_147 ?_
              refine lv_iconst (v := 1) hx hb dX3_add_150 (by decide) ?_
              refine lv_iadd hx hb dX3_add_151 (lv_topi (fun zi511 ea512 => ?_))
              have bd513 : (257 : Int) ≤ zi511.toInt ∧ zi511.toInt ≤ 131072 := b_iadd ea512 bd459 bc_1 (by decide) (by decide) (by decide) (by decide)
              have qe514 : zi511.toInt = (zi2 : Int32).toInt + (1 : Int32).toInt := e_iadd ea512 bd459 bc_1 (by decide) (by decide)
              have qe515 : zi511.toInt = zi2.toInt + 1 := by have ha : (1 : Int32).toInt = 1 := (by decide); rw [ha] at qe514; exact qe514
              have pd516 : NSx K ln hp507 gn := NSx_fr ok500  (show Fr [32000] K hp498 hp507 from (Fr.put (cq := 32000) (Fr.rf) eh508 kd503 (cd_a (by decide)) (by decide))) (by decide) pd504
              refine p_put (ci := 3) (v := .int zi511) (ty := .int) (C := RX3) (T := TX3) (N := 7) hx hb hT iw_X3 tyX3 tyX3_ok nmX3 hown hK hw hS hW kd900 (by decide) rfl rfl 6 (by decide) (hT _ tb_503) (fun _ h9 => h9) rfl (by decide +kernel) rfl rfl dX3_add_152 (fun hp517 eh518 H locs hw hS => ?_)
              have ok519 := wr_4006 bd513 (by decide) (by decide) ok509 kd900 eh518
              have ns520 : NSx K ln hp517 gn := NSx_size pd516 eh518 kd900 (by omega) ok509
              refine lv_aload_n hx hb dX3_add_155 rfl (lv_at hl 1 rfl) ?_
              have eq521 : hp517 qa900 5 = .ref qa232 := Eq.trans (up_at eh518 (Or.inr (by decide))) (Eq.trans (up_at eh508 (Or.inl (kd_ne kd900 kd503 (by decide)))) (Eq.trans (up_at eh499 (Or.inl (kd_ne kd900 kd494 (by decide)))) (Eq.trans (up_at eh490 (Or.inl (kd_ne kd900 kd483 (by decide)))) (Eq.trans (up_at eh479 (Or.inl (kd_ne kd900 kd472 (by decide)))) (Eq.trans (up_at eh468 (Or.inl (kd_ne kd900 kd243 (by decide)))) eq231)))))
              refine p_get (ci := 3) (v := .ref qa232) (C := RX3) (T := TX3) (N := 7) hx hb hT iw_X3 hown hK hw hW kd900 (by decide) rfl rfl 5 (by decide) eq521 (hT _ tb_502) (fun _ h9 => h9) dX3_add_156 ?_
              refine lv_iload hx hb dX3_add_159 (lv_at hl 0 rfl) ?_
              refine lv_aload_n hx hb dX3_add_161 rfl (lv_at hl 1 rfl) ?_
              refine p_get (ci := 3) (v := .int zi511) (C := RX3) (T := TX3) (N := 7) hx hb hT iw_X3 hown hK hw hW kd900 (by decide) rfl rfl 6 (by decide) (hp_self eh518) (hT _ tb_503) (fun _ h9 => h9) dX3_add_162 ?_
              refine p_iast (x := zi511) hx hb hK hw hS hW kd233 (by decide) rfl ln234 (vp_bv (by omega) (by omega)) dX3_add_165 (fun hp522 eh523 H locs hw hS => ?_)
              have ok524 := wr_33000 bd513 (by decide) (by decide) ok519 kd233 eh523
              have ns525 : NSx K ln hp522 gn := NSx_tab ns520 kd233 eh523 (by omega)
              rw [hQ]
              exact kgz_v (n := g0) hx hb hr hlocks hS (((K, ln, Ls, hp522), gn) : GU × Nat) hw ⟨gex, hW, ok524, (FrX.tr gfx gex (FrX.of (show Fr [4006, 28000, 29000, 30000, 31000, 32000, 33000] K hp0 hp522 from (Fr.put (cq := 33000) (Fr.put (cq := 4006) (Fr.put (cq := 32000) (Fr.put (cq := 31000) (Fr.put (cq := 30000) (Fr.put (cq := 29000) (Fr.put (cq := 28000) (Fr.rf) eh468 kd243 (cd_a (by decide)) (by decide)) eh479 kd472 (cd_a (by decide)) (by decide)) eh490 kd483 (cd_a (by decide)) (by decide)) eh499 kd494 (cd_a (by decide)) (by decide)) eh508 kd503 (cd_a (by decide)) (by decide)) eh518 kd900 (cd_o (by decide)) (by decide)) eh523 kd233 (cd_a (by decide)) (by decide)))) (by decide)), ns525, (by omega)⟩ (show 0 ≤ gn - g0 from by omega) (show 0 ≤ 14 * (gn - g0) from by omega) (show 0 ≤ 65536 from by omega) (show 0 ≤ 917504 from by omega) dX3_add_166
            · skip
              have tf526 : zi453.toInt ≤ zi2.toInt := (fa_le _ _).mp (Int32.not_lt.mp cn457)
              rw [hQ]
              exact kgz_v (n := g0) hx hb hr hlocks hS (((K, ln, Ls, hp0), gn) : GU × Nat) hw ⟨gex, hW, ok1, gfx, pdNS, (by omega)⟩ (show 0 ≤ gn - g0 from by omega) (show 0 ≤ 14 * (gn - g0) from by omega) (show 0 ≤ 65536 from by omega) (show 0 ≤ 917504 from by omega) dX3_add_85
    · skip
      have bd527 : (1 : Int) ≤ zi236.toInt ∧ zi236.toInt ≤ 131072 := r_lt_y (Int32.not_le.mp cn239) bc_0 bd237 (by decide) (by decide)
      refine lv_aload_n hx hb dX3_add_24 rfl (lv_at hl 1 rfl) ?_
      obtain ⟨qa529, eq528, kd530⟩ := rd_4004 ok1 kd900
      have ln531 := (pdNS).ref kd900 (by decide) eq528
      refine p_get (ci := 3) (v := .ref qa529) (C := RX3) (T := TX3) (N := 7) hx hb hT iw_X3 hown hK hw hW kd900 (by decide) rfl rfl 4 (by decide) eq528 (hT _ tb_500) (fun _ h9 => h9) dX3_add_25 ?_
      refine lv_aload_n hx hb dX3_add_28 rfl (lv_at hl 1 rfl) ?_
      refine p_get (ci := 3) (v := .ref qa232) (C := RX3) (T := TX3) (N := 7) hx hb hT iw_X3 hown hK hw hW kd900 (by decide) rfl rfl 5 (by decide) eq231 (hT _ tb_502) (fun _ h9 => h9) dX3_add_29 ?_
      refine lv_iload hx hb dX3_add_32 (lv_at hl 0 rfl) ?_
      refine p_iald (v := zi236) hx hb hK hw hW kd233 (by decide) rfl ln234 (vp_bv (by omega) (by omega)) eq235 dX3_add_34 ?_
      refine lv_iconst (v := 1) hx hb dX3_add_35 (by decide) ?_
      refine lv_isub hx hb dX3_add_36 (lv_topi (fun zi532 ea533 => ?_))
      have bd534 : (0 : Int) ≤ zi532.toInt ∧ zi532.toInt ≤ 131071 := b_isub ea533 bd527 bc_1 (by decide) (by decide) (by decide) (by decide)
      have qe535 : zi532.toInt = (zi236 : Int32).toInt - (1 : Int32).toInt := e_isub ea533 bd527 bc_1 (by decide) (by decide)
      have qe536 : zi532.toInt = zi236.toInt - 1 := by have ha : (1 : Int32).toInt = 1 := (by decide); rw [ha] at qe535; exact qe535
      refine lv_dup2_11 hx hb dX3_add_37 rfl rfl ?_
      obtain ⟨wl538, eq537⟩ := rd_32000 ok1 kd530 ((zi532 : Int32).toNatClampNeg)
      refine p_lald (v := wl538) hx hb hK hw hW kd530 (by decide) rfl ln531 (vp_bv (by omega) (by omega)) eq537 dX3_add_38 ?_
      refine lv_lload_n hx hb dX3_add_39 rfl (lv_at hl 4 rfl) ?_
      refine lv_ladd hx hb dX3_add_40 (lv_topl (fun wl539 _ => ?_))
      refine p_last (x := wl539) hx hb hK hw hS hW kd530 (by decide) rfl ln531 (vp_bv (by omega) (by omega)) dX3_add_41 (fun hp540 eh541 H locs hw hS => ?_)
      have ok542 := wr_32000 ok1 kd530 eh541
      rw [hQ]
      have pd543 : NSx K ln hp540 gn := NSx_fr ok1  (show Fr [32000] K hp0 hp540 from (Fr.put (cq := 32000) (Fr.rf) eh541 kd530 (cd_a (by decide)) (by decide))) (by decide) pdNS
      exact kgz_v (n := g0) hx hb hr hlocks hS (((K, ln, Ls, hp540), gn) : GU × Nat) hw ⟨gex, hW, ok542, (FrX.tr gfx gex (FrX.of (show Fr [32000] K hp0 hp540 from (Fr.put (cq := 32000) (Fr.rf) eh541 kd530 (cd_a (by decide)) (by decide)))) (by decide)), pd543, (by omega)⟩ (show 0 ≤ gn - g0 from by omega) (show 0 ≤ 14 * (gn - g0) from by omega) (show 0 ≤ 65536 from by omega) (show 0 ≤ 917504 from by omega) dX3_add_42

set_option maxRecDepth 100000 in
set_option maxHeartbeats 4000000 in
theorem cX0_expand_0 (l : Launch) (G : va_G) (cy : Nat → ClassId) (ev : Ew) (K0 ln0 : Nat → Nat) (Ls0 : List Nat) (hW0 : SW K0 ln0 Ls0) (sz : Nat) (hp0 : Nat → Nat → Value) (ok0 : Ok K0 hp0) (qa900 : Nat) (qa901 : Nat) (zi902 : Int32) (zi903 : Int32) (g0 : Nat) (kd900 : K0 qa900 = 1) (kd901 : K0 qa901 = 11) (bd902 : ((0 : Int) ≤ zi902.toInt ∧ zi902.toInt ≤ 131071)) (bd903 : ((1 : Int) ≤ zi903.toInt ∧ zi903.toInt ≤ 4)) (pdNS : NSx K0 ln0 hp0 g0) (xp0 : zi902.toInt < (g0 : Nat)) : Met l yX0_expand (WS yX0_expand cX0_expand 7 none) { frames := 5, cells := 196608, slots := 2748928, locals := 124 } (PB2 [.ref qa900, .ref qa901, .int zi902, .int zi903] sz G cy ev (va_pl Ls0 (cellOf cy K0 ln0 hp0))) (QGv (fun u : GU × Nat => GPx wsC K0 ln0 hp0 g0 u.1 u.2) G cy g0 (va_A (va_pl Ls0 (cellOf cy K0 ln0 hp0)) sz)) 196608 2748928 (va_A (va_pl Ls0 (cellOf cy K0 ln0 hp0)) sz) := by
  refine met_of2 (y := yX0_expand) (L := 7) (av := [.ref qa900, .ref qa901, .int zi902, .int zi903]) (Qc := fun A => QGv (fun u : GU × Nat => GPx wsC K0 ln0 hp0 g0 u.1 u.2) G cy g0 A) (plainFor_of_name (by decide)) (Nat.le_of_ble_eq_true rfl) ?_
  intro p e s m below meth c hsz hx hb hr hml hown hT hlocks hin hK A hA hE hw hS ls hl
  have hw : PW G cy K0 ln0 Ls0 A hp0 s.heap := hw
  have hown : s.vm.findClass "LieClock$Ahead" = some m.cls := hown
  have hl : lv_has ls 7 [(0, .ref qa900), (1, .ref qa901), (2, .int zi902), (3, .int zi903)] := hl
  obtain ⟨Q, hQ⟩ : ∃ Q : State → Prop, Q = MQ below (QGv (fun u : GU × Nat => GPx wsC K0 ln0 hp0 g0 u.1 u.2) G cy g0 A) ([.ref qa900, .ref qa901, .int zi902, .int zi903] : List Value).toArray s 196608 2748928 A := ⟨_, rfl⟩
  rw [← hQ]
  obtain ⟨K, ln, Ls, gn, hW, gex, gfx, ok1, hKe, hga, hge, kd900, kd901, pdNS, xp0, hw⟩ : ∃ (K ln : Nat → Nat) (Ls : List Nat) (gn : Nat), SW K ln Ls ∧ EXx K0 ln0 K ln ∧ FrX wsC K0 hp0 hp0 ∧ Ok K hp0 ∧ K = K0 ∧ g0 ≤ gn ∧ gn = g0 ∧ (K qa900 = 1) ∧ (K qa901 = 11) ∧ (NSx K ln hp0 gn) ∧ (zi902.toInt < (gn : Nat)) ∧ PW G cy K ln Ls A hp0 s.heap := ⟨K0, ln0, Ls0, g0, hW0, EXx.rf, FrX.rf, ok0, rfl, Nat.le_refl _, rfl, kd900, kd901, pdNS, xp0, hw⟩
  have hg0 : 256 ≤ g0 ∧ g0 ≤ 131072 := by have := NSx.bd pdNS; omega
  refine W.widen (k := gn - g0) (n := 14 * (gn - g0)) (Nat.zero_le _) (Nat.zero_le _) ?_
  have hgn := NSx.bd pdNS
  refine lv_aload_n hx hb dX0_expand_0 rfl (lv_at hl 0 rfl) ?_
  obtain ⟨qa2, eq1, kd3⟩ := rd_1000 ok1 kd900
  refine p_get (ci := 0) (v := .ref qa2) (C := RX0) (T := TX0) (N := 8) hx hb hT iw_X0 hown hK hw hW kd900 (by decide) rfl rfl 0 (by decide) eq1 (hT _ tb_591) (fun _ h9 => h9) dX0_expand_1 ?_
  obtain ⟨qa5, eq4, kd6⟩ := rd_4000 ok1 kd3
  have ln7 := (pdNS).ref kd3 (by decide) eq4
  refine p_getN (ci := 3) (v := .ref qa5) (C := RX3) (T := TX3) (N := 7) hx hb hT iw_X3 hown hK hw hW kd3 (by decide) rfl rfl 0 (by decide) eq4 (hK.fl nw_389) (fun _ h9 => h9) dX0_expand_4 ?_
  refine lv_iload_n hx hb dX0_expand_7 rfl (lv_at hl 2 rfl) ?_
  obtain ⟨zi9, eq8⟩ := rd_28000 ok1 kd6 ((zi902 : Int32).toNatClampNeg)
  refine p_iald (v := zi9) hx hb hK hw hW kd6 (by decide) rfl ln7 (vp_bv (by omega) (by omega)) eq8 dX0_expand_8 ?_
  refine lv_ldc (v := 65535) hx hb hown (hT _ tb_1192) dX0_expand_9 ?_
  refine lv_iand hx hb dX0_expand_11 (lv_topi (fun zi10 ea11 => ?_))
  have bd12 : (0 : Int) ≤ zi10.toInt ∧ zi10.toInt ≤ 65535 := b_and_r ea11 bc_65535 (by decide) (by decide) (by decide)
  refine lv_istore (lv' := [(4, .int zi10), (0, .ref qa900), (1, .ref qa901), (2, .int zi902), (3, .int zi903)]) hx hb dX0_expand_12 hl (by decide) rfl (fun ls hl => ?_)
  refine lv_iload hx hb dX0_expand_14 (lv_at hl 0 rfl) ?_
  refine lv_iload hx hb dX0_expand_16 (lv_at hl 0 rfl) ?_
  refine lv_ineg hx hb dX0_expand_18 (lv_topi (fun zi13 ea14 => ?_))
  refine lv_iand hx hb dX0_expand_19 (lv_topi (fun zi15 ea16 => ?_))
  have bd17 : (0 : Int) ≤ zi15.toInt ∧ zi15.toInt ≤ 65535 := b_and_l ea16 bd12 (by decide) (by decide) (by decide)
  refine lv_istore (lv' := [(5, .int zi15), (4, .int zi10), (0, .ref qa900), (1, .ref qa901), (2, .int zi902), (3, .int zi903)]) hx hb dX0_expand_20 hl (by decide) rfl (fun ls hl => ?_)
  refine lv_iconst (v := 0) hx hb dX0_expand_22 (by decide) ?_
  refine lv_istore (lv' := [(6, .int 0), (5, .int zi15), (4, .int zi10), (0, .ref qa900), (1, .ref qa901), (2, .int zi902), (3, .int zi903)]) hx hb dX0_expand_23 hl (by decide) rfl (fun ls hl => ?_)
  have lp1540 : ∀ (n1538 : Nat) (K ln : Nat → Nat) (Ls : List Nat) (gn : Nat) (hp1098 : Nat → Nat → Value) (zi1097 : Int32) (H : Heap) (locs : List Loc) (ls : Array Slot), 16 - zi1097.toInt < (n1538 : Int) → SW K ln Ls → EXx K0 ln0 K ln → FrX wsC K0 hp0 hp1098 → Ok K hp1098 → NSx K ln hp1098 gn → g0 ≤ gn → K qa900 = 1 → K qa901 = 11 → ((0 : Int) ≤ zi1097.toInt ∧ zi1097.toInt ≤ 16) → lv_has ls 7 [(0, .ref qa900), (1, .ref qa901), (2, .int zi902), (3, .int zi903), (4, .int zi10), (5, .int zi15), (6, .int zi1097)] → PW G cy K ln Ls A hp1098 H → va_S A s.heap H locs → W p l e ({ frames := 5, cells := 196608, slots := 2748928, locals := 124 } : Room) s m ([.ref qa900, .ref qa901, .int zi902, .int zi903] : List Value).toArray below meth c H locs (gn - g0) (14 * (gn - g0)) Q (F0 m 25 ls []) := by
    intro n1538
    induction n1538 with
    | zero =>
      intro K ln Ls gn hp1098 zi1097 H locs ls hm1541 hW gex gfx ok1099 pd1100 hga kd1101 kd1102 bd1103 hl hw hS
      exact absurd hm1541 (by have := bd1103; omega)
    | succ n1538 ih1539 =>
      intro K ln Ls gn hp1098 zi1097 H locs ls hm1541 hW gex gfx ok1099 pd1100 hga kd1101 kd1102 bd1103 hl hw hS
      refine lv_iload hx hb dX0_expand_25 (lv_at hl 6 rfl) ?_
      refine lv_aload_n hx hb dX0_expand_27 rfl (lv_at hl 1 rfl) ?_
      obtain ⟨zi1543, eq1542, bd1544⟩ := rd_11004 ok1099 kd1102
      refine p_getN (ci := 10) (v := .int zi1543) (C := RX10) (T := TX10) (N := 20) hx hb hT iw_X10 hown hK hw hW kd1102 (by decide) rfl rfl 4 (by decide) eq1542 (hK.fl nw_96) (fun _ h9 => h9) dX0_expand_28 ?_
      refine lv_icmp_ge (tgt := 165) hx hb dX0_expand_31 (by decide) (fun cn1545 => ?_) (fun cn1545 => ?_)
      · skip
        have tf1546 : zi1543.toInt ≤ zi1097.toInt := (fa_le _ _).mp cn1545
        rw [hQ]
        exact kgz_v (n := g0) hx hb hr hlocks hS (((K, ln, Ls, hp1098), gn) : GU × Nat) hw ⟨gex, hW, ok1099, gfx, pd1100, (by omega)⟩ (show (gn - g0) ≤ gn - g0 from by omega) (show (14 * (gn - g0)) ≤ 14 * (gn - g0) from by omega) (show (gn - g0) ≤ 196608 from by omega) (show (14 * (gn - g0)) ≤ 2748928 from by omega) dX0_expand_165
      · skip
        have tf1547 : zi1097.toInt < zi1543.toInt := (fa_lt _ _).mp (Int32.not_le.mp cn1545)
        have bd1548 : (0 : Int) ≤ zi1097.toInt ∧ zi1097.toInt ≤ 15 := r_lt_x (Int32.not_le.mp cn1545) bd1103 bd1544 (by decide) (by decide)
        have bd1549 : (1 : Int) ≤ zi1543.toInt ∧ zi1543.toInt ≤ 16 := r_lt_y (Int32.not_le.mp cn1545) bd1103 bd1544 (by decide) (by decide)
        refine lv_iload hx hb dX0_expand_34 (lv_at hl 4 rfl) ?_
        refine lv_iload hx hb dX0_expand_36 (lv_at hl 6 rfl) ?_
        refine lv_ishr hx hb dX0_expand_38 (lv_topi (fun zi1550 ea1551 => ?_))
        refine lv_iconst (v := 1) hx hb dX0_expand_39 (by decide) ?_
        refine lv_iand hx hb dX0_expand_40 (lv_topi (fun zi1552 ea1553 => ?_))
        have bd1554 : (0 : Int) ≤ zi1552.toInt ∧ zi1552.toInt ≤ 1 := b_and_r ea1553 bc_1 (by decide) (by decide) (by decide)
        refine lv_if_eq (tgt := 56) hx hb dX0_expand_41 (by decide) (fun cn1555 => ?_) (fun cn1555 => ?_)
        · skip
          have bd1556 : (0 : Int) ≤ zi1552.toInt ∧ zi1552.toInt ≤ 0 := r_eq_x cn1555 bd1554 bc_0 (by decide) (by decide)
          refine lv_aload_n hx hb dX0_expand_56 rfl (lv_at hl 0 rfl) ?_
          obtain ⟨qa1558, eq1557, kd1559⟩ := rd_1000 ok1099 kd1101
          refine p_get (ci := 0) (v := .ref qa1558) (C := RX0) (T := TX0) (N := 8) hx hb hT iw_X0 hown hK hw hW kd1101 (by decide) rfl rfl 0 (by decide) eq1557 (hT _ tb_591) (fun _ h9 => h9) dX0_expand_57 ?_
          refine lv_iload_n hx hb dX0_expand_60 rfl (lv_at hl 2 rfl) ?_
          refine lv_aload_n hx hb dX0_expand_61 rfl (lv_at hl 0 rfl) ?_
          obtain ⟨qa1561, eq1560, kd1562⟩ := rd_1001 ok1099 kd1101
          refine p_get (ci := 0) (v := .ref qa1561) (C := RX0) (T := TX0) (N := 8) hx hb hT iw_X0 hown hK hw hW kd1101 (by decide) rfl rfl 1 (by decide) eq1560 (hT _ tb_592) (fun _ h9 => h9) dX0_expand_62 ?_
          refine kq_v hw hS hA (va_runV (As := [.int zi902, .ref qa1561]) (rest := []) ⟨hx, hb, hml, hown, hT⟩ (cX3_load_0 l G cy ev K ln Ls hW _ hp1098 ok1099 qa1558 zi902 qa1561 gn kd1559 kd1562 pd1100) (cwV 2 hT (good_V tb_1196 tb_1193 tb_1194 tb_1195 tb_117) rfl rfl rfl (by decide +kernel) ⟨Nat.le_of_ble_eq_true rfl, Nat.le_of_ble_eq_true rfl⟩) (pool_preV (ci := 3) hK hE hS hA hw hW kd1559 (by decide) rfl) rfl rfl hl.1 rfl (lv_room (Nat.le_of_ble_eq_true rfl)) dX0_expand_65 ⟨(show (gn - g0) + 0 ≤ 196608 from by omega), (show (14 * (gn - g0)) + 0 ≤ 2748928 from by omega)⟩) (fun hp1563 H locs hq1566 hw hS => ?_)
          obtain ⟨ok1564, F1565⟩ := hq1566
          have hw : PW G cy K ln Ls A hp1563 H := hw
          refine lv_aload_n hx hb dX0_expand_68 rfl (lv_at hl 0 rfl) ?_
          have eq1568 : hp1563 qa900 1 = .ref qa1561 := Eq.trans (Fr.at (cq := 1001) F1565 kd1101 (cd_o (by decide)) (by decide)) eq1560
          refine p_get (ci := 0) (v := .ref qa1561) (C := RX0) (T := TX0) (N := 8) hx hb hT iw_X0 hown hK hw hW kd1101 (by decide) rfl rfl 1 (by decide) eq1568 (hT _ tb_592) (fun _ h9 => h9) dX0_expand_69 ?_
          refine lv_iconst (v := 0) hx hb dX0_expand_72 (by decide) ?_
          refine p_putN (ci := 7) (v := .int 0) (ty := .int) (C := RX7) (T := TX7) (N := 13) hx hb hT iw_X7 tyX7 tyX7_ok nmX7 hown hK hw hS hW kd1562 (by decide) rfl rfl 6 (by decide) (hK.fl nw_327) (fun _ h9 => h9) rfl (by decide +kernel) rfl rfl dX0_expand_73 (fun hp1569 eh1570 H locs hw hS => ?_)
          have ok1571 := wr_8006 ok1564 kd1562 eh1570
          refine lv_aload_n hx hb dX0_expand_76 rfl (lv_at hl 0 rfl) ?_
          have eq1572 : hp1569 qa900 1 = .ref qa1561 := Eq.trans (up_at eh1570 (Or.inl (kd_ne kd1101 kd1562 (by decide)))) eq1568
          refine p_get (ci := 0) (v := .ref qa1561) (C := RX0) (T := TX0) (N := 8) hx hb hT iw_X0 hown hK hw hW kd1101 (by decide) rfl rfl 1 (by decide) eq1572 (hT _ tb_592) (fun _ h9 => h9) dX0_expand_77 ?_
          refine lv_aload_n hx hb dX0_expand_80 rfl (lv_at hl 1 rfl) ?_
          refine lv_iload hx hb dX0_expand_81 (lv_at hl 6 rfl) ?_
          refine kq_i hw hS hA (va_runV (As := [.ref qa901, .int zi1097]) (rest := []) ⟨hx, hb, hml, hown, hT⟩ (cX7_utter_0 l G cy ev K ln Ls hW _ hp1569 ok1571 qa1561 qa901 zi1097 kd1562 kd1102 (b_wid2 bd1548 (by decide) (by decide))) (cwV 2 hT (good_V tb_1059 tb_1198 tb_1057 tb_1058 tb_115) rfl rfl rfl (by decide +kernel) ⟨Nat.le_of_ble_eq_true rfl, Nat.le_of_ble_eq_true rfl⟩) (pool_preV (ci := 7) hK hE hS hA hw hW kd1562 (by decide) rfl) rfl rfl hl.1 rfl (lv_room (Nat.le_of_ble_eq_true rfl)) dX0_expand_83 ⟨(show (gn - g0) + 0 ≤ 196608 from by omega), (show (14 * (gn - g0)) + 0 ≤ 2748928 from by omega)⟩) (fun zi1577 hp1573 H locs hq1576 hw hS => ?_)
          obtain ⟨ok1574, F1575, bd1578⟩ := hq1576
          have hw : PW G cy K ln Ls A hp1573 H := hw
          refine lv_pop hx hb dX0_expand_86 rfl ?_
          refine lv_aload_n hx hb dX0_expand_87 rfl (lv_at hl 0 rfl) ?_
          have eq1579 : hp1573 qa900 1 = .ref qa1561 := Eq.trans (Fr.at (cq := 1001) F1575 kd1101 (cd_o (by decide)) (by decide)) eq1572
          refine p_get (ci := 0) (v := .ref qa1561) (C := RX0) (T := TX0) (N := 8) hx hb hT iw_X0 hown hK hw hW kd1101 (by decide) rfl rfl 1 (by decide) eq1579 (hT _ tb_592) (fun _ h9 => h9) dX0_expand_88 ?_
          obtain ⟨zi1581, eq1580⟩ := rd_8006 ok1574 kd1562
          refine p_getN (ci := 7) (v := .int zi1581) (C := RX7) (T := TX7) (N := 13) hx hb hT iw_X7 hown hK hw hW kd1562 (by decide) rfl rfl 6 (by decide) eq1580 (hK.fl nw_327) (fun _ h9 => h9) dX0_expand_91 ?_
          refine lv_aload_n hx hb dX0_expand_94 rfl (lv_at hl 0 rfl) ?_
          obtain ⟨zi1583, eq1582⟩ := rd_1007 ok1574 kd1101
          refine p_get (ci := 0) (v := .int zi1583) (C := RX0) (T := TX0) (N := 8) hx hb hT iw_X0 hown hK hw hW kd1101 (by decide) rfl rfl 7 (by decide) eq1582 (hT _ tb_602) (fun _ h9 => h9) dX0_expand_95 ?_
          refine lv_ishr hx hb dX0_expand_98 (lv_topi (fun zi1584 ea1585 => ?_))
          refine lv_iconst (v := 1) hx hb dX0_expand_99 (by decide) ?_
          refine lv_iand hx hb dX0_expand_100 (lv_topi (fun zi1586 ea1587 => ?_))
          have bd1588 : (0 : Int) ≤ zi1586.toInt ∧ zi1586.toInt ≤ 1 := b_and_r ea1587 bc_1 (by decide) (by decide) (by decide)
          refine lv_if_eq (tgt := 107) hx hb dX0_expand_101 (by decide) (fun cn1589 => ?_) (fun cn1589 => ?_)
          · skip
            have bd1590 : (0 : Int) ≤ zi1586.toInt ∧ zi1586.toInt ≤ 0 := r_eq_x cn1589 bd1588 bc_0 (by decide) (by decide)
            refine lv_aload_n hx hb dX0_expand_107 rfl (lv_at hl 0 rfl) ?_
            refine p_get (ci := 0) (v := .ref qa1561) (C := RX0) (T := TX0) (N := 8) hx hb hT iw_X0 hown hK hw hW kd1101 (by decide) rfl rfl 1 (by decide) eq1579 (hT _ tb_592) (fun _ h9 => h9) dX0_expand_108 ?_
            refine p_getN (ci := 7) (v := .int zi1581) (C := RX7) (T := TX7) (N := 13) hx hb hT iw_X7 hown hK hw hW kd1562 (by decide) rfl rfl 6 (by decide) eq1580 (hK.fl nw_327) (fun _ h9 => h9) dX0_expand_111 ?_
            refine lv_aload_n hx hb dX0_expand_114 rfl (lv_at hl 0 rfl) ?_
            obtain ⟨zi1592, eq1591⟩ := rd_1006 ok1574 kd1101
            refine p_get (ci := 0) (v := .int zi1592) (C := RX0) (T := TX0) (N := 8) hx hb hT iw_X0 hown hK hw hW kd1101 (by decide) rfl rfl 6 (by decide) eq1591 (hT _ tb_601) (fun _ h9 => h9) dX0_expand_115 ?_
            refine lv_ishr hx hb dX0_expand_118 (lv_topi (fun zi1593 ea1594 => ?_))
            refine lv_iconst (v := 1) hx hb dX0_expand_119 (by decide) ?_
            refine lv_iand hx hb dX0_expand_120 (lv_topi (fun zi1595 ea1596 => ?_))
            have bd1597 : (0 : Int) ≤ zi1595.toInt ∧ zi1595.toInt ≤ 1 := b_and_r ea1596 bc_1 (by decide) (by decide) (by decide)
            refine lv_if_eq (tgt := 134) hx hb dX0_expand_121 (by decide) (fun cn1598 => ?_) (fun cn1598 => ?_)
            · skip
              have bd1599 : (0 : Int) ≤ zi1595.toInt ∧ zi1595.toInt ≤ 0 := r_eq_x cn1598 bd1597 bc_0 (by decide) (by decide)
              refine lv_iload_n hx hb dX0_expand_134 rfl (lv_at hl 3 rfl) ?_
              refine lv_iconst (v := 4) hx hb dX0_expand_135 (by decide) ?_
              refine lv_icmp_ge (tgt := 159) hx hb dX0_expand_136 (by decide) (fun cn1600 => ?_) (fun cn1600 => ?_)
              · skip
                have bd1601 : (4 : Int) ≤ zi903.toInt ∧ zi903.toInt ≤ 4 := r_le_y cn1600 bc_4 bd903 (by decide) (by decide)
                obtain ⟨zi1602, ea1603⟩ : ∃ z : Int32, z = zi1097 + 1 := ⟨_, rfl⟩
                have bd1604 : (1 : Int) ≤ zi1602.toInt ∧ zi1602.toInt ≤ 16 := b_iadd ea1603 bd1548 bc_1 (by decide) (by decide) (by decide) (by decide)
                have qe1605 : zi1602.toInt = (zi1097 : Int32).toInt + (1 : Int32).toInt := e_iadd ea1603 bd1548 bc_1 (by decide) (by decide)
                have qe1606 : zi1602.toInt = zi1097.toInt + 1 := by have ha : (1 : Int32).toInt = 1 := (by decide); rw [ha] at qe1605; exact qe1605
                refine lv_iinc (v := zi1602) (lv' := [(6, .int zi1602), (0, .ref qa900), (1, .ref qa901), (2, .int zi902), (3, .int zi903), (4, .int zi10), (5, .int zi15)]) hx hb dX0_expand_159 hl (k := 6) rfl ea1603.symm (by decide) rfl (fun ls hl => ?_)
                refine lv_goto (tgt := 25) hx hb dX0_expand_162 (by decide) ?_
                have pd1607 : NSx K ln hp1573 gn := NSx_fr ok1099  (show Fr [3003, 3004, 8000, 8001, 8002, 8004, 8006, 8008, 27000, 40000, 41000, 42000] K hp1098 hp1573 from (Fr.tr (Fr.put (cq := 8006) (Fr.tr (Fr.rf) F1565 (by decide)) eh1570 kd1562 (cd_o (by decide)) (by decide)) F1575 (by decide))) (by decide) pd1100
                exact ih1539 K ln Ls gn hp1573 zi1602 _ _ ls (by have := hm1541; have := qe1606; omega) hW gex (FrX.tr gfx gex (FrX.of (show Fr [3003, 3004, 8000, 8001, 8002, 8004, 8006, 8008, 27000, 40000, 41000, 42000] K hp1098 hp1573 from (Fr.tr (Fr.put (cq := 8006) (Fr.tr (Fr.rf) F1565 (by decide)) eh1570 kd1562 (cd_o (by decide)) (by decide)) F1575 (by decide)))) (by decide)) ok1574 pd1607 (by omega) kd1101 kd1102 (b_wid2 bd1604 (by decide) (by decide)) (lv_sub hl [1, 2, 3, 4, 5, 6, 0] rfl) hw hS
              · skip
                have bd1608 : (1 : Int) ≤ zi903.toInt ∧ zi903.toInt ≤ 3 := r_lt_x (Int32.not_le.mp cn1600) bd903 bc_4 (by decide) (by decide)
                refine lv_aload_n hx hb dX0_expand_139 rfl (lv_at hl 0 rfl) ?_
                have eq1609 : hp1573 qa900 0 = .ref qa1558 := Eq.trans (Fr.at (cq := 1000) F1575 kd1101 (cd_o (by decide)) (by decide)) (Eq.trans (up_at eh1570 (Or.inl (kd_ne kd1101 kd1562 (by decide)))) (Eq.trans (Fr.at (cq := 1000) F1565 kd1101 (cd_o (by decide)) (by decide)) eq1557))
                refine p_get (ci := 0) (v := .ref qa1558) (C := RX0) (T := TX0) (N := 8) hx hb hT iw_X0 hown hK hw hW kd1101 (by decide) rfl rfl 0 (by decide) eq1609 (hT _ tb_591) (fun _ h9 => h9) dX0_expand_140 ?_
                refine lv_aload_n hx hb dX0_expand_143 rfl (lv_at hl 0 rfl) ?_
                refine p_get (ci := 0) (v := .ref qa1561) (C := RX0) (T := TX0) (N := 8) hx hb hT iw_X0 hown hK hw hW kd1101 (by decide) rfl rfl 1 (by decide) eq1579 (hT _ tb_592) (fun _ h9 => h9) dX0_expand_144 ?_
                refine lv_iload_n hx hb dX0_expand_147 rfl (lv_at hl 2 rfl) ?_
                refine lv_bipush (v := 16) hx hb dX0_expand_148 (by decide) ?_
                refine lv_imul hx hb dX0_expand_150 (lv_topi (fun zi1610 ea1611 => ?_))
                have bd1612 : (0 : Int) ≤ zi1610.toInt ∧ zi1610.toInt ≤ 2097136 := b_imul ea1611 bd902 bc_16 (by decide) (by decide) (by decide) (by decide) (by decide)
                have qe1613 : zi1610.toInt = (zi902 : Int32).toInt * (16 : Int32).toInt := e_imul (b := 131071) (d := 16) ea1611 (b_wid2 bd902 (by decide) (by decide)) (b_wid2 bc_16 (by decide) (by decide)) (by decide)
                have qe1614 : zi1610.toInt = zi902.toInt * 16 := by have ha : (16 : Int32).toInt = 16 := (by decide); rw [ha] at qe1613; exact qe1613
                refine lv_iload hx hb dX0_expand_151 (lv_at hl 6 rfl) ?_
                refine lv_iadd hx hb dX0_expand_153 (lv_topi (fun zi1615 ea1616 => ?_))
                have bd1617 : (0 : Int) ≤ zi1615.toInt ∧ zi1615.toInt ≤ 2097151 := b_iadd ea1616 bd1612 bd1548 (by decide) (by decide) (by decide) (by decide)
                have qe1618 : zi1615.toInt = zi1610.toInt + zi1097.toInt := e_iadd ea1616 bd1612 bd1548 (by decide) (by decide)
                refine lv_lconst (v := 1) hx hb dX0_expand_154 (by decide) ?_
                refine lv_iconst (v := 0) hx hb dX0_expand_155 (by decide) ?_
                have pd1619 : NSx K ln hp1573 gn := NSx_fr ok1099  (show Fr [3003, 3004, 8000, 8001, 8002, 8004, 8006, 8008, 27000, 40000, 41000, 42000] K hp1098 hp1573 from (Fr.tr (Fr.put (cq := 8006) (Fr.tr (Fr.rf) F1565 (by decide)) eh1570 kd1562 (cd_o (by decide)) (by decide)) F1575 (by decide))) (by decide) pd1100
                have gf1627 : FrX wsC K0 hp0 hp1573 := (FrX.tr gfx gex (FrX.of (show Fr [3003, 3004, 8000, 8001, 8002, 8004, 8006, 8008, 27000, 40000, 41000, 42000] K hp1098 hp1573 from (Fr.tr (Fr.put (cq := 8006) (Fr.tr (Fr.rf) F1565 (by decide)) eh1570 kd1562 (cd_o (by decide)) (by decide)) F1575 (by decide)))) (by decide))
                refine kg_v hw hS hA (va_runV (As := [.ref qa1561, .int zi1615, .long 1, .int 0]) (rest := []) ⟨hx, hb, hml, hown, hT⟩ (Met.szx (cX3_add_vG_0 l G cy ev K ln Ls hW _ hp1573 ok1574 qa1558 qa1561 zi1615 1 0 gn kd1559 kd1562 pd1619)) (cwV 4 hT (good_V tb_1142 tb_1139 tb_1140 tb_1141 tb_117) rfl rfl rfl (by decide +kernel) ⟨Nat.le_of_ble_eq_true rfl, Nat.le_of_ble_eq_true rfl⟩) (pool_preV (ci := 3) hK hE hS hA hw hW kd1559 (by decide) rfl) rfl rfl hl.1 rfl (lv_room (Nat.le_of_ble_eq_true rfl)) dX0_expand_156 ⟨(show (gn - g0) + 65536 ≤ 196608 from by omega), (show (14 * (gn - g0)) + 917504 ≤ 2748928 from by omega)⟩) (fun u gn H locs hq1620 hw hS => ?_)
                obtain ⟨K, ln, Ls, hp1621⟩ := u
                obtain ⟨ex1623, hW, ok1622, fx1624, pd1625, hle1626⟩ := hq1620
                have hw : PW G cy K ln Ls A hp1621 H := hw
                have gfx : FrX wsC K0 hp0 hp1621 := FrX.tr gf1627 gex fx1624 (by decide)
                have gex := EXx.tr gex ex1623
                have kd1630 := EXx.kd ex1623 kd1101 (by decide)
                have kd1631 := EXx.kd ex1623 kd1102 (by decide)
                have hgn := NSx.bd pd1625
                refine W.widen (k := gn - g0) (n := 14 * (gn - g0)) (by omega) (by omega) ?_
                have hga : g0 ≤ gn := by omega
                obtain ⟨zi1632, ea1633⟩ : ∃ z : Int32, z = zi1097 + 1 := ⟨_, rfl⟩
                have bd1634 : (1 : Int) ≤ zi1632.toInt ∧ zi1632.toInt ≤ 16 := b_iadd ea1633 bd1548 bc_1 (by decide) (by decide) (by decide) (by decide)
                have qe1635 : zi1632.toInt = (zi1097 : Int32).toInt + (1 : Int32).toInt := e_iadd ea1633 bd1548 bc_1 (by decide) (by decide)
                have qe1636 : zi1632.toInt = zi1097.toInt + 1 := by have ha : (1 : Int32).toInt = 1 := (by decide); rw [ha] at qe1635; exact qe1635
                refine lv_iinc (v := zi1632) (lv' := [(6, .int zi1632), (0, .ref qa900), (1, .ref qa901), (2, .int zi902), (3, .int zi903), (4, .int zi10), (5, .int zi15)]) hx hb dX0_expand_159 hl (k := 6) rfl ea1633.symm (by decide) rfl (fun ls hl => ?_)
                refine lv_goto (tgt := 25) hx hb dX0_expand_162 (by decide) ?_
                exact ih1539 K ln Ls gn hp1621 zi1632 _ _ ls (by have := hm1541; have := qe1636; omega) hW gex gfx ok1622 pd1625 (by omega) kd1630 kd1631 (b_wid2 bd1634 (by decide) (by decide)) (lv_sub hl [1, 2, 3, 4, 5, 6, 0] rfl) hw hS
            · skip
              have tf1637 : (zi1595 : Int32).toInt ≠ (0 : Int32).toInt := fun e => cn1598 (Int32.toInt_inj.mp e)
              have := toi bc_0
              have bd1638 : (1 : Int) ≤ zi1595.toInt ∧ zi1595.toInt ≤ 1 := r_ne_lo cn1598 bd1597 (toi bc_0) (by decide) (by decide)
              refine lv_aload_n hx hb dX0_expand_124 rfl (lv_at hl 0 rfl) ?_
              refine lv_aload_n hx hb dX0_expand_125 rfl (lv_at hl 1 rfl) ?_
              refine lv_iload_n hx hb dX0_expand_126 rfl (lv_at hl 2 rfl) ?_
              refine lv_iload hx hb dX0_expand_127 (lv_at hl 6 rfl) ?_
              refine lv_iload_n hx hb dX0_expand_129 rfl (lv_at hl 3 rfl) ?_
              have pd1639 : NSx K ln hp1573 gn := NSx_fr ok1099  (show Fr [3003, 3004, 8000, 8001, 8002, 8004, 8006, 8008, 27000, 40000, 41000, 42000] K hp1098 hp1573 from (Fr.tr (Fr.put (cq := 8006) (Fr.tr (Fr.rf) F1565 (by decide)) eh1570 kd1562 (cd_o (by decide)) (by decide)) F1575 (by decide))) (by decide) pd1100
              refine kq_v hw hS hA (va_runV (As := [.ref qa901, .int zi902, .int zi1097, .int zi903]) (rest := []) ⟨hx, hb, hml, hown, hT⟩ (cX0_keepPath_0 l G cy ev K ln Ls hW _ hp1573 ok1574 qa900 qa901 zi902 zi1097 zi903 gn kd1101 kd1102 (b_wid2 bd903 (by decide) (by decide)) pd1639) (cwV 4 hT (good_V tb_1202 tb_1199 tb_1201 tb_37 tb_120) rfl rfl rfl (by decide +kernel) ⟨Nat.le_of_ble_eq_true rfl, Nat.le_of_ble_eq_true rfl⟩) (pool_preV (ci := 0) hK hE hS hA hw hW kd1101 (by decide) rfl) rfl rfl hl.1 rfl (lv_room (Nat.le_of_ble_eq_true rfl)) dX0_expand_130 ⟨(show (gn - g0) + 0 ≤ 196608 from by omega), (show (14 * (gn - g0)) + 0 ≤ 2748928 from by omega)⟩) (fun hp1640 H locs hq1643 hw hS => ?_)
              obtain ⟨ok1641, F1642⟩ := hq1643
              have hw : PW G cy K ln Ls A hp1640 H := hw
              rw [hQ]
              have pd1645 : NSx K ln hp1640 gn := NSx_fr ok1574  (show Fr [1003, 1004, 20000] K hp1573 hp1640 from (Fr.tr (Fr.rf) F1642 (by decide))) (by decide) pd1639
              exact kgz_v (n := g0) hx hb hr hlocks hS (((K, ln, Ls, hp1640), gn) : GU × Nat) hw ⟨gex, hW, ok1641, (FrX.tr gfx gex (FrX.of (show Fr [1003, 1004, 3003, 3004, 8000, 8001, 8002, 8004, 8006, 8008, 20000, 27000, 40000, 41000, 42000] K hp1098 hp1640 from (Fr.tr (Fr.tr (Fr.put (cq := 8006) (Fr.tr (Fr.rf) F1565 (by decide)) eh1570 kd1562 (cd_o (by decide)) (by decide)) F1575 (by decide)) F1642 (by decide)))) (by decide)), pd1645, (by omega)⟩ (show (gn - g0) ≤ gn - g0 from by omega) (show (14 * (gn - g0)) ≤ 14 * (gn - g0) from by omega) (show (gn - g0) ≤ 196608 from by omega) (show (14 * (gn - g0)) ≤ 2748928 from by omega) dX0_expand_133
          · skip
            have tf1646 : (zi1586 : Int32).toInt ≠ (0 : Int32).toInt := fun e => cn1589 (Int32.toInt_inj.mp e)
            have := toi bc_0
            have bd1647 : (1 : Int) ≤ zi1586.toInt ∧ zi1586.toInt ≤ 1 := r_ne_lo cn1589 bd1588 (toi bc_0) (by decide) (by decide)
            refine lv_goto (tgt := 159) hx hb dX0_expand_104 (by decide) ?_
            obtain ⟨zi1648, ea1649⟩ : ∃ z : Int32, z = zi1097 + 1 := ⟨_, rfl⟩
            have bd1650 : (1 : Int) ≤ zi1648.toInt ∧ zi1648.toInt ≤ 16 := b_iadd ea1649 bd1548 bc_1 (by decide) (by decide) (by decide) (by decide)
            have qe1651 : zi1648.toInt = (zi1097 : Int32).toInt + (1 : Int32).toInt := e_iadd ea1649 bd1548 bc_1 (by decide) (by decide)
            have qe1652 : zi1648.toInt = zi1097.toInt + 1 := by have ha : (1 : Int32).toInt = 1 := (by decide); rw [ha] at qe1651; exact qe1651
            refine lv_iinc (v := zi1648) (lv' := [(6, .int zi1648), (0, .ref qa900), (1, .ref qa901), (2, .int zi902), (3, .int zi903), (4, .int zi10), (5, .int zi15)]) hx hb dX0_expand_159 hl (k := 6) rfl ea1649.symm (by decide) rfl (fun ls hl => ?_)
            refine lv_goto (tgt := 25) hx hb dX0_expand_162 (by decide) ?_
            have pd1653 : NSx K ln hp1573 gn := NSx_fr ok1099  (show Fr [3003, 3004, 8000, 8001, 8002, 8004, 8006, 8008, 27000, 40000, 41000, 42000] K hp1098 hp1573 from (Fr.tr (Fr.put (cq := 8006) (Fr.tr (Fr.rf) F1565 (by decide)) eh1570 kd1562 (cd_o (by decide)) (by decide)) F1575 (by decide))) (by decide) pd1100
            exact ih1539 K ln Ls gn hp1573 zi1648 _ _ ls (by have := hm1541; have := qe1652; omega) hW gex (FrX.tr gfx gex (FrX.of (show Fr [3003, 3004, 8000, 8001, 8002, 8004, 8006, 8008, 27000, 40000, 41000, 42000] K hp1098 hp1573 from (Fr.tr (Fr.put (cq := 8006) (Fr.tr (Fr.rf) F1565 (by decide)) eh1570 kd1562 (cd_o (by decide)) (by decide)) F1575 (by decide)))) (by decide)) ok1574 pd1653 (by omega) kd1101 kd1102 (b_wid2 bd1650 (by decide) (by decide)) (lv_sub hl [1, 2, 3, 4, 5, 6, 0] rfl) hw hS
        · skip
          have tf1654 : (zi1552 : Int32).toInt ≠ (0 : Int32).toInt := fun e => cn1555 (Int32.toInt_inj.mp e)
          have := toi bc_0
          have bd1655 : (1 : Int) ≤ zi1552.toInt ∧ zi1552.toInt ≤ 1 := r_ne_lo cn1555 bd1554 (toi bc_0) (by decide) (by decide)
          refine lv_iconst (v := 1) hx hb dX0_expand_44 (by decide) ?_
          refine lv_iload hx hb dX0_expand_45 (lv_at hl 6 rfl) ?_
          refine lv_ishl hx hb dX0_expand_47 (lv_topi (fun zi1656 ea1657 => ?_))
          have bd1658 : (1 : Int) ≤ zi1656.toInt ∧ zi1656.toInt ≤ 32768 := b_shl1 15 ea1657 bd1548 (by decide) (by decide) (by decide) (by decide) (by decide)
          refine lv_iload hx hb dX0_expand_48 (lv_at hl 5 rfl) ?_
          refine lv_icmp_eq (tgt := 56) hx hb dX0_expand_50 (by decide) (fun cn1659 => ?_) (fun cn1659 => ?_)
          · skip
            have tf1660 : zi1656.toInt = zi15.toInt := congrArg Int32.toInt cn1659
            have bd1661 : (1 : Int) ≤ zi15.toInt ∧ zi15.toInt ≤ 32768 := r_eq_x (cn1659).symm bd17 bd1658 (by decide) (by decide)
            refine lv_aload_n hx hb dX0_expand_56 rfl (lv_at hl 0 rfl) ?_
            obtain ⟨qa1663, eq1662, kd1664⟩ := rd_1000 ok1099 kd1101
            refine p_get (ci := 0) (v := .ref qa1663) (C := RX0) (T := TX0) (N := 8) hx hb hT iw_X0 hown hK hw hW kd1101 (by decide) rfl rfl 0 (by decide) eq1662 (hT _ tb_591) (fun _ h9 => h9) dX0_expand_57 ?_
            refine lv_iload_n hx hb dX0_expand_60 rfl (lv_at hl 2 rfl) ?_
            refine lv_aload_n hx hb dX0_expand_61 rfl (lv_at hl 0 rfl) ?_
            obtain ⟨qa1666, eq1665, kd1667⟩ := rd_1001 ok1099 kd1101
            refine p_get (ci := 0) (v := .ref qa1666) (C := RX0) (T := TX0) (N := 8) hx hb hT iw_X0 hown hK hw hW kd1101 (by decide) rfl rfl 1 (by decide) eq1665 (hT _ tb_592) (fun _ h9 => h9) dX0_expand_62 ?_
            refine kq_v hw hS hA (va_runV (As := [.int zi902, .ref qa1666]) (rest := []) ⟨hx, hb, hml, hown, hT⟩ (cX3_load_0 l G cy ev K ln Ls hW _ hp1098 ok1099 qa1663 zi902 qa1666 gn kd1664 kd1667 pd1100) (cwV 2 hT (good_V tb_1196 tb_1193 tb_1194 tb_1195 tb_117) rfl rfl rfl (by decide +kernel) ⟨Nat.le_of_ble_eq_true rfl, Nat.le_of_ble_eq_true rfl⟩) (pool_preV (ci := 3) hK hE hS hA hw hW kd1664 (by decide) rfl) rfl rfl hl.1 rfl (lv_room (Nat.le_of_ble_eq_true rfl)) dX0_expand_65 ⟨(show (gn - g0) + 0 ≤ 196608 from by omega), (show (14 * (gn - g0)) + 0 ≤ 2748928 from by omega)⟩) (fun hp1668 H locs hq1671 hw hS => ?_)
            obtain ⟨ok1669, F1670⟩ := hq1671
            have hw : PW G cy K ln Ls A hp1668 H := hw
            refine lv_aload_n hx hb dX0_expand_68 rfl (lv_at hl 0 rfl) ?_
            have eq1673 : hp1668 qa900 1 = .ref qa1666 := Eq.trans (Fr.at (cq := 1001) F1670 kd1101 (cd_o (by decide)) (by decide)) eq1665
            refine p_get (ci := 0) (v := .ref qa1666) (C := RX0) (T := TX0) (N := 8) hx hb hT iw_X0 hown hK hw hW kd1101 (by decide) rfl rfl 1 (by decide) eq1673 (hT _ tb_592) (fun _ h9 => h9) dX0_expand_69 ?_
            refine lv_iconst (v := 0) hx hb dX0_expand_72 (by decide) ?_
            refine p_putN (ci := 7) (v := .int 0) (ty := .int) (C := RX7) (T := TX7) (N := 13) hx hb hT iw_X7 tyX7 tyX7_ok nmX7 hown hK hw hS hW kd1667 (by decide) rfl rfl 6 (by decide) (hK.fl nw_327) (fun _ h9 => h9) rfl (by decide +kernel) rfl rfl dX0_expand_73 (fun hp1674 eh1675 H locs hw hS => ?_)
            have ok1676 := wr_8006 ok1669 kd1667 eh1675
            refine lv_aload_n hx hb dX0_expand_76 rfl (lv_at hl 0 rfl) ?_
            have eq1677 : hp1674 qa900 1 = .ref qa1666 := Eq.trans (up_at eh1675 (Or.inl (kd_ne kd1101 kd1667 (by decide)))) eq1673
            refine p_get (ci := 0) (v := .ref qa1666) (C := RX0) (T := TX0) (N := 8) hx hb hT iw_X0 hown hK hw hW kd1101 (by decide) rfl rfl 1 (by decide) eq1677 (hT _ tb_592) (fun _ h9 => h9) dX0_expand_77 ?_
            refine lv_aload_n hx hb dX0_expand_80 rfl (lv_at hl 1 rfl) ?_
            refine lv_iload hx hb dX0_expand_81 (lv_at hl 6 rfl) ?_
            refine kq_i hw hS hA (va_runV (As := [.ref qa901, .int zi1097]) (rest := []) ⟨hx, hb, hml, hown, hT⟩ (cX7_utter_0 l G cy ev K ln Ls hW _ hp1674 ok1676 qa1666 qa901 zi1097 kd1667 kd1102 (b_wid2 bd1548 (by decide) (by decide))) (cwV 2 hT (good_V tb_1059 tb_1198 tb_1057 tb_1058 tb_115) rfl rfl rfl (by decide +kernel) ⟨Nat.le_of_ble_eq_true rfl, Nat.le_of_ble_eq_true rfl⟩) (pool_preV (ci := 7) hK hE hS hA hw hW kd1667 (by decide) rfl) rfl rfl hl.1 rfl (lv_room (Nat.le_of_ble_eq_true rfl)) dX0_expand_83 ⟨(show (gn - g0) + 0 ≤ 196608 from by omega), (show (14 * (gn - g0)) + 0 ≤ 2748928 from by omega)⟩) (fun zi1682 hp1678 H locs hq1681 hw hS => ?_)
            obtain ⟨ok1679, F1680, bd1683⟩ := hq1681
            have hw : PW G cy K ln Ls A hp1678 H := hw
            refine lv_pop hx hb dX0_expand_86 rfl ?_
            refine lv_aload_n hx hb dX0_expand_87 rfl (lv_at hl 0 rfl) ?_
            have eq1684 : hp1678 qa900 1 = .ref qa1666 := Eq.trans (Fr.at (cq := 1001) F1680 kd1101 (cd_o (by decide)) (by decide)) eq1677
            refine p_get (ci := 0) (v := .ref qa1666) (C := RX0) (T := TX0) (N := 8) hx hb hT iw_X0 hown hK hw hW kd1101 (by decide) rfl rfl 1 (by decide) eq1684 (hT _ tb_592) (fun _ h9 => h9) dX0_expand_88 ?_
            obtain ⟨zi1686, eq1685⟩ := rd_8006 ok1679 kd1667
            refine p_getN (ci := 7) (v := .int zi1686) (C := RX7) (T := TX7) (N := 13) hx hb hT iw_X7 hown hK hw hW kd1667 (by decide) rfl rfl 6 (by decide) eq1685 (hK.fl nw_327) (fun _ h9 => h9) dX0_expand_91 ?_
            refine lv_aload_n hx hb dX0_expand_94 rfl (lv_at hl 0 rfl) ?_
            obtain ⟨zi1688, eq1687⟩ := rd_1007 ok1679 kd1101
            refine p_get (ci := 0) (v := .int zi1688) (C := RX0) (T := TX0) (N := 8) hx hb hT iw_X0 hown hK hw hW kd1101 (by decide) rfl rfl 7 (by decide) eq1687 (hT _ tb_602) (fun _ h9 => h9) dX0_expand_95 ?_
            refine lv_ishr hx hb dX0_expand_98 (lv_topi (fun zi1689 ea1690 => ?_))
            refine lv_iconst (v := 1) hx hb dX0_expand_99 (by decide) ?_
            refine lv_iand hx hb dX0_expand_100 (lv_topi (fun zi1691 ea1692 => ?_))
            have bd1693 : (0 : Int) ≤ zi1691.toInt ∧ zi1691.toInt ≤ 1 := b_and_r ea1692 bc_1 (by decide) (by decide) (by decide)
            refine lv_if_eq (tgt := 107) hx hb dX0_expand_101 (by decide) (fun cn1694 => ?_) (fun cn1694 => ?_)
            · skip
              have bd1695 : (0 : Int) ≤ zi1691.toInt ∧ zi1691.toInt ≤ 0 := r_eq_x cn1694 bd1693 bc_0 (by decide) (by decide)
              refine lv_aload_n hx hb dX0_expand_107 rfl (lv_at hl 0 rfl) ?_
              refine p_get (ci := 0) (v := .ref qa1666) (C := RX0) (T := TX0) (N := 8) hx hb hT iw_X0 hown hK hw hW kd1101 (by decide) rfl rfl 1 (by decide) eq1684 (hT _ tb_592) (fun _ h9 => h9) dX0_expand_108 ?_
              refine p_getN (ci := 7) (v := .int zi1686) (C := RX7) (T := TX7) (N := 13) hx hb hT iw_X7 hown hK hw hW kd1667 (by decide) rfl rfl 6 (by decide) eq1685 (hK.fl nw_327) (fun _ h9 => h9) dX0_expand_111 ?_
              refine lv_aload_n hx hb dX0_expand_114 rfl (lv_at hl 0 rfl) ?_
              obtain ⟨zi1697, eq1696⟩ := rd_1006 ok1679 kd1101
              refine p_get (ci := 0) (v := .int zi1697) (C := RX0) (T := TX0) (N := 8) hx hb hT iw_X0 hown hK hw hW kd1101 (by decide) rfl rfl 6 (by decide) eq1696 (hT _ tb_601) (fun _ h9 => h9) dX0_expand_115 ?_
              refine lv_ishr hx hb dX0_expand_118 (lv_topi (fun zi1698 ea1699 => ?_))
              refine lv_iconst (v := 1) hx hb dX0_expand_119 (by decide) ?_
              refine lv_iand hx hb dX0_expand_120 (lv_topi (fun zi1700 ea1701 => ?_))
              have bd1702 : (0 : Int) ≤ zi1700.toInt ∧ zi1700.toInt ≤ 1 := b_and_r ea1701 bc_1 (by decide) (by decide) (by decide)
              refine lv_if_eq (tgt := 134) hx hb dX0_expand_121 (by decide) (fun cn1703 => ?_) (fun cn1703 => ?_)
              · skip
                have bd1704 : (0 : Int) ≤ zi1700.toInt ∧ zi1700.toInt ≤ 0 := r_eq_x cn1703 bd1702 bc_0 (by decide) (by decide)
                refine lv_iload_n hx hb dX0_expand_134 rfl (lv_at hl 3 rfl) ?_
                refine lv_iconst (v := 4) hx hb dX0_expand_135 (by decide) ?_
                refine lv_icmp_ge (tgt := 159) hx hb dX0_expand_136 (by decide) (fun cn1705 => ?_) (fun cn1705 => ?_)
                · skip
                  have bd1706 : (4 : Int) ≤ zi903.toInt ∧ zi903.toInt ≤ 4 := r_le_y cn1705 bc_4 bd903 (by decide) (by decide)
                  obtain ⟨zi1707, ea1708⟩ : ∃ z : Int32, z = zi1097 + 1 := ⟨_, rfl⟩
                  have bd1709 : (1 : Int) ≤ zi1707.toInt ∧ zi1707.toInt ≤ 16 := b_iadd ea1708 bd1548 bc_1 (by decide) (by decide) (by decide) (by decide)
                  have qe1710 : zi1707.toInt = (zi1097 : Int32).toInt + (1 : Int32).toInt := e_iadd ea1708 bd1548 bc_1 (by decide) (by decide)
                  have qe1711 : zi1707.toInt = zi1097.toInt + 1 := by have ha : (1 : Int32).toInt = 1 := (by decide); rw [ha] at qe1710; exact qe1710
                  refine lv_iinc (v := zi1707) (lv' := [(6, .int zi1707), (0, .ref qa900), (1, .ref qa901), (2, .int zi902), (3, .int zi903), (4, .int zi10), (5, .int zi15)]) hx hb dX0_expand_159 hl (k := 6) rfl ea1708.symm (by decide) rfl (fun ls hl => ?_)
                  refine lv_goto (tgt := 25) hx hb dX0_expand_162 (by decide) ?_
                  have pd1712 : NSx K ln hp1678 gn := NSx_fr ok1099  (show Fr [3003, 3004, 8000, 8001, 8002, 8004, 8006, 8008, 27000, 40000, 41000, 42000] K hp1098 hp1678 from (Fr.tr (Fr.put (cq := 8006) (Fr.tr (Fr.rf) F1670 (by decide)) eh1675 kd1667 (cd_o (by decide)) (by decide)) F1680 (by decide))) (by decide) pd1100
                  exact ih1539 K ln Ls gn hp1678 zi1707 _ _ ls (by have := hm1541; have := qe1711; omega) hW gex (FrX.tr gfx gex (FrX.of (show Fr [3003, 3004, 8000, 8001, 8002, 8004, 8006, 8008, 27000, 40000, 41000, 42000] K hp1098 hp1678 from (Fr.tr (Fr.put (cq := 8006) (Fr.tr (Fr.rf) F1670 (by decide)) eh1675 kd1667 (cd_o (by decide)) (by decide)) F1680 (by decide)))) (by decide)) ok1679 pd1712 (by omega) kd1101 kd1102 (b_wid2 bd1709 (by decide) (by decide)) (lv_sub hl [1, 2, 3, 4, 5, 6, 0] rfl) hw hS
                · skip
                  have bd1713 : (1 : Int) ≤ zi903.toInt ∧ zi903.toInt ≤ 3 := r_lt_x (Int32.not_le.mp cn1705) bd903 bc_4 (by decide) (by decide)
                  refine lv_aload_n hx hb dX0_expand_139 rfl (lv_at hl 0 rfl) ?_
                  have eq1714 : hp1678 qa900 0 = .ref qa1663 := Eq.trans (Fr.at (cq := 1000) F1680 kd1101 (cd_o (by decide)) (by decide)) (Eq.trans (up_at eh1675 (Or.inl (kd_ne kd1101 kd1667 (by decide)))) (Eq.trans (Fr.at (cq := 1000) F1670 kd1101 (cd_o (by decide)) (by decide)) eq1662))
                  refine p_get (ci := 0) (v := .ref qa1663) (C := RX0) (T := TX0) (N := 8) hx hb hT iw_X0 hown hK hw hW kd1101 (by decide) rfl rfl 0 (by decide) eq1714 (hT _ tb_591) (fun _ h9 => h9) dX0_expand_140 ?_
                  refine lv_aload_n hx hb dX0_expand_143 rfl (lv_at hl 0 rfl) ?_
                  refine p_get (ci := 0) (v := .ref qa1666) (C := RX0) (T := TX0) (N := 8) hx hb hT iw_X0 hown hK hw hW kd1101 (by decide) rfl rfl 1 (by decide) eq1684 (hT _ tb_592) (fun _ h9 => h9) dX0_expand_144 ?_
                  refine lv_iload_n hx hb dX0_expand_147 rfl (lv_at hl 2 rfl) ?_
                  refine lv_bipush (v := 16) hx hb dX0_expand_148 (by decide) ?_
                  refine lv_imul hx hb dX0_expand_150 (lv_topi (fun zi1715 ea1716 => ?_))
                  have bd1717 : (0 : Int) ≤ zi1715.toInt ∧ zi1715.toInt ≤ 2097136 := b_imul ea1716 bd902 bc_16 (by decide) (by decide) (by decide) (by decide) (by decide)
                  have qe1718 : zi1715.toInt = (zi902 : Int32).toInt * (16 : Int32).toInt := e_imul (b := 131071) (d := 16) ea1716 (b_wid2 bd902 (by decide) (by decide)) (b_wid2 bc_16 (by decide) (by decide)) (by decide)
                  have qe1719 : zi1715.toInt = zi902.toInt * 16 := by have ha : (16 : Int32).toInt = 16 := (by decide); rw [ha] at qe1718; exact qe1718
                  refine lv_iload hx hb dX0_expand_151 (lv_at hl 6 rfl) ?_
                  refine lv_iadd hx hb dX0_expand_153 (lv_topi (fun zi1720 ea1721 => ?_))
                  have bd1722 : (0 : Int) ≤ zi1720.toInt ∧ zi1720.toInt ≤ 2097151 := b_iadd ea1721 bd1717 bd1548 (by decide) (by decide) (by decide) (by decide)
                  have qe1723 : zi1720.toInt = zi1715.toInt + zi1097.toInt := e_iadd ea1721 bd1717 bd1548 (by decide) (by decide)
                  refine lv_lconst (v := 1) hx hb dX0_expand_154 (by decide) ?_
                  refine lv_iconst (v := 0) hx hb dX0_expand_155 (by decide) ?_
                  have pd1724 : NSx K ln hp1678 gn := NSx_fr ok1099  (show Fr [3003, 3004, 8000, 8001, 8002, 8004, 8006, 8008, 27000, 40000, 41000, 42000] K hp1098 hp1678 from (Fr.tr (Fr.put (cq := 8006) (Fr.tr (Fr.rf) F1670 (by decide)) eh1675 kd1667 (cd_o (by decide)) (by decide)) F1680 (by decide))) (by decide) pd1100
                  have gf1732 : FrX wsC K0 hp0 hp1678 := (FrX.tr gfx gex (FrX.of (show Fr [3003, 3004, 8000, 8001, 8002, 8004, 8006, 8008, 27000, 40000, 41000, 42000] K hp1098 hp1678 from (Fr.tr (Fr.put (cq := 8006) (Fr.tr (Fr.rf) F1670 (by decide)) eh1675 kd1667 (cd_o (by decide)) (by decide)) F1680 (by decide)))) (by decide))
                  refine kg_v hw hS hA (va_runV (As := [.ref qa1666, .int zi1720, .long 1, .int 0]) (rest := []) ⟨hx, hb, hml, hown, hT⟩ (Met.szx (cX3_add_vG_0 l G cy ev K ln Ls hW _ hp1678 ok1679 qa1663 qa1666 zi1720 1 0 gn kd1664 kd1667 pd1724)) (cwV 4 hT (good_V tb_1142 tb_1139 tb_1140 tb_1141 tb_117) rfl rfl rfl (by decide +kernel) ⟨Nat.le_of_ble_eq_true rfl, Nat.le_of_ble_eq_true rfl⟩) (pool_preV (ci := 3) hK hE hS hA hw hW kd1664 (by decide) rfl) rfl rfl hl.1 rfl (lv_room (Nat.le_of_ble_eq_true rfl)) dX0_expand_156 ⟨(show (gn - g0) + 65536 ≤ 196608 from by omega), (show (14 * (gn - g0)) + 917504 ≤ 2748928 from by omega)⟩) (fun u gn H locs hq1725 hw hS => ?_)
                  obtain ⟨K, ln, Ls, hp1726⟩ := u
                  obtain ⟨ex1728, hW, ok1727, fx1729, pd1730, hle1731⟩ := hq1725
                  have hw : PW G cy K ln Ls A hp1726 H := hw
                  have gfx : FrX wsC K0 hp0 hp1726 := FrX.tr gf1732 gex fx1729 (by decide)
                  have gex := EXx.tr gex ex1728
                  have kd1735 := EXx.kd ex1728 kd1101 (by decide)
                  have kd1736 := EXx.kd ex1728 kd1102 (by decide)
                  have hgn := NSx.bd pd1730
                  refine W.widen (k := gn - g0) (n := 14 * (gn - g0)) (by omega) (by omega) ?_
                  have hga : g0 ≤ gn := by omega
                  obtain ⟨zi1737, ea1738⟩ : ∃ z : Int32, z = zi1097 + 1 := ⟨_, rfl⟩
                  have bd1739 : (1 : Int) ≤ zi1737.toInt ∧ zi1737.toInt ≤ 16 := b_iadd ea1738 bd1548 bc_1 (by decide) (by decide) (by decide) (by decide)
                  have qe1740 : zi1737.toInt = (zi1097 : Int32).toInt + (1 : Int32).toInt := e_iadd ea1738 bd1548 bc_1 (by decide) (by decide)
                  have qe1741 : zi1737.toInt = zi1097.toInt + 1 := by have ha : (1 : Int32).toInt = 1 := (by decide); rw [ha] at qe1740; exact qe1740
                  refine lv_iinc (v := zi1737) (lv' := [(6, .int zi1737), (0, .ref qa900), (1, .ref qa901), (2, .int zi902), (3, .int zi903), (4, .int zi10), (5, .int zi15)]) hx hb dX0_expand_159 hl (k := 6) rfl ea1738.symm (by decide) rfl (fun ls hl => ?_)
                  refine lv_goto (tgt := 25) hx hb dX0_expand_162 (by decide) ?_
                  exact ih1539 K ln Ls gn hp1726 zi1737 _ _ ls (by have := hm1541; have := qe1741; omega) hW gex gfx ok1727 pd1730 (by omega) kd1735 kd1736 (b_wid2 bd1739 (by decide) (by decide)) (lv_sub hl [1, 2, 3, 4, 5, 6, 0] rfl) hw hS
              · skip
                have tf1742 : (zi1700 : Int32).toInt ≠ (0 : Int32).toInt := fun e => cn1703 (Int32.toInt_inj.mp e)
                have := toi bc_0
                have bd1743 : (1 : Int) ≤ zi1700.toInt ∧ zi1700.toInt ≤ 1 := r_ne_lo cn1703 bd1702 (toi bc_0) (by decide) (by decide)
                refine lv_aload_n hx hb dX0_expand_124 rfl (lv_at hl 0 rfl) ?_
                refine lv_aload_n hx hb dX0_expand_125 rfl (lv_at hl 1 rfl) ?_
                refine lv_iload_n hx hb dX0_expand_126 rfl (lv_at hl 2 rfl) ?_
                refine lv_iload hx hb dX0_expand_127 (lv_at hl 6 rfl) ?_
                refine lv_iload_n hx hb dX0_expand_129 rfl (lv_at hl 3 rfl) ?_
                have pd1744 : NSx K ln hp1678 gn := NSx_fr ok1099  (show Fr [3003, 3004, 8000, 8001, 8002, 8004, 8006, 8008, 27000, 40000, 41000, 42000] K hp1098 hp1678 from (Fr.tr (Fr.put (cq := 8006) (Fr.tr (Fr.rf) F1670 (by decide)) eh1675 kd1667 (cd_o (by decide)) (by decide)) F1680 (by decide))) (by decide) pd1100
                refine kq_v hw hS hA (va_runV (As := [.ref qa901, .int zi902, .int zi1097, .int zi903]) (rest := []) ⟨hx, hb, hml, hown, hT⟩ (cX0_keepPath_0 l G cy ev K ln Ls hW _ hp1678 ok1679 qa900 qa901 zi902 zi1097 zi903 gn kd1101 kd1102 (b_wid2 bd903 (by decide) (by decide)) pd1744) (cwV 4 hT (good_V tb_1202 tb_1199 tb_1201 tb_37 tb_120) rfl rfl rfl (by decide +kernel) ⟨Nat.le_of_ble_eq_true rfl, Nat.le_of_ble_eq_true rfl⟩) (pool_preV (ci := 0) hK hE hS hA hw hW kd1101 (by decide) rfl) rfl rfl hl.1 rfl (lv_room (Nat.le_of_ble_eq_true rfl)) dX0_expand_130 ⟨(show (gn - g0) + 0 ≤ 196608 from by omega), (show (14 * (gn - g0)) + 0 ≤ 2748928 from by omega)⟩) (fun hp1745 H locs hq1748 hw hS => ?_)
                obtain ⟨ok1746, F1747⟩ := hq1748
                have hw : PW G cy K ln Ls A hp1745 H := hw
                rw [hQ]
                have pd1750 : NSx K ln hp1745 gn := NSx_fr ok1679  (show Fr [1003, 1004, 20000] K hp1678 hp1745 from (Fr.tr (Fr.rf) F1747 (by decide))) (by decide) pd1744
                exact kgz_v (n := g0) hx hb hr hlocks hS (((K, ln, Ls, hp1745), gn) : GU × Nat) hw ⟨gex, hW, ok1746, (FrX.tr gfx gex (FrX.of (show Fr [1003, 1004, 3003, 3004, 8000, 8001, 8002, 8004, 8006, 8008, 20000, 27000, 40000, 41000, 42000] K hp1098 hp1745 from (Fr.tr (Fr.tr (Fr.put (cq := 8006) (Fr.tr (Fr.rf) F1670 (by decide)) eh1675 kd1667 (cd_o (by decide)) (by decide)) F1680 (by decide)) F1747 (by decide)))) (by decide)), pd1750, (by omega)⟩ (show (gn - g0) ≤ gn - g0 from by omega) (show (14 * (gn - g0)) ≤ 14 * (gn - g0) from by omega) (show (gn - g0) ≤ 196608 from by omega) (show (14 * (gn - g0)) ≤ 2748928 from by omega) dX0_expand_133
            · skip
              have tf1751 : (zi1691 : Int32).toInt ≠ (0 : Int32).toInt := fun e => cn1694 (Int32.toInt_inj.mp e)
              have := toi bc_0
              have bd1752 : (1 : Int) ≤ zi1691.toInt ∧ zi1691.toInt ≤ 1 := r_ne_lo cn1694 bd1693 (toi bc_0) (by decide) (by decide)
              refine lv_goto (tgt := 159) hx hb dX0_expand_104 (by decide) ?_
              obtain ⟨zi1753, ea1754⟩ : ∃ z : Int32, z = zi1097 + 1 := ⟨_, rfl⟩
              have bd1755 : (1 : Int) ≤ zi1753.toInt ∧ zi1753.toInt ≤ 16 := b_iadd ea1754 bd1548 bc_1 (by decide) (by decide) (by decide) (by decide)
              have qe1756 : zi1753.toInt = (zi1097 : Int32).toInt + (1 : Int32).toInt := e_iadd ea1754 bd1548 bc_1 (by decide) (by decide)
              have qe1757 : zi1753.toInt = zi1097.toInt + 1 := by have ha : (1 : Int32).toInt = 1 := (by decide); rw [ha] at qe1756; exact qe1756
              refine lv_iinc (v := zi1753) (lv' := [(6, .int zi1753), (0, .ref qa900), (1, .ref qa901), (2, .int zi902), (3, .int zi903), (4, .int zi10), (5, .int zi15)]) hx hb dX0_expand_159 hl (k := 6) rfl ea1754.symm (by decide) rfl (fun ls hl => ?_)
              refine lv_goto (tgt := 25) hx hb dX0_expand_162 (by decide) ?_
              have pd1758 : NSx K ln hp1678 gn := NSx_fr ok1099  (show Fr [3003, 3004, 8000, 8001, 8002, 8004, 8006, 8008, 27000, 40000, 41000, 42000] K hp1098 hp1678 from (Fr.tr (Fr.put (cq := 8006) (Fr.tr (Fr.rf) F1670 (by decide)) eh1675 kd1667 (cd_o (by decide)) (by decide)) F1680 (by decide))) (by decide) pd1100
              exact ih1539 K ln Ls gn hp1678 zi1753 _ _ ls (by have := hm1541; have := qe1757; omega) hW gex (FrX.tr gfx gex (FrX.of (show Fr [3003, 3004, 8000, 8001, 8002, 8004, 8006, 8008, 27000, 40000, 41000, 42000] K hp1098 hp1678 from (Fr.tr (Fr.put (cq := 8006) (Fr.tr (Fr.rf) F1670 (by decide)) eh1675 kd1667 (cd_o (by decide)) (by decide)) F1680 (by decide)))) (by decide)) ok1679 pd1758 (by omega) kd1101 kd1102 (b_wid2 bd1755 (by decide) (by decide)) (lv_sub hl [1, 2, 3, 4, 5, 6, 0] rfl) hw hS
          · skip
            have tf1759 : (zi1656 : Int32).toInt ≠ (zi15 : Int32).toInt := fun e => cn1659 (Int32.toInt_inj.mp e)
            refine lv_goto (tgt := 159) hx hb dX0_expand_53 (by decide) ?_
            obtain ⟨zi1760, ea1761⟩ : ∃ z : Int32, z = zi1097 + 1 := ⟨_, rfl⟩
            have bd1762 : (1 : Int) ≤ zi1760.toInt ∧ zi1760.toInt ≤ 16 := b_iadd ea1761 bd1548 bc_1 (by decide) (by decide) (by decide) (by decide)
            have qe1763 : zi1760.toInt = (zi1097 : Int32).toInt + (1 : Int32).toInt := e_iadd ea1761 bd1548 bc_1 (by decide) (by decide)
            have qe1764 : zi1760.toInt = zi1097.toInt + 1 := by have ha : (1 : Int32).toInt = 1 := (by decide); rw [ha] at qe1763; exact qe1763
            refine lv_iinc (v := zi1760) (lv' := [(6, .int zi1760), (0, .ref qa900), (1, .ref qa901), (2, .int zi902), (3, .int zi903), (4, .int zi10), (5, .int zi15)]) hx hb dX0_expand_159 hl (k := 6) rfl ea1761.symm (by decide) rfl (fun ls hl => ?_)
            refine lv_goto (tgt := 25) hx hb dX0_expand_162 (by decide) ?_
            exact ih1539 K ln Ls gn hp1098 zi1760 _ _ ls (by have := hm1541; have := qe1764; omega) hW gex gfx ok1099 pd1100 (by omega) kd1101 kd1102 (b_wid2 bd1762 (by decide) (by decide)) (lv_sub hl [1, 2, 3, 4, 5, 6, 0] rfl) hw hS
  exact lp1540 _ K ln Ls gn hp0 0 _ _ ls (lp_in _) hW gex gfx ok1 pdNS (by omega) kd900 kd901 (b_wid2 bc_0 (by decide) (by decide)) (lv_sub hl [3, 4, 5, 6, 2, 1, 0] rfl) hw hS

set_option maxRecDepth 100000 in
set_option maxHeartbeats 4000000 in
theorem cX0_find_0 (l : Launch) (G : va_G) (cy : Nat → ClassId) (ev : Ew) (K0 ln0 : Nat → Nat) (Ls0 : List Nat) (hW0 : SW K0 ln0 Ls0) (sz : Nat) (hp0 : Nat → Nat → Value) (ok0 : Ok K0 hp0) (qa900 : Nat) (qa901 : Nat) (qa902 : Nat) (zi903 : Int32) (zi904 : Int32) (g0 : Nat) (kd900 : K0 qa900 = 1) (kd901 : K0 qa901 = 11) (kd902 : K0 qa902 = 8) (bd903 : ((0 : Int) ≤ zi903.toInt ∧ zi903.toInt ≤ 7)) (bd904 : ((0 : Int) ≤ zi904.toInt ∧ zi904.toInt ≤ 7)) (pdNS : NSx K0 ln0 hp0 g0) : Met l yX0_find (WS yX0_find cX0_find 9 none) { frames := 6, cells := 327680, slots := 4580352, locals := 150 } (PB2 [.ref qa900, .ref qa901, .ref qa902, .int zi903, .int zi904] sz G cy ev (va_pl Ls0 (cellOf cy K0 ln0 hp0))) (QGv (fun u : GU × Nat => GPx wsC K0 ln0 hp0 g0 u.1 u.2) G cy g0 (va_A (va_pl Ls0 (cellOf cy K0 ln0 hp0)) sz)) 327680 4580352 (va_A (va_pl Ls0 (cellOf cy K0 ln0 hp0)) sz) := by
  refine met_of2 (y := yX0_find) (L := 9) (av := [.ref qa900, .ref qa901, .ref qa902, .int zi903, .int zi904]) (Qc := fun A => QGv (fun u : GU × Nat => GPx wsC K0 ln0 hp0 g0 u.1 u.2) G cy g0 A) (plainFor_of_name (by decide)) (Nat.le_of_ble_eq_true rfl) ?_
  intro p e s m below meth c hsz hx hb hr hml hown hT hlocks hin hK A hA hE hw hS ls hl
  have hw : PW G cy K0 ln0 Ls0 A hp0 s.heap := hw
  have hown : s.vm.findClass "LieClock$Ahead" = some m.cls := hown
  have hl : lv_has ls 9 [(0, .ref qa900), (1, .ref qa901), (2, .ref qa902), (3, .int zi903), (4, .int zi904)] := hl
  obtain ⟨Q, hQ⟩ : ∃ Q : State → Prop, Q = MQ below (QGv (fun u : GU × Nat => GPx wsC K0 ln0 hp0 g0 u.1 u.2) G cy g0 A) ([.ref qa900, .ref qa901, .ref qa902, .int zi903, .int zi904] : List Value).toArray s 327680 4580352 A := ⟨_, rfl⟩
  rw [← hQ]
  obtain ⟨K, ln, Ls, gn, hW, gex, gfx, ok1, hKe, hga, hge, kd900, kd901, kd902, pdNS, hw⟩ : ∃ (K ln : Nat → Nat) (Ls : List Nat) (gn : Nat), SW K ln Ls ∧ EXx K0 ln0 K ln ∧ FrX wsC K0 hp0 hp0 ∧ Ok K hp0 ∧ K = K0 ∧ g0 ≤ gn ∧ gn = g0 ∧ (K qa900 = 1) ∧ (K qa901 = 11) ∧ (K qa902 = 8) ∧ (NSx K ln hp0 gn) ∧ PW G cy K ln Ls A hp0 s.heap := ⟨K0, ln0, Ls0, g0, hW0, EXx.rf, FrX.rf, ok0, rfl, Nat.le_refl _, rfl, kd900, kd901, kd902, pdNS, hw⟩
  have hg0 : 256 ≤ g0 ∧ g0 ≤ 131072 := by have := NSx.bd pdNS; omega
  refine W.widen (k := gn - g0) (n := 14 * (gn - g0)) (Nat.zero_le _) (Nat.zero_le _) ?_
  have hgn := NSx.bd pdNS
  refine lv_aload_n hx hb dX0_find_0 rfl (lv_at hl 0 rfl) ?_
  obtain ⟨zi2, eq1, bd3⟩ := rd_1005 ok1 kd900
  refine p_get (ci := 0) (v := .int zi2) (C := RX0) (T := TX0) (N := 8) hx hb hT iw_X0 hown hK hw hW kd900 (by decide) rfl rfl 5 (by decide) eq1 (hT _ tb_599) (fun _ h9 => h9) dX0_find_1 ?_
  refine lv_if_eq (tgt := 25) hx hb dX0_find_4 (by decide) (fun cn4 => ?_) (fun cn4 => ?_)
  · skip
    have bd5 : (0 : Int) ≤ zi2.toInt ∧ zi2.toInt ≤ 0 := r_eq_x cn4 bd3 bc_0 (by decide) (by decide)
    refine lv_aload_n hx hb dX0_find_25 rfl (lv_at hl 0 rfl) ?_
    refine lv_iconst (v := 1) hx hb dX0_find_26 (by decide) ?_
    refine p_put (ci := 0) (v := .int 1) (ty := .boolean) (C := RX0) (T := TX0) (N := 8) hx hb hT iw_X0 tyX0 tyX0_ok nmX0 hown hK hw hS hW kd900 (by decide) rfl rfl 5 (by decide) (hT _ tb_599) (fun _ h9 => h9) rfl (by decide +kernel) (nz_n bc_1 (by decide) (by decide)) (nz_f bc_1 (by decide) (by decide)) dX0_find_27 (fun hp6 eh7 H locs hw hS => ?_)
    have ok8 := wr_1005 bc_1 (by decide) (by decide) ok1 kd900 eh7
    refine lv_aload_n hx hb dX0_find_30 rfl (lv_at hl 0 rfl) ?_
    refine lv_iload_n hx hb dX0_find_31 rfl (lv_at hl 3 rfl) ?_
    refine p_put (ci := 0) (v := .int zi903) (ty := .int) (C := RX0) (T := TX0) (N := 8) hx hb hT iw_X0 tyX0 tyX0_ok nmX0 hown hK hw hS hW kd900 (by decide) rfl rfl 6 (by decide) (hT _ tb_601) (fun _ h9 => h9) rfl (by decide +kernel) rfl rfl dX0_find_32 (fun hp9 eh10 H locs hw hS => ?_)
    have ok11 := wr_1006 ok8 kd900 eh10
    refine lv_aload_n hx hb dX0_find_35 rfl (lv_at hl 0 rfl) ?_
    refine lv_iload hx hb dX0_find_36 (lv_at hl 4 rfl) ?_
    refine p_put (ci := 0) (v := .int zi904) (ty := .int) (C := RX0) (T := TX0) (N := 8) hx hb hT iw_X0 tyX0 tyX0_ok nmX0 hown hK hw hS hW kd900 (by decide) rfl rfl 7 (by decide) (hT _ tb_602) (fun _ h9 => h9) rfl (by decide +kernel) rfl rfl dX0_find_38 (fun hp12 eh13 H locs hw hS => ?_)
    have ok14 := wr_1007 ok11 kd900 eh13
    refine lv_aload_n hx hb dX0_find_41 rfl (lv_at hl 0 rfl) ?_
    refine lv_iconst (v := 0) hx hb dX0_find_42 (by decide) ?_
    refine p_put (ci := 0) (v := .int 0) (ty := .int) (C := RX0) (T := TX0) (N := 8) hx hb hT iw_X0 tyX0 tyX0_ok nmX0 hown hK hw hS hW kd900 (by decide) rfl rfl 3 (by decide) (hT _ tb_595) (fun _ h9 => h9) rfl (by decide +kernel) rfl rfl dX0_find_43 (fun hp15 eh16 H locs hw hS => ?_)
    have ok17 := wr_1003 bc_0 (by decide) (by decide) ok14 kd900 eh16
    refine lv_aload_n hx hb dX0_find_46 rfl (lv_at hl 0 rfl) ?_
    refine lv_iconst (v := 0) hx hb dX0_find_47 (by decide) ?_
    refine p_put (ci := 0) (v := .int 0) (ty := .int) (C := RX0) (T := TX0) (N := 8) hx hb hT iw_X0 tyX0 tyX0_ok nmX0 hown hK hw hS hW kd900 (by decide) rfl rfl 4 (by decide) (hT _ tb_597) (fun _ h9 => h9) rfl (by decide +kernel) rfl rfl dX0_find_48 (fun hp18 eh19 H locs hw hS => ?_)
    have ok20 := wr_1004 ok17 kd900 eh19
    refine lv_aload_n hx hb dX0_find_51 rfl (lv_at hl 0 rfl) ?_
    obtain ⟨qa22, eq21, kd23⟩ := rd_1000 ok20 kd900
    refine p_get (ci := 0) (v := .ref qa22) (C := RX0) (T := TX0) (N := 8) hx hb hT iw_X0 hown hK hw hW kd900 (by decide) rfl rfl 0 (by decide) eq21 (hT _ tb_591) (fun _ h9 => h9) dX0_find_52 ?_
    have pd24 : NSx K ln hp18 gn := NSx_fr ok1  (show Fr [1003, 1004, 1005, 1006, 1007] K hp0 hp18 from (Fr.put (cq := 1004) (Fr.put (cq := 1003) (Fr.put (cq := 1007) (Fr.put (cq := 1006) (Fr.put (cq := 1005) (Fr.rf) eh7 kd900 (cd_o (by decide)) (by decide)) eh10 kd900 (cd_o (by decide)) (by decide)) eh13 kd900 (cd_o (by decide)) (by decide)) eh16 kd900 (cd_o (by decide)) (by decide)) eh19 kd900 (cd_o (by decide)) (by decide))) (by decide) pdNS
    refine kq_v hw hS hA (va_runV (As := []) (rest := []) ⟨hx, hb, hml, hown, hT⟩ (cX3_clear_0 l G cy ev K ln Ls hW _ hp18 ok20 qa22 gn kd23 pd24) (cwV 0 hT (good_V tb_1136 tb_1133 tb_1134 tb_1135 tb_117) rfl rfl rfl (by decide +kernel) ⟨Nat.le_of_ble_eq_true rfl, Nat.le_of_ble_eq_true rfl⟩) (pool_preV (ci := 3) hK hE hS hA hw hW kd23 (by decide) rfl) rfl rfl hl.1 rfl (lv_room (Nat.le_of_ble_eq_true rfl)) dX0_find_55 ⟨(show (gn - g0) + 0 ≤ 327680 from by omega), (show (14 * (gn - g0)) + 0 ≤ 4580352 from by omega)⟩) (fun hp25 H locs hq28 hw hS => ?_)
    obtain ⟨ok26, F27, ⟨zi30, eq31, bd32⟩, xq33⟩ := hq28
    have hw : PW G cy K ln Ls A hp25 H := hw
    refine lv_aload_n hx hb dX0_find_58 rfl (lv_at hl 0 rfl) ?_
    obtain ⟨qa35, eq34, kd36⟩ := rd_1001 ok26 kd900
    refine p_get (ci := 0) (v := .ref qa35) (C := RX0) (T := TX0) (N := 8) hx hb hT iw_X0 hown hK hw hW kd900 (by decide) rfl rfl 1 (by decide) eq34 (hT _ tb_592) (fun _ h9 => h9) dX0_find_59 ?_
    refine lv_aload_n hx hb dX0_find_62 rfl (lv_at hl 2 rfl) ?_
    refine kq_v hw hS hA (va_runV (As := [.ref qa902]) (rest := []) ⟨hx, hb, hml, hown, hT⟩ (cX7_copyMoment_0 l G cy ev K ln Ls hW _ hp25 ok26 qa35 qa902 kd36 kd902) (cwV 1 hT (good_V tb_1051 tb_1138 tb_1049 tb_1050 tb_115) rfl rfl rfl (by decide +kernel) ⟨Nat.le_of_ble_eq_true rfl, Nat.le_of_ble_eq_true rfl⟩) (pool_preV (ci := 7) hK hE hS hA hw hW kd36 (by decide) rfl) rfl rfl hl.1 rfl (lv_room (Nat.le_of_ble_eq_true rfl)) dX0_find_63 ⟨(show (gn - g0) + 0 ≤ 327680 from by omega), (show (14 * (gn - g0)) + 0 ≤ 4580352 from by omega)⟩) (fun hp37 H locs hq40 hw hS => ?_)
    obtain ⟨ok38, F39⟩ := hq40
    have hw : PW G cy K ln Ls A hp37 H := hw
    refine lv_aload_n hx hb dX0_find_66 rfl (lv_at hl 0 rfl) ?_
    have eq42 : hp37 qa900 0 = .ref qa22 := Eq.trans (Fr.at (cq := 1000) F39 kd900 (cd_o (by decide)) (by decide)) (Eq.trans (Fr.at (cq := 1000) F27 kd900 (cd_o (by decide)) (by decide)) eq21)
    refine p_get (ci := 0) (v := .ref qa22) (C := RX0) (T := TX0) (N := 8) hx hb hT iw_X0 hown hK hw hW kd900 (by decide) rfl rfl 0 (by decide) eq42 (hT _ tb_591) (fun _ h9 => h9) dX0_find_67 ?_
    refine lv_aload_n hx hb dX0_find_70 rfl (lv_at hl 0 rfl) ?_
    have eq43 : hp37 qa900 1 = .ref qa35 := Eq.trans (Fr.at (cq := 1001) F39 kd900 (cd_o (by decide)) (by decide)) eq34
    refine p_get (ci := 0) (v := .ref qa35) (C := RX0) (T := TX0) (N := 8) hx hb hT iw_X0 hown hK hw hW kd900 (by decide) rfl rfl 1 (by decide) eq43 (hT _ tb_592) (fun _ h9 => h9) dX0_find_71 ?_
    refine lv_iconst (v := 0) hx hb dX0_find_74 (by decide) ?_
    refine lv_lconst (v := 1) hx hb dX0_find_75 (by decide) ?_
    refine lv_iconst (v := 0) hx hb dX0_find_76 (by decide) ?_
    have pd44 : NSx K ln hp37 gn := NSx_fr ok26  (show Fr [8000, 8001, 8002, 8003, 8004, 8005] K hp25 hp37 from (Fr.tr (Fr.rf) F39 (by decide))) (by decide) xq33
    have gf52 : FrX wsC K0 hp0 hp37 := (FrX.tr gfx gex (FrX.of (show Fr [1003, 1004, 1005, 1006, 1007, 4006, 8000, 8001, 8002, 8003, 8004, 8005, 33000] K hp0 hp37 from (Fr.tr (Fr.tr (Fr.put (cq := 1004) (Fr.put (cq := 1003) (Fr.put (cq := 1007) (Fr.put (cq := 1006) (Fr.put (cq := 1005) (Fr.rf) eh7 kd900 (cd_o (by decide)) (by decide)) eh10 kd900 (cd_o (by decide)) (by decide)) eh13 kd900 (cd_o (by decide)) (by decide)) eh16 kd900 (cd_o (by decide)) (by decide)) eh19 kd900 (cd_o (by decide)) (by decide)) F27 (by decide)) F39 (by decide)))) (by decide))
    refine kg_v hw hS hA (va_runV (As := [.ref qa35, .int 0, .long 1, .int 0]) (rest := []) ⟨hx, hb, hml, hown, hT⟩ (Met.szx (cX3_add_vG_0 l G cy ev K ln Ls hW _ hp37 ok38 qa22 qa35 0 1 0 gn kd23 kd36 pd44)) (cwV 4 hT (good_V tb_1142 tb_1139 tb_1140 tb_1141 tb_117) rfl rfl rfl (by decide +kernel) ⟨Nat.le_of_ble_eq_true rfl, Nat.le_of_ble_eq_true rfl⟩) (pool_preV (ci := 3) hK hE hS hA hw hW kd23 (by decide) rfl) rfl rfl hl.1 rfl (lv_room (Nat.le_of_ble_eq_true rfl)) dX0_find_77 ⟨(show (gn - g0) + 65536 ≤ 327680 from by omega), (show (14 * (gn - g0)) + 917504 ≤ 4580352 from by omega)⟩) (fun u gn H locs hq45 hw hS => ?_)
    obtain ⟨K, ln, Ls, hp46⟩ := u
    obtain ⟨ex48, hW, ok47, fx49, pd50, hle51⟩ := hq45
    have hw : PW G cy K ln Ls A hp46 H := hw
    have gfx : FrX wsC K0 hp0 hp46 := FrX.tr gf52 gex fx49 (by decide)
    have gex := EXx.tr gex ex48
    have kd55 := EXx.kd ex48 kd900 (by decide)
    have kd56 := EXx.kd ex48 kd902 (by decide)
    have kd57 := EXx.kd ex48 kd901 (by decide)
    have hgn := NSx.bd pd50
    refine W.widen (k := gn - g0) (n := 14 * (gn - g0)) (by omega) (by omega) ?_
    have hga : g0 ≤ gn := by omega
    refine lv_iconst (v := 0) hx hb dX0_find_80 (by decide) ?_
    refine lv_istore (lv' := [(5, .int 0), (0, .ref qa900), (1, .ref qa901), (2, .ref qa902), (3, .int zi903), (4, .int zi904)]) hx hb dX0_find_81 hl (by decide) rfl (fun ls hl => ?_)
    refine lv_iconst (v := 1) hx hb dX0_find_83 (by decide) ?_
    refine lv_istore (lv' := [(6, .int 1), (5, .int 0), (0, .ref qa900), (1, .ref qa901), (2, .ref qa902), (3, .int zi903), (4, .int zi904)]) hx hb dX0_find_84 hl (by decide) rfl (fun ls hl => ?_)
    have jn4045 : ∀ (K ln : Nat → Nat) (Ls : List Nat) (gn : Nat) (hp4039 : Nat → Nat → Value)  (H : Heap) (locs : List Loc) (ls : Array Slot), SW K ln Ls → EXx K0 ln0 K ln → FrX wsC K0 hp0 hp4039 → Ok K hp4039 → NSx K ln hp4039 gn → g0 ≤ gn → K qa900 = 1 → K qa901 = 11 → K qa902 = 8 → lv_has ls 9 [] → PW G cy K ln Ls A hp4039 H → va_S A s.heap H locs → W p l e ({ frames := 6, cells := 327680, slots := 4580352, locals := 150 } : Room) s m ([.ref qa900, .ref qa901, .ref qa902, .int zi903, .int zi904] : List Value).toArray below meth c H locs (gn - g0) (14 * (gn - g0)) Q (F0 m 180 ls []) := by
      intro K ln Ls gn hp4039 H locs ls hW gex gfx ok4040 pd4041 hga kd4042 kd4043 kd4044 hl hw hS
      rw [hQ]
      exact kgz_v (n := g0) hx hb hr hlocks hS (((K, ln, Ls, hp4039), gn) : GU × Nat) hw ⟨gex, hW, ok4040, gfx, pd4041, (by omega)⟩ (show (gn - g0) ≤ gn - g0 from by omega) (show (14 * (gn - g0)) ≤ 14 * (gn - g0) from by omega) (show (gn - g0) ≤ 327680 from by omega) (show (14 * (gn - g0)) ≤ 4580352 from by omega) dX0_find_180
    have lp4048 : ∀ (n4046 : Nat) (K ln : Nat → Nat) (Ls : List Nat) (gn : Nat) (hp3045 : Nat → Nat → Value) (zi3043 : Int32) (zi3044 : Int32) (H : Heap) (locs : List Loc) (ls : Array Slot), 5 - zi3044.toInt < (n4046 : Int) → SW K ln Ls → EXx K0 ln0 K ln → FrX wsC K0 hp0 hp3045 → Ok K hp3045 → NSx K ln hp3045 gn → g0 ≤ gn → K qa900 = 1 → K qa901 = 11 → K qa902 = 8 → ((0 : Int) ≤ zi3043.toInt ∧ zi3043.toInt ≤ 131072) → ((1 : Int) ≤ zi3044.toInt ∧ zi3044.toInt ≤ 5) → lv_has ls 9 [(0, .ref qa900), (1, .ref qa901), (3, .int zi903), (5, .int zi3043), (6, .int zi3044)] → PW G cy K ln Ls A hp3045 H → va_S A s.heap H locs → W p l e ({ frames := 6, cells := 327680, slots := 4580352, locals := 150 } : Room) s m ([.ref qa900, .ref qa901, .ref qa902, .int zi903, .int zi904] : List Value).toArray below meth c H locs (gn - g0) (14 * (gn - g0)) Q (F0 m 86 ls []) := by
      intro n4046
      induction n4046 with
      | zero =>
        intro K ln Ls gn hp3045 zi3043 zi3044 H locs ls hm4049 hW gex gfx ok3046 pd3047 hga kd3048 kd3049 kd3050 bd3051 bd3052 hl hw hS
        exact absurd hm4049 (by have := bd3052; omega)
      | succ n4046 ih4047 =>
        intro K ln Ls gn hp3045 zi3043 zi3044 H locs ls hm4049 hW gex gfx ok3046 pd3047 hga kd3048 kd3049 kd3050 bd3051 bd3052 hl hw hS
        refine lv_iload hx hb dX0_find_86 (lv_at hl 4 rfl) ?_
        refine lv_iconst (v := 4) hx hb dX0_find_88 (by decide) ?_
        refine lv_icmp_gt (tgt := 180) hx hb dX0_find_89 (by decide) (fun cn4050 => ?_) (fun cn4050 => ?_)
        · skip
          have bd4051 : (5 : Int) ≤ zi3044.toInt ∧ zi3044.toInt ≤ 5 := r_lt_y cn4050 bc_4 bd3052 (by decide) (by decide)
          exact jn4045 K ln Ls gn hp3045 _ _ ls hW gex gfx ok3046 pd3047 (by omega) kd3048 kd3049 kd3050 (lv_sub hl [] rfl) hw hS
        · skip
          have bd4052 : (1 : Int) ≤ zi3044.toInt ∧ zi3044.toInt ≤ 4 := r_le_x (Int32.not_lt.mp cn4050) bd3052 bc_4 (by decide) (by decide)
          refine lv_aload_n hx hb dX0_find_92 rfl (lv_at hl 0 rfl) ?_
          obtain ⟨zi4054, eq4053, bd4055⟩ := rd_1003 ok3046 kd3048
          refine p_get (ci := 0) (v := .int zi4054) (C := RX0) (T := TX0) (N := 8) hx hb hT iw_X0 hown hK hw hW kd3048 (by decide) rfl rfl 3 (by decide) eq4053 (hT _ tb_595) (fun _ h9 => h9) dX0_find_93 ?_
          refine lv_if_ne (tgt := 180) hx hb dX0_find_96 (by decide) (fun cn4056 => ?_) (fun cn4056 => ?_)
          · skip
            have tf4057 : (zi4054 : Int32).toInt ≠ (0 : Int32).toInt := fun e => cn4056 (Int32.toInt_inj.mp e)
            have := toi bc_0
            have bd4058 : (1 : Int) ≤ zi4054.toInt ∧ zi4054.toInt ≤ 4 := r_ne_lo cn4056 bd4055 (toi bc_0) (by decide) (by decide)
            exact jn4045 K ln Ls gn hp3045 _ _ ls hW gex gfx ok3046 pd3047 (by omega) kd3048 kd3049 kd3050 (lv_sub hl [] rfl) hw hS
          · skip
            have bd4059 : (0 : Int) ≤ zi4054.toInt ∧ zi4054.toInt ≤ 0 := r_eq_x cn4056 bd4055 bc_0 (by decide) (by decide)
            refine lv_aload_n hx hb dX0_find_99 rfl (lv_at hl 0 rfl) ?_
            obtain ⟨qa4061, eq4060, kd4062⟩ := rd_1000 ok3046 kd3048
            refine p_get (ci := 0) (v := .ref qa4061) (C := RX0) (T := TX0) (N := 8) hx hb hT iw_X0 hown hK hw hW kd3048 (by decide) rfl rfl 0 (by decide) eq4060 (hT _ tb_591) (fun _ h9 => h9) dX0_find_100 ?_
            obtain ⟨zi4064, eq4063, bd4065⟩ := rd_4006 ok3046 kd4062
            have nz4066 := (pd3047).sz kd4062 eq4063
            refine p_getN (ci := 3) (v := .int zi4064) (C := RX3) (T := TX3) (N := 7) hx hb hT iw_X3 hown hK hw hW kd4062 (by decide) rfl rfl 6 (by decide) eq4063 (hK.fl nw_400) (fun _ h9 => h9) dX0_find_103 ?_
            refine lv_istore (lv' := [(7, .int zi4064), (0, .ref qa900), (1, .ref qa901), (3, .int zi903), (5, .int zi3043), (6, .int zi3044)]) hx hb dX0_find_106 hl (by decide) rfl (fun ls hl => ?_)
            refine lv_iload hx hb dX0_find_108 (lv_at hl 4 rfl) ?_
            refine lv_istore (lv' := [(8, .int zi3043), (7, .int zi4064), (0, .ref qa900), (1, .ref qa901), (3, .int zi903), (5, .int zi3043), (6, .int zi3044)]) hx hb dX0_find_110 hl (by decide) rfl (fun ls hl => ?_)
            have jn4462 : ∀ (K ln : Nat → Nat) (Ls : List Nat) (gn : Nat) (hp4456 : Nat → Nat → Value)  (H : Heap) (locs : List Loc) (ls : Array Slot), SW K ln Ls → EXx K0 ln0 K ln → FrX wsC K0 hp0 hp4456 → Ok K hp4456 → NSx K ln hp4456 gn → g0 ≤ gn → K qa900 = 1 → K qa901 = 11 → K qa902 = 8 → lv_has ls 9 [(0, .ref qa900), (1, .ref qa901), (3, .int zi903), (6, .int zi3044), (7, .int zi4064)] → PW G cy K ln Ls A hp4456 H → va_S A s.heap H locs → W p l e ({ frames := 6, cells := 327680, slots := 4580352, locals := 150 } : Room) s m ([.ref qa900, .ref qa901, .ref qa902, .int zi903, .int zi904] : List Value).toArray below meth c H locs (gn - g0) (14 * (gn - g0)) Q (F0 m 170 ls []) := by
              intro K ln Ls gn hp4456 H locs ls hW gex gfx ok4457 pd4458 hga kd4459 kd4460 kd4461 hl hw hS
              refine lv_iload hx hb dX0_find_170 (lv_at hl 4 rfl) ?_
              refine lv_istore (lv' := [(5, .int zi4064), (0, .ref qa900), (1, .ref qa901), (3, .int zi903), (6, .int zi3044), (7, .int zi4064)]) hx hb dX0_find_172 hl (by decide) rfl (fun ls hl => ?_)
              obtain ⟨zi4463, ea4464⟩ : ∃ z : Int32, z = zi3044 + 1 := ⟨_, rfl⟩
              have bd4465 : (2 : Int) ≤ zi4463.toInt ∧ zi4463.toInt ≤ 5 := b_iadd ea4464 bd4052 bc_1 (by decide) (by decide) (by decide) (by decide)
              have qe4466 : zi4463.toInt = (zi3044 : Int32).toInt + (1 : Int32).toInt := e_iadd ea4464 bd4052 bc_1 (by decide) (by decide)
              have qe4467 : zi4463.toInt = zi3044.toInt + 1 := by have ha : (1 : Int32).toInt = 1 := (by decide); rw [ha] at qe4466; exact qe4466
              refine lv_iinc (v := zi4463) (lv' := [(6, .int zi4463), (5, .int zi4064), (0, .ref qa900), (1, .ref qa901), (3, .int zi903), (7, .int zi4064)]) hx hb dX0_find_174 hl (k := 4) rfl ea4464.symm (by decide) rfl (fun ls hl => ?_)
              refine lv_goto (tgt := 86) hx hb dX0_find_177 (by decide) ?_
              exact ih4047 K ln Ls gn hp4456 zi4064 zi4463 _ _ ls (by have := hm4049; have := qe4467; omega) hW gex gfx ok4457 pd4458 (by omega) kd4459 kd4460 kd4461 (b_wid2 bd4065 (by decide) (by decide)) (b_wid2 bd4465 (by decide) (by decide)) (lv_sub hl [2, 3, 4, 1, 0] rfl) hw hS
            have lp4470 : ∀ (n4468 : Nat) (K ln : Nat → Nat) (Ls : List Nat) (gn : Nat) (hp4306 : Nat → Nat → Value) (zi4305 : Int32) (H : Heap) (locs : List Loc) (ls : Array Slot), 131072 - zi4305.toInt < (n4468 : Int) → SW K ln Ls → EXx K0 ln0 K ln → FrX wsC K0 hp0 hp4306 → Ok K hp4306 → NSx K ln hp4306 gn → g0 ≤ gn → K qa900 = 1 → K qa901 = 11 → K qa902 = 8 → ((0 : Int) ≤ zi4305.toInt ∧ zi4305.toInt ≤ 131072) → ((zi4064 : Int32).toInt ≤ (gn : Nat)) → lv_has ls 9 [(0, .ref qa900), (1, .ref qa901), (3, .int zi903), (6, .int zi3044), (7, .int zi4064), (8, .int zi4305)] → PW G cy K ln Ls A hp4306 H → va_S A s.heap H locs → W p l e ({ frames := 6, cells := 327680, slots := 4580352, locals := 150 } : Room) s m ([.ref qa900, .ref qa901, .ref qa902, .int zi903, .int zi904] : List Value).toArray below meth c H locs (gn - g0) (14 * (gn - g0)) Q (F0 m 112 ls []) := by
              intro n4468
              induction n4468 with
              | zero =>
                intro K ln Ls gn hp4306 zi4305 H locs ls hm4471 hW gex gfx ok4307 pd4308 hga kd4309 kd4310 kd4311 bd4313 rq4312 hl hw hS
                exact absurd hm4471 (by have := bd4313; omega)
              | succ n4468 ih4469 =>
                intro K ln Ls gn hp4306 zi4305 H locs ls hm4471 hW gex gfx ok4307 pd4308 hga kd4309 kd4310 kd4311 bd4313 rq4312 hl hw hS
                refine lv_iload hx hb dX0_find_112 (lv_at hl 5 rfl) ?_
                refine lv_iload hx hb dX0_find_114 (lv_at hl 4 rfl) ?_
                refine lv_icmp_ge (tgt := 170) hx hb dX0_find_116 (by decide) (fun cn4472 => ?_) (fun cn4472 => ?_)
                · skip
                  have tf4473 : zi4064.toInt ≤ zi4305.toInt := (fa_le _ _).mp cn4472
                  exact jn4462 K ln Ls gn hp4306 _ _ ls hW gex gfx ok4307 pd4308 (by omega) kd4309 kd4310 kd4311 (lv_sub hl [0, 1, 2, 3, 4] rfl) hw hS
                · skip
                  have tf4474 : zi4305.toInt < zi4064.toInt := (fa_lt _ _).mp (Int32.not_le.mp cn4472)
                  have bd4475 : (0 : Int) ≤ zi4305.toInt ∧ zi4305.toInt ≤ 131071 := r_lt_x (Int32.not_le.mp cn4472) bd4313 bd4065 (by decide) (by decide)
                  have bd4476 : (1 : Int) ≤ zi4064.toInt ∧ zi4064.toInt ≤ 131072 := r_lt_y (Int32.not_le.mp cn4472) bd4313 bd4065 (by decide) (by decide)
                  refine lv_aload_n hx hb dX0_find_119 rfl (lv_at hl 0 rfl) ?_
                  obtain ⟨zi4478, eq4477, bd4479⟩ := rd_1003 ok4307 kd4309
                  refine p_get (ci := 0) (v := .int zi4478) (C := RX0) (T := TX0) (N := 8) hx hb hT iw_X0 hown hK hw hW kd4309 (by decide) rfl rfl 3 (by decide) eq4477 (hT _ tb_595) (fun _ h9 => h9) dX0_find_120 ?_
                  refine lv_if_ne (tgt := 170) hx hb dX0_find_123 (by decide) (fun cn4480 => ?_) (fun cn4480 => ?_)
                  · skip
                    have tf4481 : (zi4478 : Int32).toInt ≠ (0 : Int32).toInt := fun e => cn4480 (Int32.toInt_inj.mp e)
                    have := toi bc_0
                    have bd4482 : (1 : Int) ≤ zi4478.toInt ∧ zi4478.toInt ≤ 4 := r_ne_lo cn4480 bd4479 (toi bc_0) (by decide) (by decide)
                    exact jn4462 K ln Ls gn hp4306 _ _ ls hW gex gfx ok4307 pd4308 (by omega) kd4309 kd4310 kd4311 (lv_sub hl [0, 1, 2, 3, 4] rfl) hw hS
                  · skip
                    have bd4483 : (0 : Int) ≤ zi4478.toInt ∧ zi4478.toInt ≤ 0 := r_eq_x cn4480 bd4479 bc_0 (by decide) (by decide)
                    refine lv_aload_n hx hb dX0_find_126 rfl (lv_at hl 1 rfl) ?_
                    obtain ⟨qa4485, eq4484, kd4486⟩ := rd_11016 ok4307 kd4310
                    refine p_getN (ci := 10) (v := .ref qa4485) (C := RX10) (T := TX10) (N := 20) hx hb hT iw_X10 hown hK hw hW kd4310 (by decide) rfl rfl 16 (by decide) eq4484 (hK.fl nw_131) (fun _ h9 => h9) dX0_find_127 ?_
                    refine lv_iload_n hx hb dX0_find_130 rfl (lv_at hl 2 rfl) ?_
                    obtain ⟨zi4488, eq4487⟩ := rd_54000 ok4307 kd4486 ((zi903 : Int32).toNatClampNeg)
                    refine p_iald (v := zi4488) hx hb hK hw hW kd4486 (by decide) rfl (hW.len kd4486 (n := 8) rfl (by decide)) (vp_b bd903 (by decide) (by decide)) eq4487 dX0_find_131 ?_
                    refine lv_aload_n hx hb dX0_find_132 rfl (lv_at hl 0 rfl) ?_
                    obtain ⟨qa4490, eq4489, kd4491⟩ := rd_1000 ok4307 kd4309
                    refine p_get (ci := 0) (v := .ref qa4490) (C := RX0) (T := TX0) (N := 8) hx hb hT iw_X0 hown hK hw hW kd4309 (by decide) rfl rfl 0 (by decide) eq4489 (hT _ tb_591) (fun _ h9 => h9) dX0_find_133 ?_
                    obtain ⟨qa4493, eq4492, kd4494⟩ := rd_4001 ok4307 kd4491
                    have ln4495 := (pd4308).ref kd4491 (by decide) eq4492
                    refine p_getN (ci := 3) (v := .ref qa4493) (C := RX3) (T := TX3) (N := 7) hx hb hT iw_X3 hown hK hw hW kd4491 (by decide) rfl rfl 1 (by decide) eq4492 (hK.fl nw_392) (fun _ h9 => h9) dX0_find_136 ?_
                    refine lv_iload hx hb dX0_find_139 (lv_at hl 5 rfl) ?_
                    obtain ⟨zi4497, eq4496⟩ := rd_29000 ok4307 kd4494 ((zi4305 : Int32).toNatClampNeg)
                    refine p_iald (v := zi4497) hx hb hK hw hW kd4494 (by decide) rfl ln4495 (vp_bv (by omega) (by omega)) eq4496 dX0_find_141 ?_
                    refine lv_isub hx hb dX0_find_142 (lv_topi (fun zi4498 ea4499 => ?_))
                    refine lv_iconst (v := 4) hx hb dX0_find_143 (by decide) ?_
                    refine lv_iload hx hb dX0_find_144 (lv_at hl 3 rfl) ?_
                    refine lv_isub hx hb dX0_find_146 (lv_topi (fun zi4500 ea4501 => ?_))
                    have bd4502 : (0 : Int) ≤ zi4500.toInt ∧ zi4500.toInt ≤ 3 := b_isub ea4501 bc_4 bd4052 (by decide) (by decide) (by decide) (by decide)
                    have qe4503 : zi4500.toInt = (4 : Int32).toInt - (zi3044 : Int32).toInt := e_isub ea4501 bc_4 bd4052 (by decide) (by decide)
                    have qe4504 : zi4500.toInt = 4 - zi3044.toInt := by have ha : (4 : Int32).toInt = 4 := (by decide); rw [ha] at qe4503; exact qe4503
                    refine lv_iconst (v := 1) hx hb dX0_find_147 (by decide) ?_
                    refine lv_iadd hx hb dX0_find_148 (lv_topi (fun zi4505 ea4506 => ?_))
                    have bd4507 : (1 : Int) ≤ zi4505.toInt ∧ zi4505.toInt ≤ 4 := b_iadd ea4506 bd4502 bc_1 (by decide) (by decide) (by decide) (by decide)
                    have qe4508 : zi4505.toInt = (zi4500 : Int32).toInt + (1 : Int32).toInt := e_iadd ea4506 bd4502 bc_1 (by decide) (by decide)
                    have qe4509 : zi4505.toInt = zi4500.toInt + 1 := by have ha : (1 : Int32).toInt = 1 := (by decide); rw [ha] at qe4508; exact qe4508
                    refine kq_i hw hS hA (va_runS (As := [.int zi4498, .int zi4505]) (rest := []) ⟨hx, hb, hml, hown, hT⟩ (cX0_canCome_0 l G cy ev K ln Ls hW _ hp4306 ok4307 zi4498 zi4505) (va_cwS 2 hT (good_S tb_1187 tb_1185 tb_1186 tb_120) rfl rfl rfl (by decide +kernel) ⟨Nat.le_of_ble_eq_true rfl, Nat.le_of_ble_eq_true rfl⟩) (PB2.preS hK hE hS hA hw) rfl rfl hl.1 rfl (lv_room (Nat.le_of_ble_eq_true rfl)) dX0_find_149 ⟨(show (gn - g0) + 0 ≤ 327680 from by omega), (show (14 * (gn - g0)) + 0 ≤ 4580352 from by omega)⟩) (fun zi4514 hp4510 H locs hq4513 hw hS => ?_)
                    obtain ⟨ok4511, F4512, bd4515⟩ := hq4513
                    obtain rfl : hp4306 = hp4510 := (Fr.nil F4512).symm
                    have hw : PW G cy K ln Ls A hp4306 H := hw
                    refine lv_if_eq (tgt := 164) hx hb dX0_find_152 (by decide) (fun cn4516 => ?_) (fun cn4516 => ?_)
                    · skip
                      have bd4517 : (0 : Int) ≤ zi4514.toInt ∧ zi4514.toInt ≤ 0 := r_eq_x cn4516 bd4515 bc_0 (by decide) (by decide)
                      obtain ⟨zi4518, ea4519⟩ : ∃ z : Int32, z = zi4305 + 1 := ⟨_, rfl⟩
                      have bd4520 : (1 : Int) ≤ zi4518.toInt ∧ zi4518.toInt ≤ 131072 := b_iadd ea4519 bd4475 bc_1 (by decide) (by decide) (by decide) (by decide)
                      have qe4521 : zi4518.toInt = (zi4305 : Int32).toInt + (1 : Int32).toInt := e_iadd ea4519 bd4475 bc_1 (by decide) (by decide)
                      have qe4522 : zi4518.toInt = zi4305.toInt + 1 := by have ha : (1 : Int32).toInt = 1 := (by decide); rw [ha] at qe4521; exact qe4521
                      refine lv_iinc (v := zi4518) (lv' := [(8, .int zi4518), (0, .ref qa900), (1, .ref qa901), (3, .int zi903), (6, .int zi3044), (7, .int zi4064)]) hx hb dX0_find_164 hl (k := 5) rfl ea4519.symm (by decide) rfl (fun ls hl => ?_)
                      refine lv_goto (tgt := 112) hx hb dX0_find_167 (by decide) ?_
                      exact ih4469 K ln Ls gn hp4306 zi4518 _ _ ls (by have := hm4471; have := qe4522; omega) hW gex gfx ok4307 pd4308 (by omega) kd4309 kd4310 kd4311 (b_wid2 bd4520 (by decide) (by decide)) (by omega) (lv_sub hl [1, 2, 3, 4, 5, 0] rfl) hw hS
                    · skip
                      have tf4523 : (zi4514 : Int32).toInt ≠ (0 : Int32).toInt := fun e => cn4516 (Int32.toInt_inj.mp e)
                      have := toi bc_0
                      have bd4524 : (1 : Int) ≤ zi4514.toInt ∧ zi4514.toInt ≤ 1 := r_ne_lo cn4516 bd4515 (toi bc_0) (by decide) (by decide)
                      refine lv_aload_n hx hb dX0_find_155 rfl (lv_at hl 0 rfl) ?_
                      refine lv_aload_n hx hb dX0_find_156 rfl (lv_at hl 1 rfl) ?_
                      refine lv_iload hx hb dX0_find_157 (lv_at hl 5 rfl) ?_
                      refine lv_iload hx hb dX0_find_159 (lv_at hl 3 rfl) ?_
                      have gf4532 : FrX wsC K0 hp0 hp4306 := gfx
                      refine kg_v hw hS hA (va_runV (As := [.ref qa901, .int zi4305, .int zi3044]) (rest := []) ⟨hx, hb, hml, hown, hT⟩ (Met.szx (cX0_expand_0 l G cy ev K ln Ls hW _ hp4306 ok4307 qa900 qa901 zi4305 zi3044 gn kd4309 kd4310 (b_wid2 bd4475 (by decide) (by decide)) (b_wid2 bd4052 (by decide) (by decide)) pd4308 (by omega))) (cwV 3 hT (good_V tb_1191 tb_1188 tb_1190 tb_36 tb_120) rfl rfl rfl (by decide +kernel) ⟨Nat.le_of_ble_eq_true rfl, Nat.le_of_ble_eq_true rfl⟩) (pool_preV (ci := 0) hK hE hS hA hw hW kd4309 (by decide) rfl) rfl rfl hl.1 rfl (lv_room (Nat.le_of_ble_eq_true rfl)) dX0_find_161 ⟨(show (gn - g0) + 196608 ≤ 327680 from by omega), (show (14 * (gn - g0)) + 2748928 ≤ 4580352 from by omega)⟩) (fun u gn H locs hq4525 hw hS => ?_)
                      obtain ⟨K, ln, Ls, hp4526⟩ := u
                      obtain ⟨ex4528, hW, ok4527, fx4529, pd4530, hle4531⟩ := hq4525
                      have hw : PW G cy K ln Ls A hp4526 H := hw
                      have gfx : FrX wsC K0 hp0 hp4526 := FrX.tr gf4532 gex fx4529 (by decide)
                      have gex := EXx.tr gex ex4528
                      have kd4535 := EXx.kd ex4528 kd4309 (by decide)
                      have kd4536 := EXx.kd ex4528 kd4311 (by decide)
                      have kd4537 := EXx.kd ex4528 kd4310 (by decide)
                      have hgn := NSx.bd pd4530
                      refine W.widen (k := gn - g0) (n := 14 * (gn - g0)) (by omega) (by omega) ?_
                      have hga : g0 ≤ gn := by omega
                      obtain ⟨zi4538, ea4539⟩ : ∃ z : Int32, z = zi4305 + 1 := ⟨_, rfl⟩
                      have bd4540 : (1 : Int) ≤ zi4538.toInt ∧ zi4538.toInt ≤ 131072 := b_iadd ea4539 bd4475 bc_1 (by decide) (by decide) (by decide) (by decide)
                      have qe4541 : zi4538.toInt = (zi4305 : Int32).toInt + (1 : Int32).toInt := e_iadd ea4539 bd4475 bc_1 (by decide) (by decide)
                      have qe4542 : zi4538.toInt = zi4305.toInt + 1 := by have ha : (1 : Int32).toInt = 1 := (by decide); rw [ha] at qe4541; exact qe4541
                      refine lv_iinc (v := zi4538) (lv' := [(8, .int zi4538), (0, .ref qa900), (1, .ref qa901), (3, .int zi903), (6, .int zi3044), (7, .int zi4064)]) hx hb dX0_find_164 hl (k := 5) rfl ea4539.symm (by decide) rfl (fun ls hl => ?_)
                      refine lv_goto (tgt := 112) hx hb dX0_find_167 (by decide) ?_
                      exact ih4469 K ln Ls gn hp4526 zi4538 _ _ ls (by have := hm4471; have := qe4542; omega) hW gex gfx ok4527 pd4530 (by omega) kd4535 kd4537 kd4536 (b_wid2 bd4540 (by decide) (by decide)) (by omega) (lv_sub hl [1, 2, 3, 4, 5, 0] rfl) hw hS
            exact lp4470 _ K ln Ls gn hp3045 zi3043 _ _ ls (lp_in _) hW gex gfx ok3046 pd3047 (by omega) kd3048 kd3049 kd3050 (b_wid2 bd3051 (by decide) (by decide)) (by omega) (lv_sub hl [2, 3, 4, 6, 1, 0] rfl) hw hS
    exact lp4048 _ K ln Ls gn hp46 0 1 _ _ ls (lp_in _) hW gex gfx ok47 pd50 (by omega) kd55 kd57 kd56 (b_wid2 bc_0 (by decide) (by decide)) (b_wid2 bc_1 (by decide) (by decide)) (lv_sub hl [2, 3, 5, 1, 0] rfl) hw hS
  · skip
    have tf4543 : (zi2 : Int32).toInt ≠ (0 : Int32).toInt := fun e => cn4 (Int32.toInt_inj.mp e)
    have := toi bc_0
    have bd4544 : (1 : Int) ≤ zi2.toInt ∧ zi2.toInt ≤ 1 := r_ne_lo cn4 bd3 (toi bc_0) (by decide) (by decide)
    refine lv_aload_n hx hb dX0_find_7 rfl (lv_at hl 0 rfl) ?_
    obtain ⟨zi4546, eq4545⟩ := rd_1006 ok1 kd900
    refine p_get (ci := 0) (v := .int zi4546) (C := RX0) (T := TX0) (N := 8) hx hb hT iw_X0 hown hK hw hW kd900 (by decide) rfl rfl 6 (by decide) eq4545 (hT _ tb_601) (fun _ h9 => h9) dX0_find_8 ?_
    refine lv_iload_n hx hb dX0_find_11 rfl (lv_at hl 3 rfl) ?_
    refine lv_icmp_ne (tgt := 25) hx hb dX0_find_12 (by decide) (fun cn4547 => ?_) (fun cn4547 => ?_)
    · skip
      have tf4548 : (zi4546 : Int32).toInt ≠ (zi903 : Int32).toInt := fun e => cn4547 (Int32.toInt_inj.mp e)
      refine lv_aload_n hx hb dX0_find_25 rfl (lv_at hl 0 rfl) ?_
      refine lv_iconst (v := 1) hx hb dX0_find_26 (by decide) ?_
      refine p_put (ci := 0) (v := .int 1) (ty := .boolean) (C := RX0) (T := TX0) (N := 8) hx hb hT iw_X0 tyX0 tyX0_ok nmX0 hown hK hw hS hW kd900 (by decide) rfl rfl 5 (by decide) (hT _ tb_599) (fun _ h9 => h9) rfl (by decide +kernel) (nz_n bc_1 (by decide) (by decide)) (nz_f bc_1 (by decide) (by decide)) dX0_find_27 (fun hp4549 eh4550 H locs hw hS => ?_)
      have ok4551 := wr_1005 bc_1 (by decide) (by decide) ok1 kd900 eh4550
      refine lv_aload_n hx hb dX0_find_30 rfl (lv_at hl 0 rfl) ?_
      refine lv_iload_n hx hb dX0_find_31 rfl (lv_at hl 3 rfl) ?_
      refine p_put (ci := 0) (v := .int zi903) (ty := .int) (C := RX0) (T := TX0) (N := 8) hx hb hT iw_X0 tyX0 tyX0_ok nmX0 hown hK hw hS hW kd900 (by decide) rfl rfl 6 (by decide) (hT _ tb_601) (fun _ h9 => h9) rfl (by decide +kernel) rfl rfl dX0_find_32 (fun hp4552 eh4553 H locs hw hS => ?_)
      have ok4554 := wr_1006 ok4551 kd900 eh4553
      refine lv_aload_n hx hb dX0_find_35 rfl (lv_at hl 0 rfl) ?_
      refine lv_iload hx hb dX0_find_36 (lv_at hl 4 rfl) ?_
      refine p_put (ci := 0) (v := .int zi904) (ty := .int) (C := RX0) (T := TX0) (N := 8) hx hb hT iw_X0 tyX0 tyX0_ok nmX0 hown hK hw hS hW kd900 (by decide) rfl rfl 7 (by decide) (hT _ tb_602) (fun _ h9 => h9) rfl (by decide +kernel) rfl rfl dX0_find_38 (fun hp4555 eh4556 H locs hw hS => ?_)
      have ok4557 := wr_1007 ok4554 kd900 eh4556
      refine lv_aload_n hx hb dX0_find_41 rfl (lv_at hl 0 rfl) ?_
      refine lv_iconst (v := 0) hx hb dX0_find_42 (by decide) ?_
      refine p_put (ci := 0) (v := .int 0) (ty := .int) (C := RX0) (T := TX0) (N := 8) hx hb hT iw_X0 tyX0 tyX0_ok nmX0 hown hK hw hS hW kd900 (by decide) rfl rfl 3 (by decide) (hT _ tb_595) (fun _ h9 => h9) rfl (by decide +kernel) rfl rfl dX0_find_43 (fun hp4558 eh4559 H locs hw hS => ?_)
      have ok4560 := wr_1003 bc_0 (by decide) (by decide) ok4557 kd900 eh4559
      refine lv_aload_n hx hb dX0_find_46 rfl (lv_at hl 0 rfl) ?_
      refine lv_iconst (v := 0) hx hb dX0_find_47 (by decide) ?_
      refine p_put (ci := 0) (v := .int 0) (ty := .int) (C := RX0) (T := TX0) (N := 8) hx hb hT iw_X0 tyX0 tyX0_ok nmX0 hown hK hw hS hW kd900 (by decide) rfl rfl 4 (by decide) (hT _ tb_597) (fun _ h9 => h9) rfl (by decide +kernel) rfl rfl dX0_find_48 (fun hp4561 eh4562 H locs hw hS => ?_)
      have ok4563 := wr_1004 ok4560 kd900 eh4562
      refine lv_aload_n hx hb dX0_find_51 rfl (lv_at hl 0 rfl) ?_
      obtain ⟨qa4565, eq4564, kd4566⟩ := rd_1000 ok4563 kd900
      refine p_get (ci := 0) (v := .ref qa4565) (C := RX0) (T := TX0) (N := 8) hx hb hT iw_X0 hown hK hw hW kd900 (by decide) rfl rfl 0 (by decide) eq4564 (hT _ tb_591) (fun _ h9 => h9) dX0_find_52 ?_
      have pd4567 : NSx K ln hp4561 gn := NSx_fr ok1  (show Fr [1003, 1004, 1005, 1006, 1007] K hp0 hp4561 from (Fr.put (cq := 1004) (Fr.put (cq := 1003) (Fr.put (cq := 1007) (Fr.put (cq := 1006) (Fr.put (cq := 1005) (Fr.rf) eh4550 kd900 (cd_o (by decide)) (by decide)) eh4553 kd900 (cd_o (by decide)) (by decide)) eh4556 kd900 (cd_o (by decide)) (by decide)) eh4559 kd900 (cd_o (by decide)) (by decide)) eh4562 kd900 (cd_o (by decide)) (by decide))) (by decide) pdNS
      refine kq_v hw hS hA (va_runV (As := []) (rest := []) ⟨hx, hb, hml, hown, hT⟩ (cX3_clear_0 l G cy ev K ln Ls hW _ hp4561 ok4563 qa4565 gn kd4566 pd4567) (cwV 0 hT (good_V tb_1136 tb_1133 tb_1134 tb_1135 tb_117) rfl rfl rfl (by decide +kernel) ⟨Nat.le_of_ble_eq_true rfl, Nat.le_of_ble_eq_true rfl⟩) (pool_preV (ci := 3) hK hE hS hA hw hW kd4566 (by decide) rfl) rfl rfl hl.1 rfl (lv_room (Nat.le_of_ble_eq_true rfl)) dX0_find_55 ⟨(show (gn - g0) + 0 ≤ 327680 from by omega), (show (14 * (gn - g0)) + 0 ≤ 4580352 from by omega)⟩) (fun hp4568 H locs hq4571 hw hS => ?_)
      obtain ⟨ok4569, F4570, ⟨zi4573, eq4574, bd4575⟩, xq4576⟩ := hq4571
      have hw : PW G cy K ln Ls A hp4568 H := hw
      refine lv_aload_n hx hb dX0_find_58 rfl (lv_at hl 0 rfl) ?_
      obtain ⟨qa4578, eq4577, kd4579⟩ := rd_1001 ok4569 kd900
      refine p_get (ci := 0) (v := .ref qa4578) (C := RX0) (T := TX0) (N := 8) hx hb hT iw_X0 hown hK hw hW kd900 (by decide) rfl rfl 1 (by decide) eq4577 (hT _ tb_592) (fun _ h9 => h9) dX0_find_59 ?_
      refine lv_aload_n hx hb dX0_find_62 rfl (lv_at hl 2 rfl) ?_
      refine kq_v hw hS hA (va_runV (As := [.ref qa902]) (rest := []) ⟨hx, hb, hml, hown, hT⟩ (cX7_copyMoment_0 l G cy ev K ln Ls hW _ hp4568 ok4569 qa4578 qa902 kd4579 kd902) (cwV 1 hT (good_V tb_1051 tb_1138 tb_1049 tb_1050 tb_115) rfl rfl rfl (by decide +kernel) ⟨Nat.le_of_ble_eq_true rfl, Nat.le_of_ble_eq_true rfl⟩) (pool_preV (ci := 7) hK hE hS hA hw hW kd4579 (by decide) rfl) rfl rfl hl.1 rfl (lv_room (Nat.le_of_ble_eq_true rfl)) dX0_find_63 ⟨(show (gn - g0) + 0 ≤ 327680 from by omega), (show (14 * (gn - g0)) + 0 ≤ 4580352 from by omega)⟩) (fun hp4580 H locs hq4583 hw hS => ?_)
      obtain ⟨ok4581, F4582⟩ := hq4583
      have hw : PW G cy K ln Ls A hp4580 H := hw
      refine lv_aload_n hx hb dX0_find_66 rfl (lv_at hl 0 rfl) ?_
      have eq4585 : hp4580 qa900 0 = .ref qa4565 := Eq.trans (Fr.at (cq := 1000) F4582 kd900 (cd_o (by decide)) (by decide)) (Eq.trans (Fr.at (cq := 1000) F4570 kd900 (cd_o (by decide)) (by decide)) eq4564)
      refine p_get (ci := 0) (v := .ref qa4565) (C := RX0) (T := TX0) (N := 8) hx hb hT iw_X0 hown hK hw hW kd900 (by decide) rfl rfl 0 (by decide) eq4585 (hT _ tb_591) (fun _ h9 => h9) dX0_find_67 ?_
      refine lv_aload_n hx hb dX0_find_70 rfl (lv_at hl 0 rfl) ?_
      have eq4586 : hp4580 qa900 1 = .ref qa4578 := Eq.trans (Fr.at (cq := 1001) F4582 kd900 (cd_o (by decide)) (by decide)) eq4577
      refine p_get (ci := 0) (v := .ref qa4578) (C := RX0) (T := TX0) (N := 8) hx hb hT iw_X0 hown hK hw hW kd900 (by decide) rfl rfl 1 (by decide) eq4586 (hT _ tb_592) (fun _ h9 => h9) dX0_find_71 ?_
      refine lv_iconst (v := 0) hx hb dX0_find_74 (by decide) ?_
      refine lv_lconst (v := 1) hx hb dX0_find_75 (by decide) ?_
      refine lv_iconst (v := 0) hx hb dX0_find_76 (by decide) ?_
      have pd4587 : NSx K ln hp4580 gn := NSx_fr ok4569  (show Fr [8000, 8001, 8002, 8003, 8004, 8005] K hp4568 hp4580 from (Fr.tr (Fr.rf) F4582 (by decide))) (by decide) xq4576
      have gf4595 : FrX wsC K0 hp0 hp4580 := (FrX.tr gfx gex (FrX.of (show Fr [1003, 1004, 1005, 1006, 1007, 4006, 8000, 8001, 8002, 8003, 8004, 8005, 33000] K hp0 hp4580 from (Fr.tr (Fr.tr (Fr.put (cq := 1004) (Fr.put (cq := 1003) (Fr.put (cq := 1007) (Fr.put (cq := 1006) (Fr.put (cq := 1005) (Fr.rf) eh4550 kd900 (cd_o (by decide)) (by decide)) eh4553 kd900 (cd_o (by decide)) (by decide)) eh4556 kd900 (cd_o (by decide)) (by decide)) eh4559 kd900 (cd_o (by decide)) (by decide)) eh4562 kd900 (cd_o (by decide)) (by decide)) F4570 (by decide)) F4582 (by decide)))) (by decide))
      refine kg_v hw hS hA (va_runV (As := [.ref qa4578, .int 0, .long 1, .int 0]) (rest := []) ⟨hx, hb, hml, hown, hT⟩ (Met.szx (cX3_add_vG_0 l G cy ev K ln Ls hW _ hp4580 ok4581 qa4565 qa4578 0 1 0 gn kd4566 kd4579 pd4587)) (cwV 4 hT (good_V tb_1142 tb_1139 tb_1140 tb_1141 tb_117) rfl rfl rfl (by decide +kernel) ⟨Nat.le_of_ble_eq_true rfl, Nat.le_of_ble_eq_true rfl⟩) (pool_preV (ci := 3) hK hE hS hA hw hW kd4566 (by decide) rfl) rfl rfl hl.1 rfl (lv_room (Nat.le_of_ble_eq_true rfl)) dX0_find_77 ⟨(show (gn - g0) + 65536 ≤ 327680 from by omega), (show (14 * (gn - g0)) + 917504 ≤ 4580352 from by omega)⟩) (fun u gn H locs hq4588 hw hS => ?_)
      obtain ⟨K, ln, Ls, hp4589⟩ := u
      obtain ⟨ex4591, hW, ok4590, fx4592, pd4593, hle4594⟩ := hq4588
      have hw : PW G cy K ln Ls A hp4589 H := hw
      have gfx : FrX wsC K0 hp0 hp4589 := FrX.tr gf4595 gex fx4592 (by decide)
      have gex := EXx.tr gex ex4591
      have kd4598 := EXx.kd ex4591 kd900 (by decide)
      have kd4599 := EXx.kd ex4591 kd902 (by decide)
      have kd4600 := EXx.kd ex4591 kd901 (by decide)
      have hgn := NSx.bd pd4593
      refine W.widen (k := gn - g0) (n := 14 * (gn - g0)) (by omega) (by omega) ?_
      have hga : g0 ≤ gn := by omega
      refine lv_iconst (v := 0) hx hb dX0_find_80 (by decide) ?_
      refine lv_istore (lv' := [(5, .int 0), (0, .ref qa900), (1, .ref qa901), (2, .ref qa902), (3, .int zi903), (4, .int zi904)]) hx hb dX0_find_81 hl (by decide) rfl (fun ls hl => ?_)
      refine lv_iconst (v := 1) hx hb dX0_find_83 (by decide) ?_
      refine lv_istore (lv' := [(6, .int 1), (5, .int 0), (0, .ref qa900), (1, .ref qa901), (2, .ref qa902), (3, .int zi903), (4, .int zi904)]) hx hb dX0_find_84 hl (by decide) rfl (fun ls hl => ?_)
      have jn8588 : ∀ (K ln : Nat → Nat) (Ls : List Nat) (gn : Nat) (hp8582 : Nat → Nat → Value)  (H : Heap) (locs : List Loc) (ls : Array Slot), SW K ln Ls → EXx K0 ln0 K ln → FrX wsC K0 hp0 hp8582 → Ok K hp8582 → NSx K ln hp8582 gn → g0 ≤ gn → K qa900 = 1 → K qa901 = 11 → K qa902 = 8 → lv_has ls 9 [] → PW G cy K ln Ls A hp8582 H → va_S A s.heap H locs → W p l e ({ frames := 6, cells := 327680, slots := 4580352, locals := 150 } : Room) s m ([.ref qa900, .ref qa901, .ref qa902, .int zi903, .int zi904] : List Value).toArray below meth c H locs (gn - g0) (14 * (gn - g0)) Q (F0 m 180 ls []) := by
        intro K ln Ls gn hp8582 H locs ls hW gex gfx ok8583 pd8584 hga kd8585 kd8586 kd8587 hl hw hS
        rw [hQ]
        exact kgz_v (n := g0) hx hb hr hlocks hS (((K, ln, Ls, hp8582), gn) : GU × Nat) hw ⟨gex, hW, ok8583, gfx, pd8584, (by omega)⟩ (show (gn - g0) ≤ gn - g0 from by omega) (show (14 * (gn - g0)) ≤ 14 * (gn - g0) from by omega) (show (gn - g0) ≤ 327680 from by omega) (show (14 * (gn - g0)) ≤ 4580352 from by omega) dX0_find_180
      have lp8591 : ∀ (n8589 : Nat) (K ln : Nat → Nat) (Ls : List Nat) (gn : Nat) (hp7588 : Nat → Nat → Value) (zi7586 : Int32) (zi7587 : Int32) (H : Heap) (locs : List Loc) (ls : Array Slot), 5 - zi7587.toInt < (n8589 : Int) → SW K ln Ls → EXx K0 ln0 K ln → FrX wsC K0 hp0 hp7588 → Ok K hp7588 → NSx K ln hp7588 gn → g0 ≤ gn → K qa900 = 1 → K qa901 = 11 → K qa902 = 8 → ((0 : Int) ≤ zi7586.toInt ∧ zi7586.toInt ≤ 131072) → ((1 : Int) ≤ zi7587.toInt ∧ zi7587.toInt ≤ 5) → lv_has ls 9 [(0, .ref qa900), (1, .ref qa901), (3, .int zi903), (5, .int zi7586), (6, .int zi7587)] → PW G cy K ln Ls A hp7588 H → va_S A s.heap H locs → W p l e ({ frames := 6, cells := 327680, slots := 4580352, locals := 150 } : Room) s m ([.ref qa900, .ref qa901, .ref qa902, .int zi903, .int zi904] : List Value).toArray below meth c H locs (gn - g0) (14 * (gn - g0)) Q (F0 m 86 ls []) := by
        intro n8589
        induction n8589 with
        | zero =>
          intro K ln Ls gn hp7588 zi7586 zi7587 H locs ls hm8592 hW gex gfx ok7589 pd7590 hga kd7591 kd7592 kd7593 bd7594 bd7595 hl hw hS
          exact absurd hm8592 (by have := bd7595; omega)
        | succ n8589 ih8590 =>
          intro K ln Ls gn hp7588 zi7586 zi7587 H locs ls hm8592 hW gex gfx ok7589 pd7590 hga kd7591 kd7592 kd7593 bd7594 bd7595 hl hw hS
          refine lv_iload hx hb dX0_find_86 (lv_at hl 4 rfl) ?_
          refine lv_iconst (v := 4) hx hb dX0_find_88 (by decide) ?_
          refine lv_icmp_gt (tgt := 180) hx hb dX0_find_89 (by decide) (fun cn8593 => ?_) (fun cn8593 => ?_)
          · skip
            have bd8594 : (5 : Int) ≤ zi7587.toInt ∧ zi7587.toInt ≤ 5 := r_lt_y cn8593 bc_4 bd7595 (by decide) (by decide)
            exact jn8588 K ln Ls gn hp7588 _ _ ls hW gex gfx ok7589 pd7590 (by omega) kd7591 kd7592 kd7593 (lv_sub hl [] rfl) hw hS
          · skip
            have bd8595 : (1 : Int) ≤ zi7587.toInt ∧ zi7587.toInt ≤ 4 := r_le_x (Int32.not_lt.mp cn8593) bd7595 bc_4 (by decide) (by decide)
            refine lv_aload_n hx hb dX0_find_92 rfl (lv_at hl 0 rfl) ?_
            obtain ⟨zi8597, eq8596, bd8598⟩ := rd_1003 ok7589 kd7591
            refine p_get (ci := 0) (v := .int zi8597) (C := RX0) (T := TX0) (N := 8) hx hb hT iw_X0 hown hK hw hW kd7591 (by decide) rfl rfl 3 (by decide) eq8596 (hT _ tb_595) (fun _ h9 => h9) dX0_find_93 ?_
            refine lv_if_ne (tgt := 180) hx hb dX0_find_96 (by decide) (fun cn8599 => ?_) (fun cn8599 => ?_)
            · skip
              have tf8600 : (zi8597 : Int32).toInt ≠ (0 : Int32).toInt := fun e => cn8599 (Int32.toInt_inj.mp e)
              have := toi bc_0
              have bd8601 : (1 : Int) ≤ zi8597.toInt ∧ zi8597.toInt ≤ 4 := r_ne_lo cn8599 bd8598 (toi bc_0) (by decide) (by decide)
              exact jn8588 K ln Ls gn hp7588 _ _ ls hW gex gfx ok7589 pd7590 (by omega) kd7591 kd7592 kd7593 (lv_sub hl [] rfl) hw hS
            · skip
              have bd8602 : (0 : Int) ≤ zi8597.toInt ∧ zi8597.toInt ≤ 0 := r_eq_x cn8599 bd8598 bc_0 (by decide) (by decide)
              refine lv_aload_n hx hb dX0_find_99 rfl (lv_at hl 0 rfl) ?_
              obtain ⟨qa8604, eq8603, kd8605⟩ := rd_1000 ok7589 kd7591
              refine p_get (ci := 0) (v := .ref qa8604) (C := RX0) (T := TX0) (N := 8) hx hb hT iw_X0 hown hK hw hW kd7591 (by decide) rfl rfl 0 (by decide) eq8603 (hT _ tb_591) (fun _ h9 => h9) dX0_find_100 ?_
              obtain ⟨zi8607, eq8606, bd8608⟩ := rd_4006 ok7589 kd8605
              have nz8609 := (pd7590).sz kd8605 eq8606
              refine p_getN (ci := 3) (v := .int zi8607) (C := RX3) (T := TX3) (N := 7) hx hb hT iw_X3 hown hK hw hW kd8605 (by decide) rfl rfl 6 (by decide) eq8606 (hK.fl nw_400) (fun _ h9 => h9) dX0_find_103 ?_
              refine lv_istore (lv' := [(7, .int zi8607), (0, .ref qa900), (1, .ref qa901), (3, .int zi903), (5, .int zi7586), (6, .int zi7587)]) hx hb dX0_find_106 hl (by decide) rfl (fun ls hl => ?_)
              refine lv_iload hx hb dX0_find_108 (lv_at hl 4 rfl) ?_
              refine lv_istore (lv' := [(8, .int zi7586), (7, .int zi8607), (0, .ref qa900), (1, .ref qa901), (3, .int zi903), (5, .int zi7586), (6, .int zi7587)]) hx hb dX0_find_110 hl (by decide) rfl (fun ls hl => ?_)
              have jn9005 : ∀ (K ln : Nat → Nat) (Ls : List Nat) (gn : Nat) (hp8999 : Nat → Nat → Value)  (H : Heap) (locs : List Loc) (ls : Array Slot), SW K ln Ls → EXx K0 ln0 K ln → FrX wsC K0 hp0 hp8999 → Ok K hp8999 → NSx K ln hp8999 gn → g0 ≤ gn → K qa900 = 1 → K qa901 = 11 → K qa902 = 8 → lv_has ls 9 [(0, .ref qa900), (1, .ref qa901), (3, .int zi903), (6, .int zi7587), (7, .int zi8607)] → PW G cy K ln Ls A hp8999 H → va_S A s.heap H locs → W p l e ({ frames := 6, cells := 327680, slots := 4580352, locals := 150 } : Room) s m ([.ref qa900, .ref qa901, .ref qa902, .int zi903, .int zi904] : List Value).toArray below meth c H locs (gn - g0) (14 * (gn - g0)) Q (F0 m 170 ls []) := by
                intro K ln Ls gn hp8999 H locs ls hW gex gfx ok9000 pd9001 hga kd9002 kd9003 kd9004 hl hw hS
                refine lv_iload hx hb dX0_find_170 (lv_at hl 4 rfl) ?_
                refine lv_istore (lv' := [(5, .int zi8607), (0, .ref qa900), (1, .ref qa901), (3, .int zi903), (6, .int zi7587), (7, .int zi8607)]) hx hb dX0_find_172 hl (by decide) rfl (fun ls hl => ?_)
                obtain ⟨zi9006, ea9007⟩ : ∃ z : Int32, z = zi7587 + 1 := ⟨_, rfl⟩
                have bd9008 : (2 : Int) ≤ zi9006.toInt ∧ zi9006.toInt ≤ 5 := b_iadd ea9007 bd8595 bc_1 (by decide) (by decide) (by decide) (by decide)
                have qe9009 : zi9006.toInt = (zi7587 : Int32).toInt + (1 : Int32).toInt := e_iadd ea9007 bd8595 bc_1 (by decide) (by decide)
                have qe9010 : zi9006.toInt = zi7587.toInt + 1 := by have ha : (1 : Int32).toInt = 1 := (by decide); rw [ha] at qe9009; exact qe9009
                refine lv_iinc (v := zi9006) (lv' := [(6, .int zi9006), (5, .int zi8607), (0, .ref qa900), (1, .ref qa901), (3, .int zi903), (7, .int zi8607)]) hx hb dX0_find_174 hl (k := 4) rfl ea9007.symm (by decide) rfl (fun ls hl => ?_)
                refine lv_goto (tgt := 86) hx hb dX0_find_177 (by decide) ?_
                exact ih8590 K ln Ls gn hp8999 zi8607 zi9006 _ _ ls (by have := hm8592; have := qe9010; omega) hW gex gfx ok9000 pd9001 (by omega) kd9002 kd9003 kd9004 (b_wid2 bd8608 (by decide) (by decide)) (b_wid2 bd9008 (by decide) (by decide)) (lv_sub hl [2, 3, 4, 1, 0] rfl) hw hS
              have lp9013 : ∀ (n9011 : Nat) (K ln : Nat → Nat) (Ls : List Nat) (gn : Nat) (hp8849 : Nat → Nat → Value) (zi8848 : Int32) (H : Heap) (locs : List Loc) (ls : Array Slot), 131072 - zi8848.toInt < (n9011 : Int) → SW K ln Ls → EXx K0 ln0 K ln → FrX wsC K0 hp0 hp8849 → Ok K hp8849 → NSx K ln hp8849 gn → g0 ≤ gn → K qa900 = 1 → K qa901 = 11 → K qa902 = 8 → ((0 : Int) ≤ zi8848.toInt ∧ zi8848.toInt ≤ 131072) → ((zi8607 : Int32).toInt ≤ (gn : Nat)) → lv_has ls 9 [(0, .ref qa900), (1, .ref qa901), (3, .int zi903), (6, .int zi7587), (7, .int zi8607), (8, .int zi8848)] → PW G cy K ln Ls A hp8849 H → va_S A s.heap H locs → W p l e ({ frames := 6, cells := 327680, slots := 4580352, locals := 150 } : Room) s m ([.ref qa900, .ref qa901, .ref qa902, .int zi903, .int zi904] : List Value).toArray below meth c H locs (gn - g0) (14 * (gn - g0)) Q (F0 m 112 ls []) := by
                intro n9011
                induction n9011 with
                | zero =>
                  intro K ln Ls gn hp8849 zi8848 H locs ls hm9014 hW gex gfx ok8850 pd8851 hga kd8852 kd8853 kd8854 bd8856 rq8855 hl hw hS
                  exact absurd hm9014 (by have := bd8856; omega)
                | succ n9011 ih9012 =>
                  intro K ln Ls gn hp8849 zi8848 H locs ls hm9014 hW gex gfx ok8850 pd8851 hga kd8852 kd8853 kd8854 bd8856 rq8855 hl hw hS
                  refine lv_iload hx hb dX0_find_112 (lv_at hl 5 rfl) ?_
                  refine lv_iload hx hb dX0_find_114 (lv_at hl 4 rfl) ?_
                  refine lv_icmp_ge (tgt := 170) hx hb dX0_find_116 (by decide) (fun cn9015 => ?_) (fun cn9015 => ?_)
                  · skip
                    have tf9016 : zi8607.toInt ≤ zi8848.toInt := (fa_le _ _).mp cn9015
                    exact jn9005 K ln Ls gn hp8849 _ _ ls hW gex gfx ok8850 pd8851 (by omega) kd8852 kd8853 kd8854 (lv_sub hl [0, 1, 2, 3, 4] rfl) hw hS
                  · skip
                    have tf9017 : zi8848.toInt < zi8607.toInt := (fa_lt _ _).mp (Int32.not_le.mp cn9015)
                    have bd9018 : (0 : Int) ≤ zi8848.toInt ∧ zi8848.toInt ≤ 131071 := r_lt_x (Int32.not_le.mp cn9015) bd8856 bd8608 (by decide) (by decide)
                    have bd9019 : (1 : Int) ≤ zi8607.toInt ∧ zi8607.toInt ≤ 131072 := r_lt_y (Int32.not_le.mp cn9015) bd8856 bd8608 (by decide) (by decide)
                    refine lv_aload_n hx hb dX0_find_119 rfl (lv_at hl 0 rfl) ?_
                    obtain ⟨zi9021, eq9020, bd9022⟩ := rd_1003 ok8850 kd8852
                    refine p_get (ci := 0) (v := .int zi9021) (C := RX0) (T := TX0) (N := 8) hx hb hT iw_X0 hown hK hw hW kd8852 (by decide) rfl rfl 3 (by decide) eq9020 (hT _ tb_595) (fun _ h9 => h9) dX0_find_120 ?_
                    refine lv_if_ne (tgt := 170) hx hb dX0_find_123 (by decide) (fun cn9023 => ?_) (fun cn9023 => ?_)
                    · skip
                      have tf9024 : (zi9021 : Int32).toInt ≠ (0 : Int32).toInt := fun e => cn9023 (Int32.toInt_inj.mp e)
                      have := toi bc_0
                      have bd9025 : (1 : Int) ≤ zi9021.toInt ∧ zi9021.toInt ≤ 4 := r_ne_lo cn9023 bd9022 (toi bc_0) (by decide) (by decide)
                      exact jn9005 K ln Ls gn hp8849 _ _ ls hW gex gfx ok8850 pd8851 (by omega) kd8852 kd8853 kd8854 (lv_sub hl [0, 1, 2, 3, 4] rfl) hw hS
                    · skip
                      have bd9026 : (0 : Int) ≤ zi9021.toInt ∧ zi9021.toInt ≤ 0 := r_eq_x cn9023 bd9022 bc_0 (by decide) (by decide)
                      refine lv_aload_n hx hb dX0_find_126 rfl (lv_at hl 1 rfl) ?_
                      obtain ⟨qa9028, eq9027, kd9029⟩ := rd_11016 ok8850 kd8853
                      refine p_getN (ci := 10) (v := .ref qa9028) (C := RX10) (T := TX10) (N := 20) hx hb hT iw_X10 hown hK hw hW kd8853 (by decide) rfl rfl 16 (by decide) eq9027 (hK.fl nw_131) (fun _ h9 => h9) dX0_find_127 ?_
                      refine lv_iload_n hx hb dX0_find_130 rfl (lv_at hl 2 rfl) ?_
                      obtain ⟨zi9031, eq9030⟩ := rd_54000 ok8850 kd9029 ((zi903 : Int32).toNatClampNeg)
                      refine p_iald (v := zi9031) hx hb hK hw hW kd9029 (by decide) rfl (hW.len kd9029 (n := 8) rfl (by decide)) (vp_b bd903 (by decide) (by decide)) eq9030 dX0_find_131 ?_
                      refine lv_aload_n hx hb dX0_find_132 rfl (lv_at hl 0 rfl) ?_
                      obtain ⟨qa9033, eq9032, kd9034⟩ := rd_1000 ok8850 kd8852
                      refine p_get (ci := 0) (v := .ref qa9033) (C := RX0) (T := TX0) (N := 8) hx hb hT iw_X0 hown hK hw hW kd8852 (by decide) rfl rfl 0 (by decide) eq9032 (hT _ tb_591) (fun _ h9 => h9) dX0_find_133 ?_
                      obtain ⟨qa9036, eq9035, kd9037⟩ := rd_4001 ok8850 kd9034
                      have ln9038 := (pd8851).ref kd9034 (by decide) eq9035
                      refine p_getN (ci := 3) (v := .ref qa9036) (C := RX3) (T := TX3) (N := 7) hx hb hT iw_X3 hown hK hw hW kd9034 (by decide) rfl rfl 1 (by decide) eq9035 (hK.fl nw_392) (fun _ h9 => h9) dX0_find_136 ?_
                      refine lv_iload hx hb dX0_find_139 (lv_at hl 5 rfl) ?_
                      obtain ⟨zi9040, eq9039⟩ := rd_29000 ok8850 kd9037 ((zi8848 : Int32).toNatClampNeg)
                      refine p_iald (v := zi9040) hx hb hK hw hW kd9037 (by decide) rfl ln9038 (vp_bv (by omega) (by omega)) eq9039 dX0_find_141 ?_
                      refine lv_isub hx hb dX0_find_142 (lv_topi (fun zi9041 ea9042 => ?_))
                      refine lv_iconst (v := 4) hx hb dX0_find_143 (by decide) ?_
                      refine lv_iload hx hb dX0_find_144 (lv_at hl 3 rfl) ?_
                      refine lv_isub hx hb dX0_find_146 (lv_topi (fun zi9043 ea9044 => ?_))
                      have bd9045 : (0 : Int) ≤ zi9043.toInt ∧ zi9043.toInt ≤ 3 := b_isub ea9044 bc_4 bd8595 (by decide) (by decide) (by decide) (by decide)
                      have qe9046 : zi9043.toInt = (4 : Int32).toInt - (zi7587 : Int32).toInt := e_isub ea9044 bc_4 bd8595 (by decide) (by decide)
                      have qe9047 : zi9043.toInt = 4 - zi7587.toInt := by have ha : (4 : Int32).toInt = 4 := (by decide); rw [ha] at qe9046; exact qe9046
                      refine lv_iconst (v := 1) hx hb dX0_find_147 (by decide) ?_
                      refine lv_iadd hx hb dX0_find_148 (lv_topi (fun zi9048 ea9049 => ?_))
                      have bd9050 : (1 : Int) ≤ zi9048.toInt ∧ zi9048.toInt ≤ 4 := b_iadd ea9049 bd9045 bc_1 (by decide) (by decide) (by decide) (by decide)
                      have qe9051 : zi9048.toInt = (zi9043 : Int32).toInt + (1 : Int32).toInt := e_iadd ea9049 bd9045 bc_1 (by decide) (by decide)
                      have qe9052 : zi9048.toInt = zi9043.toInt + 1 := by have ha : (1 : Int32).toInt = 1 := (by decide); rw [ha] at qe9051; exact qe9051
                      refine kq_i hw hS hA (va_runS (As := [.int zi9041, .int zi9048]) (rest := []) ⟨hx, hb, hml, hown, hT⟩ (cX0_canCome_0 l G cy ev K ln Ls hW _ hp8849 ok8850 zi9041 zi9048) (va_cwS 2 hT (good_S tb_1187 tb_1185 tb_1186 tb_120) rfl rfl rfl (by decide +kernel) ⟨Nat.le_of_ble_eq_true rfl, Nat.le_of_ble_eq_true rfl⟩) (PB2.preS hK hE hS hA hw) rfl rfl hl.1 rfl (lv_room (Nat.le_of_ble_eq_true rfl)) dX0_find_149 ⟨(show (gn - g0) + 0 ≤ 327680 from by omega), (show (14 * (gn - g0)) + 0 ≤ 4580352 from by omega)⟩) (fun zi9057 hp9053 H locs hq9056 hw hS => ?_)
                      obtain ⟨ok9054, F9055, bd9058⟩ := hq9056
                      obtain rfl : hp8849 = hp9053 := (Fr.nil F9055).symm
                      have hw : PW G cy K ln Ls A hp8849 H := hw
                      refine lv_if_eq (tgt := 164) hx hb dX0_find_152 (by decide) (fun cn9059 => ?_) (fun cn9059 => ?_)
                      · skip
                        have bd9060 : (0 : Int) ≤ zi9057.toInt ∧ zi9057.toInt ≤ 0 := r_eq_x cn9059 bd9058 bc_0 (by decide) (by decide)
                        obtain ⟨zi9061, ea9062⟩ : ∃ z : Int32, z = zi8848 + 1 := ⟨_, rfl⟩
                        have bd9063 : (1 : Int) ≤ zi9061.toInt ∧ zi9061.toInt ≤ 131072 := b_iadd ea9062 bd9018 bc_1 (by decide) (by decide) (by decide) (by decide)
                        have qe9064 : zi9061.toInt = (zi8848 : Int32).toInt + (1 : Int32).toInt := e_iadd ea9062 bd9018 bc_1 (by decide) (by decide)
                        have qe9065 : zi9061.toInt = zi8848.toInt + 1 := by have ha : (1 : Int32).toInt = 1 := (by decide); rw [ha] at qe9064; exact qe9064
                        refine lv_iinc (v := zi9061) (lv' := [(8, .int zi9061), (0, .ref qa900), (1, .ref qa901), (3, .int zi903), (6, .int zi7587), (7, .int zi8607)]) hx hb dX0_find_164 hl (k := 5) rfl ea9062.symm (by decide) rfl (fun ls hl => ?_)
                        refine lv_goto (tgt := 112) hx hb dX0_find_167 (by decide) ?_
                        exact ih9012 K ln Ls gn hp8849 zi9061 _ _ ls (by have := hm9014; have := qe9065; omega) hW gex gfx ok8850 pd8851 (by omega) kd8852 kd8853 kd8854 (b_wid2 bd9063 (by decide) (by decide)) (by omega) (lv_sub hl [1, 2, 3, 4, 5, 0] rfl) hw hS
                      · skip
                        have tf9066 : (zi9057 : Int32).toInt ≠ (0 : Int32).toInt := fun e => cn9059 (Int32.toInt_inj.mp e)
                        have := toi bc_0
                        have bd9067 : (1 : Int) ≤ zi9057.toInt ∧ zi9057.toInt ≤ 1 := r_ne_lo cn9059 bd9058 (toi bc_0) (by decide) (by decide)
                        refine lv_aload_n hx hb dX0_find_155 rfl (lv_at hl 0 rfl) ?_
                        refine lv_aload_n hx hb dX0_find_156 rfl (lv_at hl 1 rfl) ?_
                        refine lv_iload hx hb dX0_find_157 (lv_at hl 5 rfl) ?_
                        refine lv_iload hx hb dX0_find_159 (lv_at hl 3 rfl) ?_
                        have gf9075 : FrX wsC K0 hp0 hp8849 := gfx
                        refine kg_v hw hS hA (va_runV (As := [.ref qa901, .int zi8848, .int zi7587]) (rest := []) ⟨hx, hb, hml, hown, hT⟩ (Met.szx (cX0_expand_0 l G cy ev K ln Ls hW _ hp8849 ok8850 qa900 qa901 zi8848 zi7587 gn kd8852 kd8853 (b_wid2 bd9018 (by decide) (by decide)) (b_wid2 bd8595 (by decide) (by decide)) pd8851 (by omega))) (cwV 3 hT (good_V tb_1191 tb_1188 tb_1190 tb_36 tb_120) rfl rfl rfl (by decide +kernel) ⟨Nat.le_of_ble_eq_true rfl, Nat.le_of_ble_eq_true rfl⟩) (pool_preV (ci := 0) hK hE hS hA hw hW kd8852 (by decide) rfl) rfl rfl hl.1 rfl (lv_room (Nat.le_of_ble_eq_true rfl)) dX0_find_161 ⟨(show (gn - g0) + 196608 ≤ 327680 from by omega), (show (14 * (gn - g0)) + 2748928 ≤ 4580352 from by omega)⟩) (fun u gn H locs hq9068 hw hS => ?_)
                        obtain ⟨K, ln, Ls, hp9069⟩ := u
                        obtain ⟨ex9071, hW, ok9070, fx9072, pd9073, hle9074⟩ := hq9068
                        have hw : PW G cy K ln Ls A hp9069 H := hw
                        have gfx : FrX wsC K0 hp0 hp9069 := FrX.tr gf9075 gex fx9072 (by decide)
                        have gex := EXx.tr gex ex9071
                        have kd9078 := EXx.kd ex9071 kd8852 (by decide)
                        have kd9079 := EXx.kd ex9071 kd8854 (by decide)
                        have kd9080 := EXx.kd ex9071 kd8853 (by decide)
                        have hgn := NSx.bd pd9073
                        refine W.widen (k := gn - g0) (n := 14 * (gn - g0)) (by omega) (by omega) ?_
                        have hga : g0 ≤ gn := by omega
                        obtain ⟨zi9081, ea9082⟩ : ∃ z : Int32, z = zi8848 + 1 := ⟨_, rfl⟩
                        have bd9083 : (1 : Int) ≤ zi9081.toInt ∧ zi9081.toInt ≤ 131072 := b_iadd ea9082 bd9018 bc_1 (by decide) (by decide) (by decide) (by decide)
                        have qe9084 : zi9081.toInt = (zi8848 : Int32).toInt + (1 : Int32).toInt := e_iadd ea9082 bd9018 bc_1 (by decide) (by decide)
                        have qe9085 : zi9081.toInt = zi8848.toInt + 1 := by have ha : (1 : Int32).toInt = 1 := (by decide); rw [ha] at qe9084; exact qe9084
                        refine lv_iinc (v := zi9081) (lv' := [(8, .int zi9081), (0, .ref qa900), (1, .ref qa901), (3, .int zi903), (6, .int zi7587), (7, .int zi8607)]) hx hb dX0_find_164 hl (k := 5) rfl ea9082.symm (by decide) rfl (fun ls hl => ?_)
                        refine lv_goto (tgt := 112) hx hb dX0_find_167 (by decide) ?_
                        exact ih9012 K ln Ls gn hp9069 zi9081 _ _ ls (by have := hm9014; have := qe9085; omega) hW gex gfx ok9070 pd9073 (by omega) kd9078 kd9080 kd9079 (b_wid2 bd9083 (by decide) (by decide)) (by omega) (lv_sub hl [1, 2, 3, 4, 5, 0] rfl) hw hS
              exact lp9013 _ K ln Ls gn hp7588 zi7586 _ _ ls (lp_in _) hW gex gfx ok7589 pd7590 (by omega) kd7591 kd7592 kd7593 (b_wid2 bd7594 (by decide) (by decide)) (by omega) (lv_sub hl [2, 3, 4, 6, 1, 0] rfl) hw hS
      exact lp8591 _ K ln Ls gn hp4589 0 1 _ _ ls (lp_in _) hW gex gfx ok4590 pd4593 (by omega) kd4598 kd4600 kd4599 (b_wid2 bc_0 (by decide) (by decide)) (b_wid2 bc_1 (by decide) (by decide)) (lv_sub hl [2, 3, 5, 1, 0] rfl) hw hS
    · skip
      have tf9086 : zi4546.toInt = zi903.toInt := congrArg Int32.toInt cn4547
      have bd9087 : (0 : Int) ≤ zi4546.toInt ∧ zi4546.toInt ≤ 7 := r_eq_x cn4547 (b_all zi4546) bd903 (by decide) (by decide)
      refine lv_aload_n hx hb dX0_find_15 rfl (lv_at hl 0 rfl) ?_
      obtain ⟨zi9089, eq9088⟩ := rd_1007 ok1 kd900
      refine p_get (ci := 0) (v := .int zi9089) (C := RX0) (T := TX0) (N := 8) hx hb hT iw_X0 hown hK hw hW kd900 (by decide) rfl rfl 7 (by decide) eq9088 (hT _ tb_602) (fun _ h9 => h9) dX0_find_16 ?_
      refine lv_iload hx hb dX0_find_19 (lv_at hl 4 rfl) ?_
      refine lv_icmp_ne (tgt := 25) hx hb dX0_find_21 (by decide) (fun cn9090 => ?_) (fun cn9090 => ?_)
      · skip
        have tf9091 : (zi9089 : Int32).toInt ≠ (zi904 : Int32).toInt := fun e => cn9090 (Int32.toInt_inj.mp e)
        refine lv_aload_n hx hb dX0_find_25 rfl (lv_at hl 0 rfl) ?_
        refine lv_iconst (v := 1) hx hb dX0_find_26 (by decide) ?_
        refine p_put (ci := 0) (v := .int 1) (ty := .boolean) (C := RX0) (T := TX0) (N := 8) hx hb hT iw_X0 tyX0 tyX0_ok nmX0 hown hK hw hS hW kd900 (by decide) rfl rfl 5 (by decide) (hT _ tb_599) (fun _ h9 => h9) rfl (by decide +kernel) (nz_n bc_1 (by decide) (by decide)) (nz_f bc_1 (by decide) (by decide)) dX0_find_27 (fun hp9092 eh9093 H locs hw hS => ?_)
        have ok9094 := wr_1005 bc_1 (by decide) (by decide) ok1 kd900 eh9093
        refine lv_aload_n hx hb dX0_find_30 rfl (lv_at hl 0 rfl) ?_
        refine lv_iload_n hx hb dX0_find_31 rfl (lv_at hl 3 rfl) ?_
        refine p_put (ci := 0) (v := .int zi903) (ty := .int) (C := RX0) (T := TX0) (N := 8) hx hb hT iw_X0 tyX0 tyX0_ok nmX0 hown hK hw hS hW kd900 (by decide) rfl rfl 6 (by decide) (hT _ tb_601) (fun _ h9 => h9) rfl (by decide +kernel) rfl rfl dX0_find_32 (fun hp9095 eh9096 H locs hw hS => ?_)
        have ok9097 := wr_1006 ok9094 kd900 eh9096
        refine lv_aload_n hx hb dX0_find_35 rfl (lv_at hl 0 rfl) ?_
        refine lv_iload hx hb dX0_find_36 (lv_at hl 4 rfl) ?_
        refine p_put (ci := 0) (v := .int zi904) (ty := .int) (C := RX0) (T := TX0) (N := 8) hx hb hT iw_X0 tyX0 tyX0_ok nmX0 hown hK hw hS hW kd900 (by decide) rfl rfl 7 (by decide) (hT _ tb_602) (fun _ h9 => h9) rfl (by decide +kernel) rfl rfl dX0_find_38 (fun hp9098 eh9099 H locs hw hS => ?_)
        have ok9100 := wr_1007 ok9097 kd900 eh9099
        refine lv_aload_n hx hb dX0_find_41 rfl (lv_at hl 0 rfl) ?_
        refine lv_iconst (v := 0) hx hb dX0_find_42 (by decide) ?_
        refine p_put (ci := 0) (v := .int 0) (ty := .int) (C := RX0) (T := TX0) (N := 8) hx hb hT iw_X0 tyX0 tyX0_ok nmX0 hown hK hw hS hW kd900 (by decide) rfl rfl 3 (by decide) (hT _ tb_595) (fun _ h9 => h9) rfl (by decide +kernel) rfl rfl dX0_find_43 (fun hp9101 eh9102 H locs hw hS => ?_)
        have ok9103 := wr_1003 bc_0 (by decide) (by decide) ok9100 kd900 eh9102
        refine lv_aload_n hx hb dX0_find_46 rfl (lv_at hl 0 rfl) ?_
        refine lv_iconst (v := 0) hx hb dX0_find_47 (by decide) ?_
        refine p_put (ci := 0) (v := .int 0) (ty := .int) (C := RX0) (T := TX0) (N := 8) hx hb hT iw_X0 tyX0 tyX0_ok nmX0 hown hK hw hS hW kd900 (by decide) rfl rfl 4 (by decide) (hT _ tb_597) (fun _ h9 => h9) rfl (by decide +kernel) rfl rfl dX0_find_48 (fun hp9104 eh9105 H locs hw hS => ?_)
        have ok9106 := wr_1004 ok9103 kd900 eh9105
        refine lv_aload_n hx hb dX0_find_51 rfl (lv_at hl 0 rfl) ?_
        obtain ⟨qa9108, eq9107, kd9109⟩ := rd_1000 ok9106 kd900
        refine p_get (ci := 0) (v := .ref qa9108) (C := RX0) (T := TX0) (N := 8) hx hb hT iw_X0 hown hK hw hW kd900 (by decide) rfl rfl 0 (by decide) eq9107 (hT _ tb_591) (fun _ h9 => h9) dX0_find_52 ?_
        have pd9110 : NSx K ln hp9104 gn := NSx_fr ok1  (show Fr [1003, 1004, 1005, 1006, 1007] K hp0 hp9104 from (Fr.put (cq := 1004) (Fr.put (cq := 1003) (Fr.put (cq := 1007) (Fr.put (cq := 1006) (Fr.put (cq := 1005) (Fr.rf) eh9093 kd900 (cd_o (by decide)) (by decide)) eh9096 kd900 (cd_o (by decide)) (by decide)) eh9099 kd900 (cd_o (by decide)) (by decide)) eh9102 kd900 (cd_o (by decide)) (by decide)) eh9105 kd900 (cd_o (by decide)) (by decide))) (by decide) pdNS
        refine kq_v hw hS hA (va_runV (As := []) (rest := []) ⟨hx, hb, hml, hown, hT⟩ (cX3_clear_0 l G cy ev K ln Ls hW _ hp9104 ok9106 qa9108 gn kd9109 pd9110) (cwV 0 hT (good_V tb_1136 tb_1133 tb_1134 tb_1135 tb_117) rfl rfl rfl (by decide +kernel) ⟨Nat.le_of_ble_eq_true rfl, Nat.le_of_ble_eq_true rfl⟩) (pool_preV (ci := 3) hK hE hS hA hw hW kd9109 (by decide) rfl) rfl rfl hl.1 rfl (lv_room (Nat.le_of_ble_eq_true rfl)) dX0_find_55 ⟨(show (gn - g0) + 0 ≤ 327680 from by omega), (show (14 * (gn - g0)) + 0 ≤ 4580352 from by omega)⟩) (fun hp9111 H locs hq9114 hw hS => ?_)
        obtain ⟨ok9112, F9113, ⟨zi9116, eq9117, bd9118⟩, xq9119⟩ := hq9114
        have hw : PW G cy K ln Ls A hp9111 H := hw
        refine lv_aload_n hx hb dX0_find_58 rfl (lv_at hl 0 rfl) ?_
        obtain ⟨qa9121, eq9120, kd9122⟩ := rd_1001 ok9112 kd900
        refine p_get (ci := 0) (v := .ref qa9121) (C := RX0) (T := TX0) (N := 8) hx hb hT iw_X0 hown hK hw hW kd900 (by decide) rfl rfl 1 (by decide) eq9120 (hT _ tb_592) (fun _ h9 => h9) dX0_find_59 ?_
        refine lv_aload_n hx hb dX0_find_62 rfl (lv_at hl 2 rfl) ?_
        refine kq_v hw hS hA (va_runV (As := [.ref qa902]) (rest := []) ⟨hx, hb, hml, hown, hT⟩ (cX7_copyMoment_0 l G cy ev K ln Ls hW _ hp9111 ok9112 qa9121 qa902 kd9122 kd902) (cwV 1 hT (good_V tb_1051 tb_1138 tb_1049 tb_1050 tb_115) rfl rfl rfl (by decide +kernel) ⟨Nat.le_of_ble_eq_true rfl, Nat.le_of_ble_eq_true rfl⟩) (pool_preV (ci := 7) hK hE hS hA hw hW kd9122 (by decide) rfl) rfl rfl hl.1 rfl (lv_room (Nat.le_of_ble_eq_true rfl)) dX0_find_63 ⟨(show (gn - g0) + 0 ≤ 327680 from by omega), (show (14 * (gn - g0)) + 0 ≤ 4580352 from by omega)⟩) (fun hp9123 H locs hq9126 hw hS => ?_)
        obtain ⟨ok9124, F9125⟩ := hq9126
        have hw : PW G cy K ln Ls A hp9123 H := hw
        refine lv_aload_n hx hb dX0_find_66 rfl (lv_at hl 0 rfl) ?_
        have eq9128 : hp9123 qa900 0 = .ref qa9108 := Eq.trans (Fr.at (cq := 1000) F9125 kd900 (cd_o (by decide)) (by decide)) (Eq.trans (Fr.at (cq := 1000) F9113 kd900 (cd_o (by decide)) (by decide)) eq9107)
        refine p_get (ci := 0) (v := .ref qa9108) (C := RX0) (T := TX0) (N := 8) hx hb hT iw_X0 hown hK hw hW kd900 (by decide) rfl rfl 0 (by decide) eq9128 (hT _ tb_591) (fun _ h9 => h9) dX0_find_67 ?_
        refine lv_aload_n hx hb dX0_find_70 rfl (lv_at hl 0 rfl) ?_
        have eq9129 : hp9123 qa900 1 = .ref qa9121 := Eq.trans (Fr.at (cq := 1001) F9125 kd900 (cd_o (by decide)) (by decide)) eq9120
        refine p_get (ci := 0) (v := .ref qa9121) (C := RX0) (T := TX0) (N := 8) hx hb hT iw_X0 hown hK hw hW kd900 (by decide) rfl rfl 1 (by decide) eq9129 (hT _ tb_592) (fun _ h9 => h9) dX0_find_71 ?_
        refine lv_iconst (v := 0) hx hb dX0_find_74 (by decide) ?_
        refine lv_lconst (v := 1) hx hb dX0_find_75 (by decide) ?_
        refine lv_iconst (v := 0) hx hb dX0_find_76 (by decide) ?_
        have pd9130 : NSx K ln hp9123 gn := NSx_fr ok9112  (show Fr [8000, 8001, 8002, 8003, 8004, 8005] K hp9111 hp9123 from (Fr.tr (Fr.rf) F9125 (by decide))) (by decide) xq9119
        have gf9138 : FrX wsC K0 hp0 hp9123 := (FrX.tr gfx gex (FrX.of (show Fr [1003, 1004, 1005, 1006, 1007, 4006, 8000, 8001, 8002, 8003, 8004, 8005, 33000] K hp0 hp9123 from (Fr.tr (Fr.tr (Fr.put (cq := 1004) (Fr.put (cq := 1003) (Fr.put (cq := 1007) (Fr.put (cq := 1006) (Fr.put (cq := 1005) (Fr.rf) eh9093 kd900 (cd_o (by decide)) (by decide)) eh9096 kd900 (cd_o (by decide)) (by decide)) eh9099 kd900 (cd_o (by decide)) (by decide)) eh9102 kd900 (cd_o (by decide)) (by decide)) eh9105 kd900 (cd_o (by decide)) (by decide)) F9113 (by decide)) F9125 (by decide)))) (by decide))
        refine kg_v hw hS hA (va_runV (As := [.ref qa9121, .int 0, .long 1, .int 0]) (rest := []) ⟨hx, hb, hml, hown, hT⟩ (Met.szx (cX3_add_vG_0 l G cy ev K ln Ls hW _ hp9123 ok9124 qa9108 qa9121 0 1 0 gn kd9109 kd9122 pd9130)) (cwV 4 hT (good_V tb_1142 tb_1139 tb_1140 tb_1141 tb_117) rfl rfl rfl (by decide +kernel) ⟨Nat.le_of_ble_eq_true rfl, Nat.le_of_ble_eq_true rfl⟩) (pool_preV (ci := 3) hK hE hS hA hw hW kd9109 (by decide) rfl) rfl rfl hl.1 rfl (lv_room (Nat.le_of_ble_eq_true rfl)) dX0_find_77 ⟨(show (gn - g0) + 65536 ≤ 327680 from by omega), (show (14 * (gn - g0)) + 917504 ≤ 4580352 from by omega)⟩) (fun u gn H locs hq9131 hw hS => ?_)
        obtain ⟨K, ln, Ls, hp9132⟩ := u
        obtain ⟨ex9134, hW, ok9133, fx9135, pd9136, hle9137⟩ := hq9131
        have hw : PW G cy K ln Ls A hp9132 H := hw
        have gfx : FrX wsC K0 hp0 hp9132 := FrX.tr gf9138 gex fx9135 (by decide)
        have gex := EXx.tr gex ex9134
        have kd9141 := EXx.kd ex9134 kd900 (by decide)
        have kd9142 := EXx.kd ex9134 kd902 (by decide)
        have kd9143 := EXx.kd ex9134 kd901 (by decide)
        have hgn := NSx.bd pd9136
        refine W.widen (k := gn - g0) (n := 14 * (gn - g0)) (by omega) (by omega) ?_
        have hga : g0 ≤ gn := by omega
        refine lv_iconst (v := 0) hx hb dX0_find_80 (by decide) ?_
        refine lv_istore (lv' := [(5, .int 0), (0, .ref qa900), (1, .ref qa901), (2, .ref qa902), (3, .int zi903), (4, .int zi904)]) hx hb dX0_find_81 hl (by decide) rfl (fun ls hl => ?_)
        refine lv_iconst (v := 1) hx hb dX0_find_83 (by decide) ?_
        refine lv_istore (lv' := [(6, .int 1), (5, .int 0), (0, .ref qa900), (1, .ref qa901), (2, .ref qa902), (3, .int zi903), (4, .int zi904)]) hx hb dX0_find_84 hl (by decide) rfl (fun ls hl => ?_)
        have jn13131 : ∀ (K ln : Nat → Nat) (Ls : List Nat) (gn : Nat) (hp13125 : Nat → Nat → Value)  (H : Heap) (locs : List Loc) (ls : Array Slot), SW K ln Ls → EXx K0 ln0 K ln → FrX wsC K0 hp0 hp13125 → Ok K hp13125 → NSx K ln hp13125 gn → g0 ≤ gn → K qa900 = 1 → K qa901 = 11 → K qa902 = 8 → lv_has ls 9 [] → PW G cy K ln Ls A hp13125 H → va_S A s.heap H locs → W p l e ({ frames := 6, cells := 327680, slots := 4580352, locals := 150 } : Room) s m ([.ref qa900, .ref qa901, .ref qa902, .int zi903, .int zi904] : List Value).toArray below meth c H locs (gn - g0) (14 * (gn - g0)) Q (F0 m 180 ls []) := by
          intro K ln Ls gn hp13125 H locs ls hW gex gfx ok13126 pd13127 hga kd13128 kd13129 kd13130 hl hw hS
          rw [hQ]
          exact kgz_v (n := g0) hx hb hr hlocks hS (((K, ln, Ls, hp13125), gn) : GU × Nat) hw ⟨gex, hW, ok13126, gfx, pd13127, (by omega)⟩ (show (gn - g0) ≤ gn - g0 from by omega) (show (14 * (gn - g0)) ≤ 14 * (gn - g0) from by omega) (show (gn - g0) ≤ 327680 from by omega) (show (14 * (gn - g0)) ≤ 4580352 from by omega) dX0_find_180
        have lp13134 : ∀ (n13132 : Nat) (K ln : Nat → Nat) (Ls : List Nat) (gn : Nat) (hp12131 : Nat → Nat → Value) (zi12129 : Int32) (zi12130 : Int32) (H : Heap) (locs : List Loc) (ls : Array Slot), 5 - zi12130.toInt < (n13132 : Int) → SW K ln Ls → EXx K0 ln0 K ln → FrX wsC K0 hp0 hp12131 → Ok K hp12131 → NSx K ln hp12131 gn → g0 ≤ gn → K qa900 = 1 → K qa901 = 11 → K qa902 = 8 → ((0 : Int) ≤ zi12129.toInt ∧ zi12129.toInt ≤ 131072) → ((1 : Int) ≤ zi12130.toInt ∧ zi12130.toInt ≤ 5) → lv_has ls 9 [(0, .ref qa900), (1, .ref qa901), (3, .int zi903), (5, .int zi12129), (6, .int zi12130)] → PW G cy K ln Ls A hp12131 H → va_S A s.heap H locs → W p l e ({ frames := 6, cells := 327680, slots := 4580352, locals := 150 } : Room) s m ([.ref qa900, .ref qa901, .ref qa902, .int zi903, .int zi904] : List Value).toArray below meth c H locs (gn - g0) (14 * (gn - g0)) Q (F0 m 86 ls []) := by
          intro n13132
          induction n13132 with
          | zero =>
            intro K ln Ls gn hp12131 zi12129 zi12130 H locs ls hm13135 hW gex gfx ok12132 pd12133 hga kd12134 kd12135 kd12136 bd12137 bd12138 hl hw hS
            exact absurd hm13135 (by have := bd12138; omega)
          | succ n13132 ih13133 =>
            intro K ln Ls gn hp12131 zi12129 zi12130 H locs ls hm13135 hW gex gfx ok12132 pd12133 hga kd12134 kd12135 kd12136 bd12137 bd12138 hl hw hS
            refine lv_iload hx hb dX0_find_86 (lv_at hl 4 rfl) ?_
            refine lv_iconst (v := 4) hx hb dX0_find_88 (by decide) ?_
            refine lv_icmp_gt (tgt := 180) hx hb dX0_find_89 (by decide) (fun cn13136 => ?_) (fun cn13136 => ?_)
            · skip
              have bd13137 : (5 : Int) ≤ zi12130.toInt ∧ zi12130.toInt ≤ 5 := r_lt_y cn13136 bc_4 bd12138 (by decide) (by decide)
              exact jn13131 K ln Ls gn hp12131 _ _ ls hW gex gfx ok12132 pd12133 (by omega) kd12134 kd12135 kd12136 (lv_sub hl [] rfl) hw hS
            · skip
              have bd13138 : (1 : Int) ≤ zi12130.toInt ∧ zi12130.toInt ≤ 4 := r_le_x (Int32.not_lt.mp cn13136) bd12138 bc_4 (by decide) (by decide)
              refine lv_aload_n hx hb dX0_find_92 rfl (lv_at hl 0 rfl) ?_
              obtain ⟨zi13140, eq13139, bd13141⟩ := rd_1003 ok12132 kd12134
              refine p_get (ci := 0) (v := .int zi13140) (C := RX0) (T := TX0) (N := 8) hx hb hT iw_X0 hown hK hw hW kd12134 (by decide) rfl rfl 3 (by decide) eq13139 (hT _ tb_595) (fun _ h9 => h9) dX0_find_93 ?_
              refine lv_if_ne (tgt := 180) hx hb dX0_find_96 (by decide) (fun cn13142 => ?_) (fun cn13142 => ?_)
              · skip
                have tf13143 : (zi13140 : Int32).toInt ≠ (0 : Int32).toInt := fun e => cn13142 (Int32.toInt_inj.mp e)
                have := toi bc_0
                have bd13144 : (1 : Int) ≤ zi13140.toInt ∧ zi13140.toInt ≤ 4 := r_ne_lo cn13142 bd13141 (toi bc_0) (by decide) (by decide)
                exact jn13131 K ln Ls gn hp12131 _ _ ls hW gex gfx ok12132 pd12133 (by omega) kd12134 kd12135 kd12136 (lv_sub hl [] rfl) hw hS
              · skip
                have bd13145 : (0 : Int) ≤ zi13140.toInt ∧ zi13140.toInt ≤ 0 := r_eq_x cn13142 bd13141 bc_0 (by decide) (by decide)
                refine lv_aload_n hx hb dX0_find_99 rfl (lv_at hl 0 rfl) ?_
                obtain ⟨qa13147, eq13146, kd13148⟩ := rd_1000 ok12132 kd12134
                refine p_get (ci := 0) (v := .ref qa13147) (C := RX0) (T := TX0) (N := 8) hx hb hT iw_X0 hown hK hw hW kd12134 (by decide) rfl rfl 0 (by decide) eq13146 (hT _ tb_591) (fun _ h9 => h9) dX0_find_100 ?_
                obtain ⟨zi13150, eq13149, bd13151⟩ := rd_4006 ok12132 kd13148
                have nz13152 := (pd12133).sz kd13148 eq13149
                refine p_getN (ci := 3) (v := .int zi13150) (C := RX3) (T := TX3) (N := 7) hx hb hT iw_X3 hown hK hw hW kd13148 (by decide) rfl rfl 6 (by decide) eq13149 (hK.fl nw_400) (fun _ h9 => h9) dX0_find_103 ?_
                refine lv_istore (lv' := [(7, .int zi13150), (0, .ref qa900), (1, .ref qa901), (3, .int zi903), (5, .int zi12129), (6, .int zi12130)]) hx hb dX0_find_106 hl (by decide) rfl (fun ls hl => ?_)
                refine lv_iload hx hb dX0_find_108 (lv_at hl 4 rfl) ?_
                refine lv_istore (lv' := [(8, .int zi12129), (7, .int zi13150), (0, .ref qa900), (1, .ref qa901), (3, .int zi903), (5, .int zi12129), (6, .int zi12130)]) hx hb dX0_find_110 hl (by decide) rfl (fun ls hl => ?_)
                have jn13548 : ∀ (K ln : Nat → Nat) (Ls : List Nat) (gn : Nat) (hp13542 : Nat → Nat → Value)  (H : Heap) (locs : List Loc) (ls : Array Slot), SW K ln Ls → EXx K0 ln0 K ln → FrX wsC K0 hp0 hp13542 → Ok K hp13542 → NSx K ln hp13542 gn → g0 ≤ gn → K qa900 = 1 → K qa901 = 11 → K qa902 = 8 → lv_has ls 9 [(0, .ref qa900), (1, .ref qa901), (3, .int zi903), (6, .int zi12130), (7, .int zi13150)] → PW G cy K ln Ls A hp13542 H → va_S A s.heap H locs → W p l e ({ frames := 6, cells := 327680, slots := 4580352, locals := 150 } : Room) s m ([.ref qa900, .ref qa901, .ref qa902, .int zi903, .int zi904] : List Value).toArray below meth c H locs (gn - g0) (14 * (gn - g0)) Q (F0 m 170 ls []) := by
                  intro K ln Ls gn hp13542 H locs ls hW gex gfx ok13543 pd13544 hga kd13545 kd13546 kd13547 hl hw hS
                  refine lv_iload hx hb dX0_find_170 (lv_at hl 4 rfl) ?_
                  refine lv_istore (lv' := [(5, .int zi13150), (0, .ref qa900), (1, .ref qa901), (3, .int zi903), (6, .int zi12130), (7, .int zi13150)]) hx hb dX0_find_172 hl (by decide) rfl (fun ls hl => ?_)
                  obtain ⟨zi13549, ea13550⟩ : ∃ z : Int32, z = zi12130 + 1 := ⟨_, rfl⟩
                  have bd13551 : (2 : Int) ≤ zi13549.toInt ∧ zi13549.toInt ≤ 5 := b_iadd ea13550 bd13138 bc_1 (by decide) (by decide) (by decide) (by decide)
                  have qe13552 : zi13549.toInt = (zi12130 : Int32).toInt + (1 : Int32).toInt := e_iadd ea13550 bd13138 bc_1 (by decide) (by decide)
                  have qe13553 : zi13549.toInt = zi12130.toInt + 1 := by have ha : (1 : Int32).toInt = 1 := (by decide); rw [ha] at qe13552; exact qe13552
                  refine lv_iinc (v := zi13549) (lv' := [(6, .int zi13549), (5, .int zi13150), (0, .ref qa900), (1, .ref qa901), (3, .int zi903), (7, .int zi13150)]) hx hb dX0_find_174 hl (k := 4) rfl ea13550.symm (by decide) rfl (fun ls hl => ?_)
                  refine lv_goto (tgt := 86) hx hb dX0_find_177 (by decide) ?_
                  exact ih13133 K ln Ls gn hp13542 zi13150 zi13549 _ _ ls (by have := hm13135; have := qe13553; omega) hW gex gfx ok13543 pd13544 (by omega) kd13545 kd13546 kd13547 (b_wid2 bd13151 (by decide) (by decide)) (b_wid2 bd13551 (by decide) (by decide)) (lv_sub hl [2, 3, 4, 1, 0] rfl) hw hS
                have lp13556 : ∀ (n13554 : Nat) (K ln : Nat → Nat) (Ls : List Nat) (gn : Nat) (hp13392 : Nat → Nat → Value) (zi13391 : Int32) (H : Heap) (locs : List Loc) (ls : Array Slot), 131072 - zi13391.toInt < (n13554 : Int) → SW K ln Ls → EXx K0 ln0 K ln → FrX wsC K0 hp0 hp13392 → Ok K hp13392 → NSx K ln hp13392 gn → g0 ≤ gn → K qa900 = 1 → K qa901 = 11 → K qa902 = 8 → ((0 : Int) ≤ zi13391.toInt ∧ zi13391.toInt ≤ 131072) → ((zi13150 : Int32).toInt ≤ (gn : Nat)) → lv_has ls 9 [(0, .ref qa900), (1, .ref qa901), (3, .int zi903), (6, .int zi12130), (7, .int zi13150), (8, .int zi13391)] → PW G cy K ln Ls A hp13392 H → va_S A s.heap H locs → W p l e ({ frames := 6, cells := 327680, slots := 4580352, locals := 150 } : Room) s m ([.ref qa900, .ref qa901, .ref qa902, .int zi903, .int zi904] : List Value).toArray below meth c H locs (gn - g0) (14 * (gn - g0)) Q (F0 m 112 ls []) := by
                  intro n13554
                  induction n13554 with
                  | zero =>
                    intro K ln Ls gn hp13392 zi13391 H locs ls hm13557 hW gex gfx ok13393 pd13394 hga kd13395 kd13396 kd13397 bd13399 rq13398 hl hw hS
                    exact absurd hm13557 (by have := bd13399; omega)
                  | succ n13554 ih13555 =>
                    intro K ln Ls gn hp13392 zi13391 H locs ls hm13557 hW gex gfx ok13393 pd13394 hga kd13395 kd13396 kd13397 bd13399 rq13398 hl hw hS
                    refine lv_iload hx hb dX0_find_112 (lv_at hl 5 rfl) ?_
                    refine lv_iload hx hb dX0_find_114 (lv_at hl 4 rfl) ?_
                    refine lv_icmp_ge (tgt := 170) hx hb dX0_find_116 (by decide) (fun cn13558 => ?_) (fun cn13558 => ?_)
                    · skip
                      have tf13559 : zi13150.toInt ≤ zi13391.toInt := (fa_le _ _).mp cn13558
                      exact jn13548 K ln Ls gn hp13392 _ _ ls hW gex gfx ok13393 pd13394 (by omega) kd13395 kd13396 kd13397 (lv_sub hl [0, 1, 2, 3, 4] rfl) hw hS
                    · skip
                      have tf13560 : zi13391.toInt < zi13150.toInt := (fa_lt _ _).mp (Int32.not_le.mp cn13558)
                      have bd13561 : (0 : Int) ≤ zi13391.toInt ∧ zi13391.toInt ≤ 131071 := r_lt_x (Int32.not_le.mp cn13558) bd13399 bd13151 (by decide) (by decide)
                      have bd13562 : (1 : Int) ≤ zi13150.toInt ∧ zi13150.toInt ≤ 131072 := r_lt_y (Int32.not_le.mp cn13558) bd13399 bd13151 (by decide) (by decide)
                      refine lv_aload_n hx hb dX0_find_119 rfl (lv_at hl 0 rfl) ?_
                      obtain ⟨zi13564, eq13563, bd13565⟩ := rd_1003 ok13393 kd13395
                      refine p_get (ci := 0) (v := .int zi13564) (C := RX0) (T := TX0) (N := 8) hx hb hT iw_X0 hown hK hw hW kd13395 (by decide) rfl rfl 3 (by decide) eq13563 (hT _ tb_595) (fun _ h9 => h9) dX0_find_120 ?_
                      refine lv_if_ne (tgt := 170) hx hb dX0_find_123 (by decide) (fun cn13566 => ?_) (fun cn13566 => ?_)
                      · skip
                        have tf13567 : (zi13564 : Int32).toInt ≠ (0 : Int32).toInt := fun e => cn13566 (Int32.toInt_inj.mp e)
                        have := toi bc_0
                        have bd13568 : (1 : Int) ≤ zi13564.toInt ∧ zi13564.toInt ≤ 4 := r_ne_lo cn13566 bd13565 (toi bc_0) (by decide) (by decide)
                        exact jn13548 K ln Ls gn hp13392 _ _ ls hW gex gfx ok13393 pd13394 (by omega) kd13395 kd13396 kd13397 (lv_sub hl [0, 1, 2, 3, 4] rfl) hw hS
                      · skip
                        have bd13569 : (0 : Int) ≤ zi13564.toInt ∧ zi13564.toInt ≤ 0 := r_eq_x cn13566 bd13565 bc_0 (by decide) (by decide)
                        refine lv_aload_n hx hb dX0_find_126 rfl (lv_at hl 1 rfl) ?_
                        obtain ⟨qa13571, eq13570, kd13572⟩ := rd_11016 ok13393 kd13396
                        refine p_getN (ci := 10) (v := .ref qa13571) (C := RX10) (T := TX10) (N := 20) hx hb hT iw_X10 hown hK hw hW kd13396 (by decide) rfl rfl 16 (by decide) eq13570 (hK.fl nw_131) (fun _ h9 => h9) dX0_find_127 ?_
                        refine lv_iload_n hx hb dX0_find_130 rfl (lv_at hl 2 rfl) ?_
                        obtain ⟨zi13574, eq13573⟩ := rd_54000 ok13393 kd13572 ((zi903 : Int32).toNatClampNeg)
                        refine p_iald (v := zi13574) hx hb hK hw hW kd13572 (by decide) rfl (hW.len kd13572 (n := 8) rfl (by decide)) (vp_b bd903 (by decide) (by decide)) eq13573 dX0_find_131 ?_
                        refine lv_aload_n hx hb dX0_find_132 rfl (lv_at hl 0 rfl) ?_
                        obtain ⟨qa13576, eq13575, kd13577⟩ := rd_1000 ok13393 kd13395
                        refine p_get (ci := 0) (v := .ref qa13576) (C := RX0) (T := TX0) (N := 8) hx hb hT iw_X0 hown hK hw hW kd13395 (by decide) rfl rfl 0 (by decide) eq13575 (hT _ tb_591) (fun _ h9 => h9) dX0_find_133 ?_
                        obtain ⟨qa13579, eq13578, kd13580⟩ := rd_4001 ok13393 kd13577
                        have ln13581 := (pd13394).ref kd13577 (by decide) eq13578
                        refine p_getN (ci := 3) (v := .ref qa13579) (C := RX3) (T := TX3) (N := 7) hx hb hT iw_X3 hown hK hw hW kd13577 (by decide) rfl rfl 1 (by decide) eq13578 (hK.fl nw_392) (fun _ h9 => h9) dX0_find_136 ?_
                        refine lv_iload hx hb dX0_find_139 (lv_at hl 5 rfl) ?_
                        obtain ⟨zi13583, eq13582⟩ := rd_29000 ok13393 kd13580 ((zi13391 : Int32).toNatClampNeg)
                        refine p_iald (v := zi13583) hx hb hK hw hW kd13580 (by decide) rfl ln13581 (vp_bv (by omega) (by omega)) eq13582 dX0_find_141 ?_
                        refine lv_isub hx hb dX0_find_142 (lv_topi (fun zi13584 ea13585 => ?_))
                        refine lv_iconst (v := 4) hx hb dX0_find_143 (by decide) ?_
                        refine lv_iload hx hb dX0_find_144 (lv_at hl 3 rfl) ?_
                        refine lv_isub hx hb dX0_find_146 (lv_topi (fun zi13586 ea13587 => ?_))
                        have bd13588 : (0 : Int) ≤ zi13586.toInt ∧ zi13586.toInt ≤ 3 := b_isub ea13587 bc_4 bd13138 (by decide) (by decide) (by decide) (by decide)
                        have qe13589 : zi13586.toInt = (4 : Int32).toInt - (zi12130 : Int32).toInt := e_isub ea13587 bc_4 bd13138 (by decide) (by decide)
                        have qe13590 : zi13586.toInt = 4 - zi12130.toInt := by have ha : (4 : Int32).toInt = 4 := (by decide); rw [ha] at qe13589; exact qe13589
                        refine lv_iconst (v := 1) hx hb dX0_find_147 (by decide) ?_
                        refine lv_iadd hx hb dX0_find_148 (lv_topi (fun zi13591 ea13592 => ?_))
                        have bd13593 : (1 : Int) ≤ zi13591.toInt ∧ zi13591.toInt ≤ 4 := b_iadd ea13592 bd13588 bc_1 (by decide) (by decide) (by decide) (by decide)
                        have qe13594 : zi13591.toInt = (zi13586 : Int32).toInt + (1 : Int32).toInt := e_iadd ea13592 bd13588 bc_1 (by decide) (by decide)
                        have qe13595 : zi13591.toInt = zi13586.toInt + 1 := by have ha : (1 : Int32).toInt = 1 := (by decide); rw [ha] at qe13594; exact qe13594
                        refine kq_i hw hS hA (va_runS (As := [.int zi13584, .int zi13591]) (rest := []) ⟨hx, hb, hml, hown, hT⟩ (cX0_canCome_0 l G cy ev K ln Ls hW _ hp13392 ok13393 zi13584 zi13591) (va_cwS 2 hT (good_S tb_1187 tb_1185 tb_1186 tb_120) rfl rfl rfl (by decide +kernel) ⟨Nat.le_of_ble_eq_true rfl, Nat.le_of_ble_eq_true rfl⟩) (PB2.preS hK hE hS hA hw) rfl rfl hl.1 rfl (lv_room (Nat.le_of_ble_eq_true rfl)) dX0_find_149 ⟨(show (gn - g0) + 0 ≤ 327680 from by omega), (show (14 * (gn - g0)) + 0 ≤ 4580352 from by omega)⟩) (fun zi13600 hp13596 H locs hq13599 hw hS => ?_)
                        obtain ⟨ok13597, F13598, bd13601⟩ := hq13599
                        obtain rfl : hp13392 = hp13596 := (Fr.nil F13598).symm
                        have hw : PW G cy K ln Ls A hp13392 H := hw
                        refine lv_if_eq (tgt := 164) hx hb dX0_find_152 (by decide) (fun cn13602 => ?_) (fun cn13602 => ?_)
                        · skip
                          have bd13603 : (0 : Int) ≤ zi13600.toInt ∧ zi13600.toInt ≤ 0 := r_eq_x cn13602 bd13601 bc_0 (by decide) (by decide)
                          obtain ⟨zi13604, ea13605⟩ : ∃ z : Int32, z = zi13391 + 1 := ⟨_, rfl⟩
                          have bd13606 : (1 : Int) ≤ zi13604.toInt ∧ zi13604.toInt ≤ 131072 := b_iadd ea13605 bd13561 bc_1 (by decide) (by decide) (by decide) (by decide)
                          have qe13607 : zi13604.toInt = (zi13391 : Int32).toInt + (1 : Int32).toInt := e_iadd ea13605 bd13561 bc_1 (by decide) (by decide)
                          have qe13608 : zi13604.toInt = zi13391.toInt + 1 := by have ha : (1 : Int32).toInt = 1 := (by decide); rw [ha] at qe13607; exact qe13607
                          refine lv_iinc (v := zi13604) (lv' := [(8, .int zi13604), (0, .ref qa900), (1, .ref qa901), (3, .int zi903), (6, .int zi12130), (7, .int zi13150)]) hx hb dX0_find_164 hl (k := 5) rfl ea13605.symm (by decide) rfl (fun ls hl => ?_)
                          refine lv_goto (tgt := 112) hx hb dX0_find_167 (by decide) ?_
                          exact ih13555 K ln Ls gn hp13392 zi13604 _ _ ls (by have := hm13557; have := qe13608; omega) hW gex gfx ok13393 pd13394 (by omega) kd13395 kd13396 kd13397 (b_wid2 bd13606 (by decide) (by decide)) (by omega) (lv_sub hl [1, 2, 3, 4, 5, 0] rfl) hw hS
                        · skip
                          have tf13609 : (zi13600 : Int32).toInt ≠ (0 : Int32).toInt := fun e => cn13602 (Int32.toInt_inj.mp e)
                          have := toi bc_0
                          have bd13610 : (1 : Int) ≤ zi13600.toInt ∧ zi13600.toInt ≤ 1 := r_ne_lo cn13602 bd13601 (toi bc_0) (by decide) (by decide)
                          refine lv_aload_n hx hb dX0_find_155 rfl (lv_at hl 0 rfl) ?_
                          refine lv_aload_n hx hb dX0_find_156 rfl (lv_at hl 1 rfl) ?_
                          refine lv_iload hx hb dX0_find_157 (lv_at hl 5 rfl) ?_
                          refine lv_iload hx hb dX0_find_159 (lv_at hl 3 rfl) ?_
                          have gf13618 : FrX wsC K0 hp0 hp13392 := gfx
                          refine kg_v hw hS hA (va_runV (As := [.ref qa901, .int zi13391, .int zi12130]) (rest := []) ⟨hx, hb, hml, hown, hT⟩ (Met.szx (cX0_expand_0 l G cy ev K ln Ls hW _ hp13392 ok13393 qa900 qa901 zi13391 zi12130 gn kd13395 kd13396 (b_wid2 bd13561 (by decide) (by decide)) (b_wid2 bd13138 (by decide) (by decide)) pd13394 (by omega))) (cwV 3 hT (good_V tb_1191 tb_1188 tb_1190 tb_36 tb_120) rfl rfl rfl (by decide +kernel) ⟨Nat.le_of_ble_eq_true rfl, Nat.le_of_ble_eq_true rfl⟩) (pool_preV (ci := 0) hK hE hS hA hw hW kd13395 (by decide) rfl) rfl rfl hl.1 rfl (lv_room (Nat.le_of_ble_eq_true rfl)) dX0_find_161 ⟨(show (gn - g0) + 196608 ≤ 327680 from by omega), (show (14 * (gn - g0)) + 2748928 ≤ 4580352 from by omega)⟩) (fun u gn H locs hq13611 hw hS => ?_)
                          obtain ⟨K, ln, Ls, hp13612⟩ := u
                          obtain ⟨ex13614, hW, ok13613, fx13615, pd13616, hle13617⟩ := hq13611
                          have hw : PW G cy K ln Ls A hp13612 H := hw
                          have gfx : FrX wsC K0 hp0 hp13612 := FrX.tr gf13618 gex fx13615 (by decide)
                          have gex := EXx.tr gex ex13614
                          have kd13621 := EXx.kd ex13614 kd13395 (by decide)
                          have kd13622 := EXx.kd ex13614 kd13397 (by decide)
                          have kd13623 := EXx.kd ex13614 kd13396 (by decide)
                          have hgn := NSx.bd pd13616
                          refine W.widen (k := gn - g0) (n := 14 * (gn - g0)) (by omega) (by omega) ?_
                          have hga : g0 ≤ gn := by omega
                          obtain ⟨zi13624, ea13625⟩ : ∃ z : Int32, z = zi13391 + 1 := ⟨_, rfl⟩
                          have bd13626 : (1 : Int) ≤ zi13624.toInt ∧ zi13624.toInt ≤ 131072 := b_iadd ea13625 bd13561 bc_1 (by decide) (by decide) (by decide) (by decide)
                          have qe13627 : zi13624.toInt = (zi13391 : Int32).toInt + (1 : Int32).toInt := e_iadd ea13625 bd13561 bc_1 (by decide) (by decide)
                          have qe13628 : zi13624.toInt = zi13391.toInt + 1 := by have ha : (1 : Int32).toInt = 1 := (by decide); rw [ha] at qe13627; exact qe13627
                          refine lv_iinc (v := zi13624) (lv' := [(8, .int zi13624), (0, .ref qa900), (1, .ref qa901), (3, .int zi903), (6, .int zi12130), (7, .int zi13150)]) hx hb dX0_find_164 hl (k := 5) rfl ea13625.symm (by decide) rfl (fun ls hl => ?_)
                          refine lv_goto (tgt := 112) hx hb dX0_find_167 (by decide) ?_
                          exact ih13555 K ln Ls gn hp13612 zi13624 _ _ ls (by have := hm13557; have := qe13628; omega) hW gex gfx ok13613 pd13616 (by omega) kd13621 kd13623 kd13622 (b_wid2 bd13626 (by decide) (by decide)) (by omega) (lv_sub hl [1, 2, 3, 4, 5, 0] rfl) hw hS
                exact lp13556 _ K ln Ls gn hp12131 zi12129 _ _ ls (lp_in _) hW gex gfx ok12132 pd12133 (by omega) kd12134 kd12135 kd12136 (b_wid2 bd12137 (by decide) (by decide)) (by omega) (lv_sub hl [2, 3, 4, 6, 1, 0] rfl) hw hS
        exact lp13134 _ K ln Ls gn hp9132 0 1 _ _ ls (lp_in _) hW gex gfx ok9133 pd9136 (by omega) kd9141 kd9143 kd9142 (b_wid2 bc_0 (by decide) (by decide)) (b_wid2 bc_1 (by decide) (by decide)) (lv_sub hl [2, 3, 5, 1, 0] rfl) hw hS
      · skip
        have tf13629 : zi9089.toInt = zi904.toInt := congrArg Int32.toInt cn9090
        have bd13630 : (0 : Int) ≤ zi9089.toInt ∧ zi9089.toInt ≤ 7 := r_eq_x cn9090 (b_all zi9089) bd904 (by decide) (by decide)
        rw [hQ]
        exact kgz_v (n := g0) hx hb hr hlocks hS (((K, ln, Ls, hp0), gn) : GU × Nat) hw ⟨gex, hW, ok1, gfx, pdNS, (by omega)⟩ (show (gn - g0) ≤ gn - g0 from by omega) (show (14 * (gn - g0)) ≤ 14 * (gn - g0) from by omega) (show (gn - g0) ≤ 327680 from by omega) (show (14 * (gn - g0)) ≤ 4580352 from by omega) dX0_find_24
