set_option maxRecDepth 100000 in
set_option maxHeartbeats 4000000 in
theorem cX3_add_vG_0 (l : Launch) (G : va_G) (cy : Nat → ClassId) (ev : Ew) (K0 ln0 : Nat → Nat) (Ls0 : List Nat) (hW0 : SW K0 ln0 Ls0) (sz : Nat) (hp0 : Nat → Nat → Value) (ok0 : Ok K0 hp0) (qa900 : Nat) (qa901 : Nat) (zi902 : Int32) (wl903 : Int64) (zi904 : Int32) (g0 : Nat) (kd900 : K0 qa900 = 4) (kd901 : K0 qa901 = 8) (pdNS : NSx K0 ln0 hp0 g0) : Met l yX3_add (WS yX3_add cX3_add 7 none) { frames := 3, cells := 65536, slots := 917504, locals := 84 } (PB2 [.ref qa900, .ref qa901, .int zi902, .long wl903, .int zi904] sz G cy ev (va_pl Ls0 (cellOf cy K0 ln0 hp0))) (QGv (fun u : GU × Nat => GPx wsC K0 ln0 hp0 g0 u.1 u.2) G cy g0 (va_A (va_pl Ls0 (cellOf cy K0 ln0 hp0)) sz)) 65536 917504 (va_A (va_pl Ls0 (cellOf cy K0 ln0 hp0)) sz) := by
  refine met_of2 (y := yX3_add) (L := 7) (av := [.ref qa900, .ref qa901, .int zi902, .long wl903, .int zi904]) (Qc := fun A => QGv (fun u : GU × Nat => GPx wsC K0 ln0 hp0 g0 u.1 u.2) G cy g0 A) (plainFor_of_name (by decide)) (Nat.le_of_ble_eq_true rfl) ?_
  intro p e s m below meth c hsz hx hb hr hml hown hT hlocks hin hK A hA hE hw hS ls hl
  have hw : PW G cy K0 ln0 Ls0 A hp0 s.heap := hw
  have hown : s.vm.findClass "LieClock$Nodes" = some m.cls := hown
  have hl : lv_has ls 7 [(0, .ref qa900), (1, .ref qa901), (2, .int zi902), (3, .long wl903), (5, .int zi904)] := hl
  obtain ⟨Q, hQ⟩ : ∃ Q : State → Prop, Q = MQ below (QGv (fun u : GU × Nat => GPx wsC K0 ln0 hp0 g0 u.1 u.2) G cy g0 A) ([.ref qa900, .ref qa901, .int zi902, .long wl903, .int zi904] : List Value).toArray s 65536 917504 A := ⟨_, rfl⟩
  rw [← hQ]
  obtain ⟨K, ln, Ls, gn, hW, gex, gfx, ok1, hKe, hga, hge, kd900, kd901, pdNS, hw⟩ : ∃ (K ln : Nat → Nat) (Ls : List Nat) (gn : Nat), SW K ln Ls ∧ EXx K0 ln0 K ln ∧ FrX wsC K0 hp0 hp0 ∧ Ok K hp0 ∧ K = K0 ∧ g0 ≤ gn ∧ gn = g0 ∧ (K qa900 = 4) ∧ (K qa901 = 8) ∧ (NSx K ln hp0 gn) ∧ PW G cy K ln Ls A hp0 s.heap := ⟨K0, ln0, Ls0, g0, hW0, EXx.rf, FrX.rf, ok0, rfl, Nat.le_refl _, rfl, kd900, kd901, pdNS, hw⟩
  have hg0 : 256 ≤ g0 ∧ g0 ≤ 131072 := by have := NSx.bd pdNS; omega
  have hgn := NSx.bd pdNS
  obtain ⟨zi2, eq1, bd3⟩ := rd_4006 ok1 kd900
  have nz4 := (pdNS).sz kd900 eq1
  refine lv_aload_n hx hb dX3_add_0 rfl (lv_at hl 0 rfl) ?_
  refine lv_aload_n hx hb dX3_add_1 rfl (lv_at hl 1 rfl) ?_
  refine lv_iload hx hb dX3_add_2 (lv_at hl 4 rfl) ?_
  refine kq_i hw hS hA (va_runV (As := [.ref qa901, .int zi904]) (rest := []) ⟨hx, hb, hml, hown, hT⟩ (cX3_slotOf_0 l G cy ev K ln Ls hW _ hp0 ok1 qa900 qa901 zi904 gn kd900 kd901 pdNS) (cwV 2 hT (good_V tb_1146 tb_1143 tb_1145 tb_33 tb_117) rfl rfl rfl (by decide +kernel) ⟨Nat.le_of_ble_eq_true rfl, Nat.le_of_ble_eq_true rfl⟩) (pool_preV (ci := 3) hK hE hS hA hw hW kd900 (by decide) rfl) rfl rfl hl.1 rfl (lv_room (Nat.le_of_ble_eq_true rfl)) dX3_add_4 ⟨(show 0 + 0 ≤ 65536 from by omega), (show 0 + 0 ≤ 917504 from by omega)⟩) (fun zi9 hp5 H locs hq8 hw hS => ?_)
  obtain ⟨ok6, F7, bd10, xq11, xq12⟩ := hq8
  obtain rfl : hp0 = hp5 := (Fr.nil F7).symm
  have hw : PW G cy K ln Ls A hp0 H := hw
  refine lv_istore (lv' := [(6, .int zi9), (0, .ref qa900), (1, .ref qa901), (2, .int zi902), (3, .long wl903), (5, .int zi904)]) hx hb dX3_add_7 hl (by decide) rfl (fun ls hl => ?_)
  refine lv_iload hx hb dX3_add_9 (lv_at hl 0 rfl) ?_
  refine lv_if_lt (tgt := 43) hx hb dX3_add_11 (by decide) (fun cn13 => ?_) (fun cn13 => ?_)
  · skip
    have bd14 : (-1 : Int) ≤ zi9.toInt ∧ zi9.toInt ≤ -1 := r_lt_x cn13 bd10 bc_0 (by decide) (by decide)
    refine lv_aload_n hx hb dX3_add_43 rfl (lv_at hl 1 rfl) ?_
    refine p_get (ci := 3) (v := .int zi2) (C := RX3) (T := TX3) (N := 7) hx hb hT iw_X3 hown hK hw hW kd900 (by decide) rfl rfl 6 (by decide) eq1 (hT _ tb_503) (fun _ h9 => h9) dX3_add_44 ?_
    refine lv_aload_n hx hb dX3_add_47 rfl (lv_at hl 1 rfl) ?_
    obtain ⟨qa16, eq15, kd17⟩ := rd_4000 ok1 kd900
    have ln18 := (pdNS).ref kd900 (by decide) eq15
    refine p_get (ci := 3) (v := .ref qa16) (C := RX3) (T := TX3) (N := 7) hx hb hT iw_X3 hown hK hw hW kd900 (by decide) rfl rfl 0 (by decide) eq15 (hT _ tb_492) (fun _ h9 => h9) dX3_add_48 ?_
    obtain ⟨zi19, ez20⟩ : ∃ z : Int32, Int32.ofNat (ln qa16) = z := ⟨_, rfl⟩
    refine p_alen (v := zi19) hx hb hK hw hW kd17 (by decide) rfl rfl ez20 dX3_add_51 ?_
    have hl21 : zi19.toInt = (gn : Nat) := by have h9 := ofNat_len ez20 (by rw [ln18]; omega); rw [ln18] at h9; exact h9
    have bd22 : (256 : Int) ≤ zi19.toInt ∧ zi19.toInt ≤ 131072 := (by omega)
    refine lv_icmp_lt (tgt := 68) hx hb dX3_add_52 (by decide) (fun cn23 => ?_) (fun cn23 => ?_)
    · skip
      have tf24 : zi2.toInt < zi19.toInt := (fa_lt _ _).mp cn23
      have bd25 : (0 : Int) ≤ zi2.toInt ∧ zi2.toInt ≤ 131071 := r_lt_x cn23 bd3 bd22 (by decide) (by decide)
      refine lv_iload hx hb dX3_add_68 (lv_at hl 0 rfl) ?_
      refine lv_if_lt (tgt := 85) hx hb dX3_add_70 (by decide) (fun _ => ?_) (fun c => absurd (d_lt bd14 bc_0 (by decide)) c)
      rw [hQ]
      exact kgz_v (n := g0) hx hb hr hlocks hS (((K, ln, Ls, hp0), gn) : GU × Nat) hw ⟨gex, hW, ok1, gfx, pdNS, (by omega)⟩ (show 0 ≤ gn - g0 from by omega) (show 0 ≤ 14 * (gn - g0) from by omega) (show 0 ≤ 65536 from by omega) (show 0 ≤ 917504 from by omega) dX3_add_85
    · skip
      have tf26 : zi19.toInt ≤ zi2.toInt := (fa_le _ _).mp (Int32.not_lt.mp cn23)
      have bd27 : (256 : Int) ≤ zi2.toInt ∧ zi2.toInt ≤ 131072 := r_le_y (Int32.not_lt.mp cn23) bd22 bd3 (by decide) (by decide)
      refine lv_aload_n hx hb dX3_add_55 rfl (lv_at hl 1 rfl) ?_
      by_cases hq28 : 2 * gn ≤ 131072
      · skip
        have gf36 : FrX wsC K0 hp0 hp0 := gfx
        refine kg_v hw hS hA (va_runV (As := []) (rest := []) ⟨hx, hb, hml, hown, hT⟩ (Met.szx (cX3_grow_vGG_0 l G cy ev K ln Ls hW _ hp0 ok1 qa900 gn kd900 pdNS (by omega))) (cwV 0 hT (good_V tb_1159 tb_1156 tb_1158 tb_34 tb_117) rfl rfl rfl (by decide +kernel) ⟨Nat.le_of_ble_eq_true rfl, Nat.le_of_ble_eq_true rfl⟩) (pool_preV (ci := 3) hK hE hS hA hw hW kd900 (by decide) rfl) rfl rfl hl.1 rfl (lv_room (Nat.le_of_ble_eq_true rfl)) dX3_add_56 ⟨(show 0 + 65536 ≤ 65536 from by omega), (show 0 + 917504 ≤ 917504 from by omega)⟩) (fun u gn H locs hq29 hw hS => ?_)
        obtain ⟨K, ln, Ls, hp30⟩ := u
        obtain ⟨⟨ex32, hW, ok31, fx33, pd34, hle35⟩, gp38⟩ := hq29
        have gp38 : gn = _ := gp38
        have ex32 : EXx _ _ K ln := ex32
        have hW : SW K ln Ls := hW
        have ok31 : Ok K hp30 := ok31
        have fx33 : FrX _ _ _ hp30 := fx33
        have pd34 : NSx K ln hp30 gn := pd34
        have hle35 : _ ≤ gn := hle35
        have hw : PW G cy K ln Ls A hp30 H := hw
        have gfx : FrX wsC K0 hp0 hp30 := FrX.tr gf36 gex fx33 (by decide +kernel)
        have gex := EXx.tr gex ex32
        have kd39 := EXx.kd ex32 kd900 (by decide)
        have kd40 := EXx.kd ex32 kd901 (by decide)
        (try clear kd900); (try clear kd901); (try clear kd17); (try clear ln18)
        have hgn := NSx.bd pd34
        refine W.widen (k := gn - g0) (n := 14 * (gn - g0)) (by omega) (by omega) ?_
        have hga : g0 ≤ gn := by omega
        refine lv_aload_n hx hb dX3_add_59 rfl (lv_at hl 1 rfl) ?_
        refine lv_aload_n hx hb dX3_add_60 rfl (lv_at hl 2 rfl) ?_
        refine lv_iload hx hb dX3_add_61 (lv_at hl 5 rfl) ?_
        refine kq_i hw hS hA (va_runV (As := [.ref qa901, .int zi904]) (rest := []) ⟨hx, hb, hml, hown, hT⟩ (cX3_slotOf_0 l G cy ev K ln Ls hW _ hp30 ok31 qa900 qa901 zi904 gn kd39 kd40 pd34) (cwV 2 hT (good_V tb_1146 tb_1143 tb_1145 tb_33 tb_117) rfl rfl rfl (by decide +kernel) ⟨Nat.le_of_ble_eq_true rfl, Nat.le_of_ble_eq_true rfl⟩) (pool_preV (ci := 3) hK hE hS hA hw hW kd39 (by decide) rfl) rfl rfl hl.1 rfl (lv_room (Nat.le_of_ble_eq_true rfl)) dX3_add_63 ⟨(show (gn - g0) + 0 ≤ 65536 from by omega), (show (14 * (gn - g0)) + 0 ≤ 917504 from by omega)⟩) (fun zi45 hp41 H locs hq44 hw hS => ?_)
        obtain ⟨ok42, F43, bd46, xq47, xq48⟩ := hq44
        obtain rfl : hp30 = hp41 := (Fr.nil F43).symm
        have hw : PW G cy K ln Ls A hp30 H := hw
        refine lv_istore (lv' := [(6, .int zi45), (0, .ref qa900), (1, .ref qa901), (2, .int zi902), (3, .long wl903), (5, .int zi904)]) hx hb dX3_add_66 hl (by decide) rfl (fun ls hl => ?_)
        refine lv_iload hx hb dX3_add_68 (lv_at hl 0 rfl) ?_
        refine lv_if_lt (tgt := 85) hx hb dX3_add_70 (by decide) (fun cn49 => ?_) (fun cn49 => ?_)
        · skip
          have bd50 : (-1 : Int) ≤ zi45.toInt ∧ zi45.toInt ≤ -1 := r_lt_x cn49 bd46 bc_0 (by decide) (by decide)
          rw [hQ]
          exact kgz_v (n := g0) hx hb hr hlocks hS (((K, ln, Ls, hp30), gn) : GU × Nat) hw ⟨gex, hW, ok31, gfx, pd34, (by omega)⟩ (show (gn - g0) ≤ gn - g0 from by omega) (show (14 * (gn - g0)) ≤ 14 * (gn - g0) from by omega) (show (gn - g0) ≤ 65536 from by omega) (show (14 * (gn - g0)) ≤ 917504 from by omega) dX3_add_85
        · skip
          have bd51 : (0 : Int) ≤ zi45.toInt ∧ zi45.toInt ≤ 262143 := r_le_y (Int32.not_lt.mp cn49) bc_0 bd46 (by decide) (by decide)
          refine lv_aload_n hx hb dX3_add_73 rfl (lv_at hl 1 rfl) ?_
          obtain ⟨zi53, eq52, bd54⟩ := rd_4006 ok31 kd39
          have nz55 := (pd34).sz kd39 eq52
          refine p_get (ci := 3) (v := .int zi53) (C := RX3) (T := TX3) (N := 7) hx hb hT iw_X3 hown hK hw hW kd39 (by decide) rfl rfl 6 (by decide) eq52 (hT _ tb_503) (fun _ h9 => h9) dX3_add_74 ?_
          refine lv_aload_n hx hb dX3_add_77 rfl (lv_at hl 1 rfl) ?_
          obtain ⟨qa57, eq56, kd58⟩ := rd_4000 ok31 kd39
          have ln59 := (pd34).ref kd39 (by decide) eq56
          refine p_get (ci := 3) (v := .ref qa57) (C := RX3) (T := TX3) (N := 7) hx hb hT iw_X3 hown hK hw hW kd39 (by decide) rfl rfl 0 (by decide) eq56 (hT _ tb_492) (fun _ h9 => h9) dX3_add_78 ?_
          obtain ⟨zi60, ez61⟩ : ∃ z : Int32, Int32.ofNat (ln qa57) = z := ⟨_, rfl⟩
          refine p_alen (v := zi60) hx hb hK hw hW kd58 (by decide) rfl rfl ez61 dX3_add_81 ?_
          have hl62 : zi60.toInt = (gn : Nat) := by have h9 := ofNat_len ez61 (by rw [ln59]; omega); rw [ln59] at h9; exact h9
          have bd63 : (256 : Int) ≤ zi60.toInt ∧ zi60.toInt ≤ 131072 := (by omega)
          refine lv_icmp_lt (tgt := 86) hx hb dX3_add_82 (by decide) (fun cn64 => ?_) (fun cn64 => ?_)
          · skip
            have tf65 : zi53.toInt < zi60.toInt := (fa_lt _ _).mp cn64
            have bd66 : (0 : Int) ≤ zi53.toInt ∧ zi53.toInt ≤ 131071 := r_lt_x cn64 bd54 bd63 (by decide) (by decide)
            refine lv_aload_n hx hb dX3_add_86 rfl (lv_at hl 1 rfl) ?_
            refine p_get (ci := 3) (v := .ref qa57) (C := RX3) (T := TX3) (N := 7) hx hb hT iw_X3 hown hK hw hW kd39 (by decide) rfl rfl 0 (by decide) eq56 (hT _ tb_492) (fun _ h9 => h9) dX3_add_87 ?_
            refine lv_aload_n hx hb dX3_add_90 rfl (lv_at hl 1 rfl) ?_
            refine p_get (ci := 3) (v := .int zi53) (C := RX3) (T := TX3) (N := 7) hx hb hT iw_X3 hown hK hw hW kd39 (by decide) rfl rfl 6 (by decide) eq52 (hT _ tb_503) (fun _ h9 => h9) dX3_add_91 ?_
            refine lv_aload_n hx hb dX3_add_94 rfl (lv_at hl 2 rfl) ?_
            refine kq_i hw hS hA (va_runS (As := [.ref qa901]) (rest := [.int zi53, .ref qa57]) ⟨hx, hb, hml, hown, hT⟩ (cX3_packed_0 l G cy ev K ln Ls hW _ hp30 ok31 qa901 kd40) (va_cwS 1 hT (good_S tb_1149 tb_1147 tb_1148 tb_117) rfl rfl rfl (by decide +kernel) ⟨Nat.le_of_ble_eq_true rfl, Nat.le_of_ble_eq_true rfl⟩) (PB2.preS hK hE hS hA hw) rfl rfl hl.1 rfl (lv_room (Nat.le_of_ble_eq_true rfl)) dX3_add_95 ⟨(show (gn - g0) + 0 ≤ 65536 from by omega), (show (14 * (gn - g0)) + 0 ≤ 917504 from by omega)⟩) (fun zi71 hp67 H locs hq70 hw hS => ?_)
            obtain ⟨ok68, F69, xq72⟩ := hq70
            obtain rfl : hp30 = hp67 := (Fr.nil F69).symm
            have hw : PW G cy K ln Ls A hp30 H := hw
            refine p_iast (x := zi71) hx hb hK hw hS hW kd58 (by decide) rfl ln59 (vp_bv (by omega) (by omega)) dX3_add_98 (fun hp73 eh74 H locs hw hS => ?_)
            have ok75 := wr_28000 ok31 kd58 eh74
            refine lv_aload_n hx hb dX3_add_99 rfl (lv_at hl 1 rfl) ?_
            obtain ⟨qa77, eq76, kd78⟩ := rd_4001 ok75 kd39
            have pd79 : NSx K ln hp73 gn := NSx_fr ok31  (show Fr [28000] K hp30 hp73 from (Fr.put (cq := 28000) (Fr.rf) eh74 kd58 (cd_a (by decide)) (by decide))) (by decide) pd34
            have ln80 := (pd79).ref kd39 (by decide) eq76
            refine p_get (ci := 3) (v := .ref qa77) (C := RX3) (T := TX3) (N := 7) hx hb hT iw_X3 hown hK hw hW kd39 (by decide) rfl rfl 1 (by decide) eq76 (hT _ tb_495) (fun _ h9 => h9) dX3_add_100 ?_
            refine lv_aload_n hx hb dX3_add_103 rfl (lv_at hl 1 rfl) ?_
            have eq81 : hp73 qa900 6 = .int zi53 := Eq.trans (up_at eh74 (Or.inl (kd_ne kd39 kd58 (by decide)))) eq52
            refine p_get (ci := 3) (v := .int zi53) (C := RX3) (T := TX3) (N := 7) hx hb hT iw_X3 hown hK hw hW kd39 (by decide) rfl rfl 6 (by decide) eq81 (hT _ tb_503) (fun _ h9 => h9) dX3_add_104 ?_
            refine lv_aload_n hx hb dX3_add_107 rfl (lv_at hl 2 rfl) ?_
            obtain ⟨zi83, eq82⟩ := rd_8000 ok75 kd40
            refine p_getN (ci := 7) (v := .int zi83) (C := RX7) (T := TX7) (N := 13) hx hb hT iw_X7 hown hK hw hW kd40 (by decide) rfl rfl 0 (by decide) eq82 (hK.fl nw_308) (fun _ h9 => h9) dX3_add_108 ?_
            refine p_iast (x := zi83) hx hb hK hw hS hW kd78 (by decide) rfl ln80 (vp_bv (by omega) (by omega)) dX3_add_111 (fun hp84 eh85 H locs hw hS => ?_)
            have ok86 := wr_29000 ok75 kd78 eh85
            refine lv_aload_n hx hb dX3_add_112 rfl (lv_at hl 1 rfl) ?_
            obtain ⟨qa88, eq87, kd89⟩ := rd_4002 ok86 kd39
            have pd90 : NSx K ln hp84 gn := NSx_fr ok75  (show Fr [29000] K hp73 hp84 from (Fr.put (cq := 29000) (Fr.rf) eh85 kd78 (cd_a (by decide)) (by decide))) (by decide) pd79
            have ln91 := (pd90).ref kd39 (by decide) eq87
            refine p_get (ci := 3) (v := .ref qa88) (C := RX3) (T := TX3) (N := 7) hx hb hT iw_X3 hown hK hw hW kd39 (by decide) rfl rfl 2 (by decide) eq87 (hT _ tb_497) (fun _ h9 => h9) dX3_add_113 ?_
            refine lv_aload_n hx hb dX3_add_116 rfl (lv_at hl 1 rfl) ?_
            have eq92 : hp84 qa900 6 = .int zi53 := Eq.trans (up_at eh85 (Or.inl (kd_ne kd39 kd78 (by decide)))) eq81
            refine p_get (ci := 3) (v := .int zi53) (C := RX3) (T := TX3) (N := 7) hx hb hT iw_X3 hown hK hw hW kd39 (by decide) rfl rfl 6 (by decide) eq92 (hT _ tb_503) (fun _ h9 => h9) dX3_add_117 ?_
            refine lv_aload_n hx hb dX3_add_120 rfl (lv_at hl 2 rfl) ?_
            obtain ⟨zi94, eq93⟩ := rd_8004 ok86 kd40
            refine p_getN (ci := 7) (v := .int zi94) (C := RX7) (T := TX7) (N := 13) hx hb hT iw_X7 hown hK hw hW kd40 (by decide) rfl rfl 4 (by decide) eq93 (hK.fl nw_323) (fun _ h9 => h9) dX3_add_121 ?_
            refine p_iast (x := zi94) hx hb hK hw hS hW kd89 (by decide) rfl ln91 (vp_bv (by omega) (by omega)) dX3_add_124 (fun hp95 eh96 H locs hw hS => ?_)
            have ok97 := wr_30000 ok86 kd89 eh96
            refine lv_aload_n hx hb dX3_add_125 rfl (lv_at hl 1 rfl) ?_
            obtain ⟨qa99, eq98, kd100⟩ := rd_4003 ok97 kd39
            have pd101 : NSx K ln hp95 gn := NSx_fr ok86  (show Fr [30000] K hp84 hp95 from (Fr.put (cq := 30000) (Fr.rf) eh96 kd89 (cd_a (by decide)) (by decide))) (by decide) pd90
            have ln102 := (pd101).ref kd39 (by decide) eq98
            refine p_get (ci := 3) (v := .ref qa99) (C := RX3) (T := TX3) (N := 7) hx hb hT iw_X3 hown hK hw hW kd39 (by decide) rfl rfl 3 (by decide) eq98 (hT _ tb_498) (fun _ h9 => h9) dX3_add_126 ?_
            refine lv_aload_n hx hb dX3_add_129 rfl (lv_at hl 1 rfl) ?_
            have eq103 : hp95 qa900 6 = .int zi53 := Eq.trans (up_at eh96 (Or.inl (kd_ne kd39 kd89 (by decide)))) eq92
            refine p_get (ci := 3) (v := .int zi53) (C := RX3) (T := TX3) (N := 7) hx hb hT iw_X3 hown hK hw hW kd39 (by decide) rfl rfl 6 (by decide) eq103 (hT _ tb_503) (fun _ h9 => h9) dX3_add_130 ?_
            refine lv_iload_n hx hb dX3_add_133 rfl (lv_at hl 3 rfl) ?_
            refine p_iast (x := zi902) hx hb hK hw hS hW kd100 (by decide) rfl ln102 (vp_bv (by omega) (by omega)) dX3_add_134 (fun hp104 eh105 H locs hw hS => ?_)
            have ok106 := wr_31000 ok97 kd100 eh105
            refine lv_aload_n hx hb dX3_add_135 rfl (lv_at hl 1 rfl) ?_
            obtain ⟨qa108, eq107, kd109⟩ := rd_4004 ok106 kd39
            have pd110 : NSx K ln hp104 gn := NSx_fr ok97  (show Fr [31000] K hp95 hp104 from (Fr.put (cq := 31000) (Fr.rf) eh105 kd100 (cd_a (by decide)) (by decide))) (by decide) pd101
            have ln111 := (pd110).ref kd39 (by decide) eq107
            refine p_get (ci := 3) (v := .ref qa108) (C := RX3) (T := TX3) (N := 7) hx hb hT iw_X3 hown hK hw hW kd39 (by decide) rfl rfl 4 (by decide) eq107 (hT _ tb_500) (fun _ h9 => h9) dX3_add_136 ?_
            refine lv_aload_n hx hb dX3_add_139 rfl (lv_at hl 1 rfl) ?_
            have eq112 : hp104 qa900 6 = .int zi53 := Eq.trans (up_at eh105 (Or.inl (kd_ne kd39 kd100 (by decide)))) eq103
            refine p_get (ci := 3) (v := .int zi53) (C := RX3) (T := TX3) (N := 7) hx hb hT iw_X3 hown hK hw hW kd39 (by decide) rfl rfl 6 (by decide) eq112 (hT _ tb_503) (fun _ h9 => h9) dX3_add_140 ?_
            refine lv_lload_n hx hb dX3_add_143 rfl (lv_at hl 4 rfl) ?_
            refine p_last (x := wl903) hx hb hK hw hS hW kd109 (by decide) rfl ln111 (vp_bv (by omega) (by omega)) dX3_add_144 (fun hp113 eh114 H locs hw hS => ?_)
            have ok115 := wr_32000 ok106 kd109 eh114
            refine lv_aload_n hx hb dX3_add_145 rfl (lv_at hl 1 rfl) ?_
            refine lv_dup hx hb dX3_add_146 rfl ?_
            have eq116 : hp113 qa900 6 = .int zi53 := Eq.trans (up_at eh114 (Or.inl (kd_ne kd39 kd109 (by decide)))) eq112
            refine p_get (ci := 3) (v := .int zi53) (C := RX3) (T := TX3) (N := 7) hx hb hT iw_X3 hown hK hw hW kd39 (by decide) rfl rfl 6 (by decide) eq116 (hT _ tb_503) (fun _ h9 => h9) dX3_add_147 ?_
            refine lv_iconst (v := 1) hx hb dX3_add_150 (by decide) ?_
            refine lv_iadd hx hb dX3_add_151 (lv_topi (fun zi117 ea118 => ?_))
            have bd119 : (1 : Int) ≤ zi117.toInt ∧ zi117.toInt ≤ 131072 := b_iadd ea118 bd66 bc_1 (by decide) (by decide) (by decide) (by decide)
            have qe120 : zi117.toInt = (zi53 : Int32).toInt + (1 : Int32).toInt := e_iadd ea118 bd66 bc_1 (by decide) (by decide)
            have qe121 : zi117.toInt = zi53.toInt + 1 := by have ha : (1 : Int32).toInt = 1 := (by decide); rw [ha] at qe120; exact qe120
            have pd122 : NSx K ln hp113 gn := NSx_fr ok106  (show Fr [32000] K hp104 hp113 from (Fr.put (cq := 32000) (Fr.rf) eh114 kd109 (cd_a (by decide)) (by decide))) (by decide) pd110
            refine p_put (ci := 3) (v := .int zi117) (ty := .int) (C := RX3) (T := TX3) (N := 7) hx hb hT iw_X3 tyX3 tyX3_ok nmX3 hown hK hw hS hW kd39 (by decide) rfl rfl 6 (by decide) (hT _ tb_503) (fun _ h9 => h9) rfl (by decide +kernel) rfl rfl dX3_add_152 (fun hp123 eh124 H locs hw hS => ?_)
            have ok125 := wr_4006 bd119 (by decide) (by decide) ok115 kd39 eh124
            have ns126 : NSx K ln hp123 gn := NSx_size pd122 eh124 kd39 (by omega) ok115
            refine lv_aload_n hx hb dX3_add_155 rfl (lv_at hl 1 rfl) ?_
            obtain ⟨qa128, eq127, kd129⟩ := rd_4005 ok125 kd39
            have ln130 := (ns126).tab kd39 eq127
            refine p_get (ci := 3) (v := .ref qa128) (C := RX3) (T := TX3) (N := 7) hx hb hT iw_X3 hown hK hw hW kd39 (by decide) rfl rfl 5 (by decide) eq127 (hT _ tb_502) (fun _ h9 => h9) dX3_add_156 ?_
            refine lv_iload hx hb dX3_add_159 (lv_at hl 0 rfl) ?_
            refine lv_aload_n hx hb dX3_add_161 rfl (lv_at hl 1 rfl) ?_
            refine p_get (ci := 3) (v := .int zi117) (C := RX3) (T := TX3) (N := 7) hx hb hT iw_X3 hown hK hw hW kd39 (by decide) rfl rfl 6 (by decide) (hp_self eh124) (hT _ tb_503) (fun _ h9 => h9) dX3_add_162 ?_
            refine p_iast (x := zi117) hx hb hK hw hS hW kd129 (by decide) rfl ln130 (vp_bv (by omega) (by omega)) dX3_add_165 (fun hp131 eh132 H locs hw hS => ?_)
            have ok133 := wr_33000 bd119 (by decide) (by decide) ok125 kd129 eh132
            have ns134 : NSx K ln hp131 gn := NSx_tab ns126 kd129 eh132 (by omega)
            rw [hQ]
            exact kgz_v (n := g0) hx hb hr hlocks hS (((K, ln, Ls, hp131), gn) : GU × Nat) hw ⟨gex, hW, ok133, (FrX.tr gfx gex (FrX.of (show Fr [4006, 28000, 29000, 30000, 31000, 32000, 33000] K hp30 hp131 from (Fr.put (cq := 33000) (Fr.put (cq := 4006) (Fr.put (cq := 32000) (Fr.put (cq := 31000) (Fr.put (cq := 30000) (Fr.put (cq := 29000) (Fr.put (cq := 28000) (Fr.rf) eh74 kd58 (cd_a (by decide)) (by decide)) eh85 kd78 (cd_a (by decide)) (by decide)) eh96 kd89 (cd_a (by decide)) (by decide)) eh105 kd100 (cd_a (by decide)) (by decide)) eh114 kd109 (cd_a (by decide)) (by decide)) eh124 kd39 (cd_o (by decide)) (by decide)) eh132 kd129 (cd_a (by decide)) (by decide)))) (by decide +kernel)), ns134, (by omega)⟩ (show (gn - g0) ≤ gn - g0 from by omega) (show (14 * (gn - g0)) ≤ 14 * (gn - g0) from by omega) (show (gn - g0) ≤ 65536 from by omega) (show (14 * (gn - g0)) ≤ 917504 from by omega) dX3_add_166
          · skip
            have tf135 : zi60.toInt ≤ zi53.toInt := (fa_le _ _).mp (Int32.not_lt.mp cn64)
            have bd136 : (256 : Int) ≤ zi53.toInt ∧ zi53.toInt ≤ 131072 := r_le_y (Int32.not_lt.mp cn64) bd63 bd54 (by decide) (by decide)
            rw [hQ]
            exact kgz_v (n := g0) hx hb hr hlocks hS (((K, ln, Ls, hp30), gn) : GU × Nat) hw ⟨gex, hW, ok31, gfx, pd34, (by omega)⟩ (show (gn - g0) ≤ gn - g0 from by omega) (show (14 * (gn - g0)) ≤ 14 * (gn - g0) from by omega) (show (gn - g0) ≤ 65536 from by omega) (show (14 * (gn - g0)) ≤ 917504 from by omega) dX3_add_85
      · skip
        refine kq_v hw hS hA (va_runV (As := []) (rest := []) ⟨hx, hb, hml, hown, hT⟩ (cX3_grow_vGM_0 l G cy ev K ln Ls hW _ hp0 ok1 qa900 gn kd900 pdNS (by omega)) (cwV 0 hT (good_V tb_1159 tb_1156 tb_1158 tb_34 tb_117) rfl rfl rfl (by decide +kernel) ⟨Nat.le_of_ble_eq_true rfl, Nat.le_of_ble_eq_true rfl⟩) (pool_preV (ci := 3) hK hE hS hA hw hW kd900 (by decide) rfl) rfl rfl hl.1 rfl (lv_room (Nat.le_of_ble_eq_true rfl)) dX3_add_56 ⟨(show 0 + 0 ≤ 65536 from by omega), (show 0 + 0 ≤ 917504 from by omega)⟩) (fun hp137 H locs hq140 hw hS => ?_)
        obtain ⟨ok138, F139⟩ := hq140
        obtain rfl : hp0 = hp137 := (Fr.nil F139).symm
        have hw : PW G cy K ln Ls A hp0 H := hw
        refine lv_aload_n hx hb dX3_add_59 rfl (lv_at hl 1 rfl) ?_
        refine lv_aload_n hx hb dX3_add_60 rfl (lv_at hl 2 rfl) ?_
        refine lv_iload hx hb dX3_add_61 (lv_at hl 5 rfl) ?_
        refine kq_i hw hS hA (va_runV (As := [.ref qa901, .int zi904]) (rest := []) ⟨hx, hb, hml, hown, hT⟩ (cX3_slotOf_0 l G cy ev K ln Ls hW _ hp0 ok1 qa900 qa901 zi904 gn kd900 kd901 pdNS) (cwV 2 hT (good_V tb_1146 tb_1143 tb_1145 tb_33 tb_117) rfl rfl rfl (by decide +kernel) ⟨Nat.le_of_ble_eq_true rfl, Nat.le_of_ble_eq_true rfl⟩) (pool_preV (ci := 3) hK hE hS hA hw hW kd900 (by decide) rfl) rfl rfl hl.1 rfl (lv_room (Nat.le_of_ble_eq_true rfl)) dX3_add_63 ⟨(show 0 + 0 ≤ 65536 from by omega), (show 0 + 0 ≤ 917504 from by omega)⟩) (fun zi146 hp142 H locs hq145 hw hS => ?_)
        obtain ⟨ok143, F144, bd147, xq148, xq149⟩ := hq145
        obtain rfl : hp0 = hp142 := (Fr.nil F144).symm
        have hw : PW G cy K ln Ls A hp0 H := hw
        refine lv_istore (lv' := [(6, .int zi146), (0, .ref qa900), (1, .ref qa901), (2, .int zi902), (3, .long wl903), (5, .int zi904)]) hx hb dX3_add_66 hl (by decide) rfl (fun ls hl => ?_)
        refine lv_iload hx hb dX3_add_68 (lv_at hl 0 rfl) ?_
        refine lv_if_lt (tgt := 85) hx hb dX3_add_70 (by decide) (fun cn150 => ?_) (fun cn150 => ?_)
        · skip
          have bd151 : (-1 : Int) ≤ zi146.toInt ∧ zi146.toInt ≤ -1 := r_lt_x cn150 bd147 bc_0 (by decide) (by decide)
          rw [hQ]
          exact kgz_v (n := g0) hx hb hr hlocks hS (((K, ln, Ls, hp0), gn) : GU × Nat) hw ⟨gex, hW, ok1, gfx, pdNS, (by omega)⟩ (show 0 ≤ gn - g0 from by omega) (show 0 ≤ 14 * (gn - g0) from by omega) (show 0 ≤ 65536 from by omega) (show 0 ≤ 917504 from by omega) dX3_add_85
        · skip
          have bd152 : (0 : Int) ≤ zi146.toInt ∧ zi146.toInt ≤ 262143 := r_le_y (Int32.not_lt.mp cn150) bc_0 bd147 (by decide) (by decide)
          refine lv_aload_n hx hb dX3_add_73 rfl (lv_at hl 1 rfl) ?_
          refine p_get (ci := 3) (v := .int zi2) (C := RX3) (T := TX3) (N := 7) hx hb hT iw_X3 hown hK hw hW kd900 (by decide) rfl rfl 6 (by decide) eq1 (hT _ tb_503) (fun _ h9 => h9) dX3_add_74 ?_
          refine lv_aload_n hx hb dX3_add_77 rfl (lv_at hl 1 rfl) ?_
          refine p_get (ci := 3) (v := .ref qa16) (C := RX3) (T := TX3) (N := 7) hx hb hT iw_X3 hown hK hw hW kd900 (by decide) rfl rfl 0 (by decide) eq15 (hT _ tb_492) (fun _ h9 => h9) dX3_add_78 ?_
          obtain ⟨zi153, ez154⟩ : ∃ z : Int32, Int32.ofNat (ln qa16) = z := ⟨_, rfl⟩
          refine p_alen (v := zi153) hx hb hK hw hW kd17 (by decide) rfl rfl ez154 dX3_add_81 ?_
          have hl155 : zi153.toInt = (gn : Nat) := by have h9 := ofNat_len ez154 (by rw [ln18]; omega); rw [ln18] at h9; exact h9
          have bd156 : (256 : Int) ≤ zi153.toInt ∧ zi153.toInt ≤ 131072 := (by omega)
          refine lv_icmp_lt (tgt := 86) hx hb dX3_add_82 (by decide) (fun cn157 => ?_) (fun cn157 => ?_)
          · skip
            have tf158 : zi2.toInt < zi153.toInt := (fa_lt _ _).mp cn157
            have bd159 : (256 : Int) ≤ zi2.toInt ∧ zi2.toInt ≤ 131071 := r_lt_x cn157 bd27 bd156 (by decide) (by decide)
            have bd160 : (257 : Int) ≤ zi153.toInt ∧ zi153.toInt ≤ 131072 := r_lt_y cn157 bd27 bd156 (by decide) (by decide)
            refine lv_aload_n hx hb dX3_add_86 rfl (lv_at hl 1 rfl) ?_
            refine p_get (ci := 3) (v := .ref qa16) (C := RX3) (T := TX3) (N := 7) hx hb hT iw_X3 hown hK hw hW kd900 (by decide) rfl rfl 0 (by decide) eq15 (hT _ tb_492) (fun _ h9 => h9) dX3_add_87 ?_
            refine lv_aload_n hx hb dX3_add_90 rfl (lv_at hl 1 rfl) ?_
            refine p_get (ci := 3) (v := .int zi2) (C := RX3) (T := TX3) (N := 7) hx hb hT iw_X3 hown hK hw hW kd900 (by decide) rfl rfl 6 (by decide) eq1 (hT _ tb_503) (fun _ h9 => h9) dX3_add_91 ?_
            refine lv_aload_n hx hb dX3_add_94 rfl (lv_at hl 2 rfl) ?_
            refine kq_i hw hS hA (va_runS (As := [.ref qa901]) (rest := [.int zi2, .ref qa16]) ⟨hx, hb, hml, hown, hT⟩ (cX3_packed_0 l G cy ev K ln Ls hW _ hp0 ok1 qa901 kd901) (va_cwS 1 hT (good_S tb_1149 tb_1147 tb_1148 tb_117) rfl rfl rfl (by decide +kernel) ⟨Nat.le_of_ble_eq_true rfl, Nat.le_of_ble_eq_true rfl⟩) (PB2.preS hK hE hS hA hw) rfl rfl hl.1 rfl (lv_room (Nat.le_of_ble_eq_true rfl)) dX3_add_95 ⟨(show 0 + 0 ≤ 65536 from by omega), (show 0 + 0 ≤ 917504 from by omega)⟩) (fun zi165 hp161 H locs hq164 hw hS => ?_)
            obtain ⟨ok162, F163, xq166⟩ := hq164
            obtain rfl : hp0 = hp161 := (Fr.nil F163).symm
            have hw : PW G cy K ln Ls A hp0 H := hw
            refine p_iast (x := zi165) hx hb hK hw hS hW kd17 (by decide) rfl ln18 (vp_bv (by omega) (by omega)) dX3_add_98 (fun hp167 eh168 H locs hw hS => ?_)
            have ok169 := wr_28000 ok1 kd17 eh168
            refine lv_aload_n hx hb dX3_add_99 rfl (lv_at hl 1 rfl) ?_
            obtain ⟨qa171, eq170, kd172⟩ := rd_4001 ok169 kd900
            have pd173 : NSx K ln hp167 gn := NSx_fr ok1  (show Fr [28000] K hp0 hp167 from (Fr.put (cq := 28000) (Fr.rf) eh168 kd17 (cd_a (by decide)) (by decide))) (by decide) pdNS
            have ln174 := (pd173).ref kd900 (by decide) eq170
            refine p_get (ci := 3) (v := .ref qa171) (C := RX3) (T := TX3) (N := 7) hx hb hT iw_X3 hown hK hw hW kd900 (by decide) rfl rfl 1 (by decide) eq170 (hT _ tb_495) (fun _ h9 => h9) dX3_add_100 ?_
            refine lv_aload_n hx hb dX3_add_103 rfl (lv_at hl 1 rfl) ?_
            have eq175 : hp167 qa900 6 = .int zi2 := Eq.trans (up_at eh168 (Or.inl (kd_ne kd900 kd17 (by decide)))) eq1
            refine p_get (ci := 3) (v := .int zi2) (C := RX3) (T := TX3) (N := 7) hx hb hT iw_X3 hown hK hw hW kd900 (by decide) rfl rfl 6 (by decide) eq175 (hT _ tb_503) (fun _ h9 => h9) dX3_add_104 ?_
            refine lv_aload_n hx hb dX3_add_107 rfl (lv_at hl 2 rfl) ?_
            obtain ⟨zi177, eq176⟩ := rd_8000 ok169 kd901
            refine p_getN (ci := 7) (v := .int zi177) (C := RX7) (T := TX7) (N := 13) hx hb hT iw_X7 hown hK hw hW kd901 (by decide) rfl rfl 0 (by decide) eq176 (hK.fl nw_308) (fun _ h9 => h9) dX3_add_108 ?_
            refine p_iast (x := zi177) hx hb hK hw hS hW kd172 (by decide) rfl ln174 (vp_bv (by omega) (by omega)) dX3_add_111 (fun hp178 eh179 H locs hw hS => ?_)
            have ok180 := wr_29000 ok169 kd172 eh179
            refine lv_aload_n hx hb dX3_add_112 rfl (lv_at hl 1 rfl) ?_
            obtain ⟨qa182, eq181, kd183⟩ := rd_4002 ok180 kd900
            have pd184 : NSx K ln hp178 gn := NSx_fr ok169  (show Fr [29000] K hp167 hp178 from (Fr.put (cq := 29000) (Fr.rf) eh179 kd172 (cd_a (by decide)) (by decide))) (by decide) pd173
            have ln185 := (pd184).ref kd900 (by decide) eq181
            refine p_get (ci := 3) (v := .ref qa182) (C := RX3) (T := TX3) (N := 7) hx hb hT iw_X3 hown hK hw hW kd900 (by decide) rfl rfl 2 (by decide) eq181 (hT _ tb_497) (fun _ h9 => h9) dX3_add_113 ?_
            refine lv_aload_n hx hb dX3_add_116 rfl (lv_at hl 1 rfl) ?_
            have eq186 : hp178 qa900 6 = .int zi2 := Eq.trans (up_at eh179 (Or.inl (kd_ne kd900 kd172 (by decide)))) eq175
            refine p_get (ci := 3) (v := .int zi2) (C := RX3) (T := TX3) (N := 7) hx hb hT iw_X3 hown hK hw hW kd900 (by decide) rfl rfl 6 (by decide) eq186 (hT _ tb_503) (fun _ h9 => h9) dX3_add_117 ?_
            refine lv_aload_n hx hb dX3_add_120 rfl (lv_at hl 2 rfl) ?_
            obtain ⟨zi188, eq187⟩ := rd_8004 ok180 kd901
            refine p_getN (ci := 7) (v := .int zi188) (C := RX7) (T := TX7) (N := 13) hx hb hT iw_X7 hown hK hw hW kd901 (by decide) rfl rfl 4 (by decide) eq187 (hK.fl nw_323) (fun _ h9 => h9) dX3_add_121 ?_
            refine p_iast (x := zi188) hx hb hK hw hS hW kd183 (by decide) rfl ln185 (vp_bv (by omega) (by omega)) dX3_add_124 (fun hp189 eh190 H locs hw hS => ?_)
            have ok191 := wr_30000 ok180 kd183 eh190
            refine lv_aload_n hx hb dX3_add_125 rfl (lv_at hl 1 rfl) ?_
            obtain ⟨qa193, eq192, kd194⟩ := rd_4003 ok191 kd900
            have pd195 : NSx K ln hp189 gn := NSx_fr ok180  (show Fr [30000] K hp178 hp189 from (Fr.put (cq := 30000) (Fr.rf) eh190 kd183 (cd_a (by decide)) (by decide))) (by decide) pd184
            have ln196 := (pd195).ref kd900 (by decide) eq192
            refine p_get (ci := 3) (v := .ref qa193) (C := RX3) (T := TX3) (N := 7) hx hb hT iw_X3 hown hK hw hW kd900 (by decide) rfl rfl 3 (by decide) eq192 (hT _ tb_498) (fun _ h9 => h9) dX3_add_126 ?_
            refine lv_aload_n hx hb dX3_add_129 rfl (lv_at hl 1 rfl) ?_
            have eq197 : hp189 qa900 6 = .int zi2 := Eq.trans (up_at eh190 (Or.inl (kd_ne kd900 kd183 (by decide)))) eq186
            refine p_get (ci := 3) (v := .int zi2) (C := RX3) (T := TX3) (N := 7) hx hb hT iw_X3 hown hK hw hW kd900 (by decide) rfl rfl 6 (by decide) eq197 (hT _ tb_503) (fun _ h9 => h9) dX3_add_130 ?_
            refine lv_iload_n hx hb dX3_add_133 rfl (lv_at hl 3 rfl) ?_
            refine p_iast (x := zi902) hx hb hK hw hS hW kd194 (by decide) rfl ln196 (vp_bv (by omega) (by omega)) dX3_add_134 (fun hp198 eh199 H locs hw hS => ?_)
            have ok200 := wr_31000 ok191 kd194 eh199
            refine lv_aload_n hx hb dX3_add_135 rfl (lv_at hl 1 rfl) ?_
            obtain ⟨qa202, eq201, kd203⟩ := rd_4004 ok200 kd900
            have pd204 : NSx K ln hp198 gn := NSx_fr ok191  (show Fr [31000] K hp189 hp198 from (Fr.put (cq := 31000) (Fr.rf) eh199 kd194 (cd_a (by decide)) (by decide))) (by decide) pd195
            have ln205 := (pd204).ref kd900 (by decide) eq201
            refine p_get (ci := 3) (v := .ref qa202) (C := RX3) (T := TX3) (N := 7) hx hb hT iw_X3 hown hK hw hW kd900 (by decide) rfl rfl 4 (by decide) eq201 (hT _ tb_500) (fun _ h9 => h9) dX3_add_136 ?_
            refine lv_aload_n hx hb dX3_add_139 rfl (lv_at hl 1 rfl) ?_
            have eq206 : hp198 qa900 6 = .int zi2 := Eq.trans (up_at eh199 (Or.inl (kd_ne kd900 kd194 (by decide)))) eq197
            refine p_get (ci := 3) (v := .int zi2) (C := RX3) (T := TX3) (N := 7) hx hb hT iw_X3 hown hK hw hW kd900 (by decide) rfl rfl 6 (by decide) eq206 (hT _ tb_503) (fun _ h9 => h9) dX3_add_140 ?_
            refine lv_lload_n hx hb dX3_add_143 rfl (lv_at hl 4 rfl) ?_
            refine p_last (x := wl903) hx hb hK hw hS hW kd203 (by decide) rfl ln205 (vp_bv (by omega) (by omega)) dX3_add_144 (fun hp207 eh208 H locs hw hS => ?_)
            have ok209 := wr_32000 ok200 kd203 eh208
            refine lv_aload_n hx hb dX3_add_145 rfl (lv_at hl 1 rfl) ?_
            refine lv_dup hx hb dX3_add_146 rfl ?_
            have eq210 : hp207 qa900 6 = .int zi2 := Eq.trans (up_at eh208 (Or.inl (kd_ne kd900 kd203 (by decide)))) eq206
            refine p_get (ci := 3) (v := .int zi2) (C := RX3) (T := TX3) (N := 7) hx hb hT iw_X3 hown hK hw hW kd900 (by decide) rfl rfl 6 (by decide) eq210 (hT _ tb_503) (fun _ h9 => h9) dX3_add_147 ?_
            refine lv_iconst (v := 1) hx hb dX3_add_150 (by decide) ?_
            refine lv_iadd hx hb dX3_add_151 (lv_topi (fun zi211 ea212 => ?_))
            have bd213 : (257 : Int) ≤ zi211.toInt ∧ zi211.toInt ≤ 131072 := b_iadd ea212 bd159 bc_1 (by decide) (by decide) (by decide) (by decide)
            have qe214 : zi211.toInt = (zi2 : Int32).toInt + (1 : Int32).toInt := e_iadd ea212 bd159 bc_1 (by decide) (by decide)
            have qe215 : zi211.toInt = zi2.toInt + 1 := by have ha : (1 : Int32).toInt = 1 := (by decide); rw [ha] at qe214; exact qe214
            have pd216 : NSx K ln hp207 gn := NSx_fr ok200  (show Fr [32000] K hp198 hp207 from (Fr.put (cq := 32000) (Fr.rf) eh208 kd203 (cd_a (by decide)) (by decide))) (by decide) pd204
            refine p_put (ci := 3) (v := .int zi211) (ty := .int) (C := RX3) (T := TX3) (N := 7) hx hb hT iw_X3 tyX3 tyX3_ok nmX3 hown hK hw hS hW kd900 (by decide) rfl rfl 6 (by decide) (hT _ tb_503) (fun _ h9 => h9) rfl (by decide +kernel) rfl rfl dX3_add_152 (fun hp217 eh218 H locs hw hS => ?_)
            have ok219 := wr_4006 bd213 (by decide) (by decide) ok209 kd900 eh218
            have ns220 : NSx K ln hp217 gn := NSx_size pd216 eh218 kd900 (by omega) ok209
            refine lv_aload_n hx hb dX3_add_155 rfl (lv_at hl 1 rfl) ?_
            obtain ⟨qa222, eq221, kd223⟩ := rd_4005 ok219 kd900
            have ln224 := (ns220).tab kd900 eq221
            refine p_get (ci := 3) (v := .ref qa222) (C := RX3) (T := TX3) (N := 7) hx hb hT iw_X3 hown hK hw hW kd900 (by decide) rfl rfl 5 (by decide) eq221 (hT _ tb_502) (fun _ h9 => h9) dX3_add_156 ?_
            refine lv_iload hx hb dX3_add_159 (lv_at hl 0 rfl) ?_
            refine lv_aload_n hx hb dX3_add_161 rfl (lv_at hl 1 rfl) ?_
            refine p_get (ci := 3) (v := .int zi211) (C := RX3) (T := TX3) (N := 7) hx hb hT iw_X3 hown hK hw hW kd900 (by decide) rfl rfl 6 (by decide) (hp_self eh218) (hT _ tb_503) (fun _ h9 => h9) dX3_add_162 ?_
            refine p_iast (x := zi211) hx hb hK hw hS hW kd223 (by decide) rfl ln224 (vp_bv (by omega) (by omega)) dX3_add_165 (fun hp225 eh226 H locs hw hS => ?_)
            have ok227 := wr_33000 bd213 (by decide) (by decide) ok219 kd223 eh226
            have ns228 : NSx K ln hp225 gn := NSx_tab ns220 kd223 eh226 (by omega)
            rw [hQ]
            exact kgz_v (n := g0) hx hb hr hlocks hS (((K, ln, Ls, hp225), gn) : GU × Nat) hw ⟨gex, hW, ok227, (FrX.tr gfx gex (FrX.of (show Fr [4006, 28000, 29000, 30000, 31000, 32000, 33000] K hp0 hp225 from (Fr.put (cq := 33000) (Fr.put (cq := 4006) (Fr.put (cq := 32000) (Fr.put (cq := 31000) (Fr.put (cq := 30000) (Fr.put (cq := 29000) (Fr.put (cq := 28000) (Fr.rf) eh168 kd17 (cd_a (by decide)) (by decide)) eh179 kd172 (cd_a (by decide)) (by decide)) eh190 kd183 (cd_a (by decide)) (by decide)) eh199 kd194 (cd_a (by decide)) (by decide)) eh208 kd203 (cd_a (by decide)) (by decide)) eh218 kd900 (cd_o (by decide)) (by decide)) eh226 kd223 (cd_a (by decide)) (by decide)))) (by decide +kernel)), ns228, (by omega)⟩ (show 0 ≤ gn - g0 from by omega) (show 0 ≤ 14 * (gn - g0) from by omega) (show 0 ≤ 65536 from by omega) (show 0 ≤ 917504 from by omega) dX3_add_166
          · skip
            have tf229 : zi153.toInt ≤ zi2.toInt := (fa_le _ _).mp (Int32.not_lt.mp cn157)
            rw [hQ]
            exact kgz_v (n := g0) hx hb hr hlocks hS (((K, ln, Ls, hp0), gn) : GU × Nat) hw ⟨gex, hW, ok1, gfx, pdNS, (by omega)⟩ (show 0 ≤ gn - g0 from by omega) (show 0 ≤ 14 * (gn - g0) from by omega) (show 0 ≤ 65536 from by omega) (show 0 ≤ 917504 from by omega) dX3_add_85
  · skip
    have bd230 : (0 : Int) ≤ zi9.toInt ∧ zi9.toInt ≤ 262143 := r_le_y (Int32.not_lt.mp cn13) bc_0 bd10 (by decide) (by decide)
    refine lv_aload_n hx hb dX3_add_14 rfl (lv_at hl 1 rfl) ?_
    obtain ⟨qa232, eq231, kd233⟩ := rd_4005 ok1 kd900
    have ln234 := (pdNS).tab kd900 eq231
    refine p_get (ci := 3) (v := .ref qa232) (C := RX3) (T := TX3) (N := 7) hx hb hT iw_X3 hown hK hw hW kd900 (by decide) rfl rfl 5 (by decide) eq231 (hT _ tb_502) (fun _ h9 => h9) dX3_add_15 ?_
    refine lv_iload hx hb dX3_add_18 (lv_at hl 0 rfl) ?_
    obtain ⟨zi236, eq235, bd237⟩ := rd_33000 ok1 kd233 ((zi9 : Int32).toNatClampNeg)
    have nz238 := (pdNS).elt kd900 eq231 (vp_bv (by omega) (by omega)) eq235
    refine p_iald (v := zi236) hx hb hK hw hW kd233 (by decide) rfl ln234 (vp_bv (by omega) (by omega)) eq235 dX3_add_20 ?_
    refine lv_if_le (tgt := 43) hx hb dX3_add_21 (by decide) (fun cn239 => ?_) (fun cn239 => ?_)
    · skip
      have bd240 : (0 : Int) ≤ zi236.toInt ∧ zi236.toInt ≤ 0 := r_le_x cn239 bd237 bc_0 (by decide) (by decide)
      refine lv_aload_n hx hb dX3_add_43 rfl (lv_at hl 1 rfl) ?_
      refine p_get (ci := 3) (v := .int zi2) (C := RX3) (T := TX3) (N := 7) hx hb hT iw_X3 hown hK hw hW kd900 (by decide) rfl rfl 6 (by decide) eq1 (hT _ tb_503) (fun _ h9 => h9) dX3_add_44 ?_
      refine lv_aload_n hx hb dX3_add_47 rfl (lv_at hl 1 rfl) ?_
      obtain ⟨qa242, eq241, kd243⟩ := rd_4000 ok1 kd900
      have ln244 := (pdNS).ref kd900 (by decide) eq241
      refine p_get (ci := 3) (v := .ref qa242) (C := RX3) (T := TX3) (N := 7) hx hb hT iw_X3 hown hK hw hW kd900 (by decide) rfl rfl 0 (by decide) eq241 (hT _ tb_492) (fun _ h9 => h9) dX3_add_48 ?_
      obtain ⟨zi245, ez246⟩ : ∃ z : Int32, Int32.ofNat (ln qa242) = z := ⟨_, rfl⟩
      refine p_alen (v := zi245) hx hb hK hw hW kd243 (by decide) rfl rfl ez246 dX3_add_51 ?_
      have hl247 : zi245.toInt = (gn : Nat) := by have h9 := ofNat_len ez246 (by rw [ln244]; omega); rw [ln244] at h9; exact h9
      have bd248 : (256 : Int) ≤ zi245.toInt ∧ zi245.toInt ≤ 131072 := (by omega)
      refine lv_icmp_lt (tgt := 68) hx hb dX3_add_52 (by decide) (fun cn249 => ?_) (fun cn249 => ?_)
      · skip
        have tf250 : zi2.toInt < zi245.toInt := (fa_lt _ _).mp cn249
        have bd251 : (0 : Int) ≤ zi2.toInt ∧ zi2.toInt ≤ 131071 := r_lt_x cn249 bd3 bd248 (by decide) (by decide)
        refine lv_iload hx hb dX3_add_68 (lv_at hl 0 rfl) ?_
        refine lv_if_lt (tgt := 85) hx hb dX3_add_70 (by decide) (fun c => absurd c (d_nlt bd230 bc_0 (by decide))) (fun _ => ?_)
        refine lv_aload_n hx hb dX3_add_73 rfl (lv_at hl 1 rfl) ?_
        refine p_get (ci := 3) (v := .int zi2) (C := RX3) (T := TX3) (N := 7) hx hb hT iw_X3 hown hK hw hW kd900 (by decide) rfl rfl 6 (by decide) eq1 (hT _ tb_503) (fun _ h9 => h9) dX3_add_74 ?_
        refine lv_aload_n hx hb dX3_add_77 rfl (lv_at hl 1 rfl) ?_
        refine p_get (ci := 3) (v := .ref qa242) (C := RX3) (T := TX3) (N := 7) hx hb hT iw_X3 hown hK hw hW kd900 (by decide) rfl rfl 0 (by decide) eq241 (hT _ tb_492) (fun _ h9 => h9) dX3_add_78 ?_
        obtain ⟨zi252, ez253⟩ : ∃ z : Int32, Int32.ofNat (ln qa242) = z := ⟨_, rfl⟩
        refine p_alen (v := zi252) hx hb hK hw hW kd243 (by decide) rfl rfl ez253 dX3_add_81 ?_
        have hl254 : zi252.toInt = (gn : Nat) := by have h9 := ofNat_len ez253 (by rw [ln244]; omega); rw [ln244] at h9; exact h9
        have bd255 : (256 : Int) ≤ zi252.toInt ∧ zi252.toInt ≤ 131072 := (by omega)
        refine lv_icmp_lt (tgt := 86) hx hb dX3_add_82 (by decide) (fun cn256 => ?_) (fun cn256 => ?_)
        · skip
          have tf257 : zi2.toInt < zi252.toInt := (fa_lt _ _).mp cn256
          refine lv_aload_n hx hb dX3_add_86 rfl (lv_at hl 1 rfl) ?_
          refine p_get (ci := 3) (v := .ref qa242) (C := RX3) (T := TX3) (N := 7) hx hb hT iw_X3 hown hK hw hW kd900 (by decide) rfl rfl 0 (by decide) eq241 (hT _ tb_492) (fun _ h9 => h9) dX3_add_87 ?_
          refine lv_aload_n hx hb dX3_add_90 rfl (lv_at hl 1 rfl) ?_
          refine p_get (ci := 3) (v := .int zi2) (C := RX3) (T := TX3) (N := 7) hx hb hT iw_X3 hown hK hw hW kd900 (by decide) rfl rfl 6 (by decide) eq1 (hT _ tb_503) (fun _ h9 => h9) dX3_add_91 ?_
          refine lv_aload_n hx hb dX3_add_94 rfl (lv_at hl 2 rfl) ?_
          refine kq_i hw hS hA (va_runS (As := [.ref qa901]) (rest := [.int zi2, .ref qa242]) ⟨hx, hb, hml, hown, hT⟩ (cX3_packed_0 l G cy ev K ln Ls hW _ hp0 ok1 qa901 kd901) (va_cwS 1 hT (good_S tb_1149 tb_1147 tb_1148 tb_117) rfl rfl rfl (by decide +kernel) ⟨Nat.le_of_ble_eq_true rfl, Nat.le_of_ble_eq_true rfl⟩) (PB2.preS hK hE hS hA hw) rfl rfl hl.1 rfl (lv_room (Nat.le_of_ble_eq_true rfl)) dX3_add_95 ⟨(show 0 + 0 ≤ 65536 from by omega), (show 0 + 0 ≤ 917504 from by omega)⟩) (fun zi262 hp258 H locs hq261 hw hS => ?_)
          obtain ⟨ok259, F260, xq263⟩ := hq261
          obtain rfl : hp0 = hp258 := (Fr.nil F260).symm
          have hw : PW G cy K ln Ls A hp0 H := hw
          refine p_iast (x := zi262) hx hb hK hw hS hW kd243 (by decide) rfl ln244 (vp_bv (by omega) (by omega)) dX3_add_98 (fun hp264 eh265 H locs hw hS => ?_)
          have ok266 := wr_28000 ok1 kd243 eh265
          refine lv_aload_n hx hb dX3_add_99 rfl (lv_at hl 1 rfl) ?_
          obtain ⟨qa268, eq267, kd269⟩ := rd_4001 ok266 kd900
          have pd270 : NSx K ln hp264 gn := NSx_fr ok1  (show Fr [28000] K hp0 hp264 from (Fr.put (cq := 28000) (Fr.rf) eh265 kd243 (cd_a (by decide)) (by decide))) (by decide) pdNS
          have ln271 := (pd270).ref kd900 (by decide) eq267
          refine p_get (ci := 3) (v := .ref qa268) (C := RX3) (T := TX3) (N := 7) hx hb hT iw_X3 hown hK hw hW kd900 (by decide) rfl rfl 1 (by decide) eq267 (hT _ tb_495) (fun _ h9 => h9) dX3_add_100 ?_
          refine lv_aload_n hx hb dX3_add_103 rfl (lv_at hl 1 rfl) ?_
          have eq272 : hp264 qa900 6 = .int zi2 := Eq.trans (up_at eh265 (Or.inl (kd_ne kd900 kd243 (by decide)))) eq1
          refine p_get (ci := 3) (v := .int zi2) (C := RX3) (T := TX3) (N := 7) hx hb hT iw_X3 hown hK hw hW kd900 (by decide) rfl rfl 6 (by decide) eq272 (hT _ tb_503) (fun _ h9 => h9) dX3_add_104 ?_
          refine lv_aload_n hx hb dX3_add_107 rfl (lv_at hl 2 rfl) ?_
          obtain ⟨zi274, eq273⟩ := rd_8000 ok266 kd901
          refine p_getN (ci := 7) (v := .int zi274) (C := RX7) (T := TX7) (N := 13) hx hb hT iw_X7 hown hK hw hW kd901 (by decide) rfl rfl 0 (by decide) eq273 (hK.fl nw_308) (fun _ h9 => h9) dX3_add_108 ?_
          refine p_iast (x := zi274) hx hb hK hw hS hW kd269 (by decide) rfl ln271 (vp_bv (by omega) (by omega)) dX3_add_111 (fun hp275 eh276 H locs hw hS => ?_)
          have ok277 := wr_29000 ok266 kd269 eh276
          refine lv_aload_n hx hb dX3_add_112 rfl (lv_at hl 1 rfl) ?_
          obtain ⟨qa279, eq278, kd280⟩ := rd_4002 ok277 kd900
          have pd281 : NSx K ln hp275 gn := NSx_fr ok266  (show Fr [29000] K hp264 hp275 from (Fr.put (cq := 29000) (Fr.rf) eh276 kd269 (cd_a (by decide)) (by decide))) (by decide) pd270
          have ln282 := (pd281).ref kd900 (by decide) eq278
          refine p_get (ci := 3) (v := .ref qa279) (C := RX3) (T := TX3) (N := 7) hx hb hT iw_X3 hown hK hw hW kd900 (by decide) rfl rfl 2 (by decide) eq278 (hT _ tb_497) (fun _ h9 => h9) dX3_add_113 ?_
          refine lv_aload_n hx hb dX3_add_116 rfl (lv_at hl 1 rfl) ?_
          have eq283 : hp275 qa900 6 = .int zi2 := Eq.trans (up_at eh276 (Or.inl (kd_ne kd900 kd269 (by decide)))) eq272
          refine p_get (ci := 3) (v := .int zi2) (C := RX3) (T := TX3) (N := 7) hx hb hT iw_X3 hown hK hw hW kd900 (by decide) rfl rfl 6 (by decide) eq283 (hT _ tb_503) (fun _ h9 => h9) dX3_add_117 ?_
          refine lv_aload_n hx hb dX3_add_120 rfl (lv_at hl 2 rfl) ?_
          obtain ⟨zi285, eq284⟩ := rd_8004 ok277 kd901
          refine p_getN (ci := 7) (v := .int zi285) (C := RX7) (T := TX7) (N := 13) hx hb hT iw_X7 hown hK hw hW kd901 (by decide) rfl rfl 4 (by decide) eq284 (hK.fl nw_323) (fun _ h9 => h9) dX3_add_121 ?_
          refine p_iast (x := zi285) hx hb hK hw hS hW kd280 (by decide) rfl ln282 (vp_bv (by omega) (by omega)) dX3_add_124 (fun hp286 eh287 H locs hw hS => ?_)
          have ok288 := wr_30000 ok277 kd280 eh287
          refine lv_aload_n hx hb dX3_add_125 rfl (lv_at hl 1 rfl) ?_
          obtain ⟨qa290, eq289, kd291⟩ := rd_4003 ok288 kd900
          have pd292 : NSx K ln hp286 gn := NSx_fr ok277  (show Fr [30000] K hp275 hp286 from (Fr.put (cq := 30000) (Fr.rf) eh287 kd280 (cd_a (by decide)) (by decide))) (by decide) pd281
          have ln293 := (pd292).ref kd900 (by decide) eq289
          refine p_get (ci := 3) (v := .ref qa290) (C := RX3) (T := TX3) (N := 7) hx hb hT iw_X3 hown hK hw hW kd900 (by decide) rfl rfl 3 (by decide) eq289 (hT _ tb_498) (fun _ h9 => h9) dX3_add_126 ?_
          refine lv_aload_n hx hb dX3_add_129 rfl (lv_at hl 1 rfl) ?_
          have eq294 : hp286 qa900 6 = .int zi2 := Eq.trans (up_at eh287 (Or.inl (kd_ne kd900 kd280 (by decide)))) eq283
          refine p_get (ci := 3) (v := .int zi2) (C := RX3) (T := TX3) (N := 7) hx hb hT iw_X3 hown hK hw hW kd900 (by decide) rfl rfl 6 (by decide) eq294 (hT _ tb_503) (fun _ h9 => h9) dX3_add_130 ?_
          refine lv_iload_n hx hb dX3_add_133 rfl (lv_at hl 3 rfl) ?_
          refine p_iast (x := zi902) hx hb hK hw hS hW kd291 (by decide) rfl ln293 (vp_bv (by omega) (by omega)) dX3_add_134 (fun hp295 eh296 H locs hw hS => ?_)
          have ok297 := wr_31000 ok288 kd291 eh296
          refine lv_aload_n hx hb dX3_add_135 rfl (lv_at hl 1 rfl) ?_
          obtain ⟨qa299, eq298, kd300⟩ := rd_4004 ok297 kd900
          have pd301 : NSx K ln hp295 gn := NSx_fr ok288  (show Fr [31000] K hp286 hp295 from (Fr.put (cq := 31000) (Fr.rf) eh296 kd291 (cd_a (by decide)) (by decide))) (by decide) pd292
          have ln302 := (pd301).ref kd900 (by decide) eq298
          refine p_get (ci := 3) (v := .ref qa299) (C := RX3) (T := TX3) (N := 7) hx hb hT iw_X3 hown hK hw hW kd900 (by decide) rfl rfl 4 (by decide) eq298 (hT _ tb_500) (fun _ h9 => h9) dX3_add_136 ?_
          refine lv_aload_n hx hb dX3_add_139 rfl (lv_at hl 1 rfl) ?_
          have eq303 : hp295 qa900 6 = .int zi2 := Eq.trans (up_at eh296 (Or.inl (kd_ne kd900 kd291 (by decide)))) eq294
          refine p_get (ci := 3) (v := .int zi2) (C := RX3) (T := TX3) (N := 7) hx hb hT iw_X3 hown hK hw hW kd900 (by decide) rfl rfl 6 (by decide) eq303 (hT _ tb_503) (fun _ h9 => h9) dX3_add_140 ?_
          refine lv_lload_n hx hb dX3_add_143 rfl (lv_at hl 4 rfl) ?_
          refine p_last (x := wl903) hx hb hK hw hS hW kd300 (by decide) rfl ln302 (vp_bv (by omega) (by omega)) dX3_add_144 (fun hp304 eh305 H locs hw hS => ?_)
          have ok306 := wr_32000 ok297 kd300 eh305
          refine lv_aload_n hx hb dX3_add_145 rfl (lv_at hl 1 rfl) ?_
          refine lv_dup hx hb dX3_add_146 rfl ?_
          have eq307 : hp304 qa900 6 = .int zi2 := Eq.trans (up_at eh305 (Or.inl (kd_ne kd900 kd300 (by decide)))) eq303
          refine p_get (ci := 3) (v := .int zi2) (C := RX3) (T := TX3) (N := 7) hx hb hT iw_X3 hown hK hw hW kd900 (by decide) rfl rfl 6 (by decide) eq307 (hT _ tb_503) (fun _ h9 => h9) dX3_add_147 ?_
          refine lv_iconst (v := 1) hx hb dX3_add_150 (by decide) ?_
          refine lv_iadd hx hb dX3_add_151 (lv_topi (fun zi308 ea309 => ?_))
          have bd310 : (1 : Int) ≤ zi308.toInt ∧ zi308.toInt ≤ 131072 := b_iadd ea309 bd251 bc_1 (by decide) (by decide) (by decide) (by decide)
          have qe311 : zi308.toInt = (zi2 : Int32).toInt + (1 : Int32).toInt := e_iadd ea309 bd251 bc_1 (by decide) (by decide)
          have qe312 : zi308.toInt = zi2.toInt + 1 := by have ha : (1 : Int32).toInt = 1 := (by decide); rw [ha] at qe311; exact qe311
          have pd313 : NSx K ln hp304 gn := NSx_fr ok297  (show Fr [32000] K hp295 hp304 from (Fr.put (cq := 32000) (Fr.rf) eh305 kd300 (cd_a (by decide)) (by decide))) (by decide) pd301
          refine p_put (ci := 3) (v := .int zi308) (ty := .int) (C := RX3) (T := TX3) (N := 7) hx hb hT iw_X3 tyX3 tyX3_ok nmX3 hown hK hw hS hW kd900 (by decide) rfl rfl 6 (by decide) (hT _ tb_503) (fun _ h9 => h9) rfl (by decide +kernel) rfl rfl dX3_add_152 (fun hp314 eh315 H locs hw hS => ?_)
          have ok316 := wr_4006 bd310 (by decide) (by decide) ok306 kd900 eh315
          have ns317 : NSx K ln hp314 gn := NSx_size pd313 eh315 kd900 (by omega) ok306
          refine lv_aload_n hx hb dX3_add_155 rfl (lv_at hl 1 rfl) ?_
          have eq318 : hp314 qa900 5 = .ref qa232 := Eq.trans (up_at eh315 (Or.inr (by decide))) (Eq.trans (up_at eh305 (Or.inl (kd_ne kd900 kd300 (by decide)))) (Eq.trans (up_at eh296 (Or.inl (kd_ne kd900 kd291 (by decide)))) (Eq.trans (up_at eh287 (Or.inl (kd_ne kd900 kd280 (by decide)))) (Eq.trans (up_at eh276 (Or.inl (kd_ne kd900 kd269 (by decide)))) (Eq.trans (up_at eh265 (Or.inl (kd_ne kd900 kd243 (by decide)))) eq231)))))
          refine p_get (ci := 3) (v := .ref qa232) (C := RX3) (T := TX3) (N := 7) hx hb hT iw_X3 hown hK hw hW kd900 (by decide) rfl rfl 5 (by decide) eq318 (hT _ tb_502) (fun _ h9 => h9) dX3_add_156 ?_
          refine lv_iload hx hb dX3_add_159 (lv_at hl 0 rfl) ?_
          refine lv_aload_n hx hb dX3_add_161 rfl (lv_at hl 1 rfl) ?_
          refine p_get (ci := 3) (v := .int zi308) (C := RX3) (T := TX3) (N := 7) hx hb hT iw_X3 hown hK hw hW kd900 (by decide) rfl rfl 6 (by decide) (hp_self eh315) (hT _ tb_503) (fun _ h9 => h9) dX3_add_162 ?_
          refine p_iast (x := zi308) hx hb hK hw hS hW kd233 (by decide) rfl ln234 (vp_bv (by omega) (by omega)) dX3_add_165 (fun hp319 eh320 H locs hw hS => ?_)
          have ok321 := wr_33000 bd310 (by decide) (by decide) ok316 kd233 eh320
          have ns322 : NSx K ln hp319 gn := NSx_tab ns317 kd233 eh320 (by omega)
          rw [hQ]
          exact kgz_v (n := g0) hx hb hr hlocks hS (((K, ln, Ls, hp319), gn) : GU × Nat) hw ⟨gex, hW, ok321, (FrX.tr gfx gex (FrX.of (show Fr [4006, 28000, 29000, 30000, 31000, 32000, 33000] K hp0 hp319 from (Fr.put (cq := 33000) (Fr.put (cq := 4006) (Fr.put (cq := 32000) (Fr.put (cq := 31000) (Fr.put (cq := 30000) (Fr.put (cq := 29000) (Fr.put (cq := 28000) (Fr.rf) eh265 kd243 (cd_a (by decide)) (by decide)) eh276 kd269 (cd_a (by decide)) (by decide)) eh287 kd280 (cd_a (by decide)) (by decide)) eh296 kd291 (cd_a (by decide)) (by decide)) eh305 kd300 (cd_a (by decide)) (by decide)) eh315 kd900 (cd_o (by decide)) (by decide)) eh320 kd233 (cd_a (by decide)) (by decide)))) (by decide +kernel)), ns322, (by omega)⟩ (show 0 ≤ gn - g0 from by omega) (show 0 ≤ 14 * (gn - g0) from by omega) (show 0 ≤ 65536 from by omega) (show 0 ≤ 917504 from by omega) dX3_add_166
        · skip
          have tf323 : zi252.toInt ≤ zi2.toInt := (fa_le _ _).mp (Int32.not_lt.mp cn256)
          have bd324 : (256 : Int) ≤ zi252.toInt ∧ zi252.toInt ≤ 131071 := r_le_x (Int32.not_lt.mp cn256) bd255 bd251 (by decide) (by decide)
          have bd325 : (256 : Int) ≤ zi2.toInt ∧ zi2.toInt ≤ 131071 := r_le_y (Int32.not_lt.mp cn256) bd255 bd251 (by decide) (by decide)
          rw [hQ]
          exact kgz_v (n := g0) hx hb hr hlocks hS (((K, ln, Ls, hp0), gn) : GU × Nat) hw ⟨gex, hW, ok1, gfx, pdNS, (by omega)⟩ (show 0 ≤ gn - g0 from by omega) (show 0 ≤ 14 * (gn - g0) from by omega) (show 0 ≤ 65536 from by omega) (show 0 ≤ 917504 from by omega) dX3_add_85
      · skip
        have tf326 : zi245.toInt ≤ zi2.toInt := (fa_le _ _).mp (Int32.not_lt.mp cn249)
        have bd327 : (256 : Int) ≤ zi2.toInt ∧ zi2.toInt ≤ 131072 := r_le_y (Int32.not_lt.mp cn249) bd248 bd3 (by decide) (by decide)
        refine lv_aload_n hx hb dX3_add_55 rfl (lv_at hl 1 rfl) ?_
        by_cases hq328 : 2 * gn ≤ 131072
        · skip
          have gf336 : FrX wsC K0 hp0 hp0 := gfx
          refine kg_v hw hS hA (va_runV (As := []) (rest := []) ⟨hx, hb, hml, hown, hT⟩ (Met.szx (cX3_grow_vGG_0 l G cy ev K ln Ls hW _ hp0 ok1 qa900 gn kd900 pdNS (by omega))) (cwV 0 hT (good_V tb_1159 tb_1156 tb_1158 tb_34 tb_117) rfl rfl rfl (by decide +kernel) ⟨Nat.le_of_ble_eq_true rfl, Nat.le_of_ble_eq_true rfl⟩) (pool_preV (ci := 3) hK hE hS hA hw hW kd900 (by decide) rfl) rfl rfl hl.1 rfl (lv_room (Nat.le_of_ble_eq_true rfl)) dX3_add_56 ⟨(show 0 + 65536 ≤ 65536 from by omega), (show 0 + 917504 ≤ 917504 from by omega)⟩) (fun u gn H locs hq329 hw hS => ?_)
          obtain ⟨K, ln, Ls, hp330⟩ := u
          obtain ⟨⟨ex332, hW, ok331, fx333, pd334, hle335⟩, gp338⟩ := hq329
          have gp338 : gn = _ := gp338
          have ex332 : EXx _ _ K ln := ex332
          have hW : SW K ln Ls := hW
          have ok331 : Ok K hp330 := ok331
          have fx333 : FrX _ _ _ hp330 := fx333
          have pd334 : NSx K ln hp330 gn := pd334
          have hle335 : _ ≤ gn := hle335
          have hw : PW G cy K ln Ls A hp330 H := hw
          have gfx : FrX wsC K0 hp0 hp330 := FrX.tr gf336 gex fx333 (by decide +kernel)
          have gex := EXx.tr gex ex332
          have kd339 := EXx.kd ex332 kd900 (by decide)
          have kd340 := EXx.kd ex332 kd901 (by decide)
          (try clear kd900); (try clear kd901); (try clear kd233); (try clear kd243); (try clear ln234); (try clear ln244)
          have hgn := NSx.bd pd334
          refine W.widen (k := gn - g0) (n := 14 * (gn - g0)) (by omega) (by omega) ?_
          have hga : g0 ≤ gn := by omega
          refine lv_aload_n hx hb dX3_add_59 rfl (lv_at hl 1 rfl) ?_
          refine lv_aload_n hx hb dX3_add_60 rfl (lv_at hl 2 rfl) ?_
          refine lv_iload hx hb dX3_add_61 (lv_at hl 5 rfl) ?_
          refine kq_i hw hS hA (va_runV (As := [.ref qa901, .int zi904]) (rest := []) ⟨hx, hb, hml, hown, hT⟩ (cX3_slotOf_0 l G cy ev K ln Ls hW _ hp330 ok331 qa900 qa901 zi904 gn kd339 kd340 pd334) (cwV 2 hT (good_V tb_1146 tb_1143 tb_1145 tb_33 tb_117) rfl rfl rfl (by decide +kernel) ⟨Nat.le_of_ble_eq_true rfl, Nat.le_of_ble_eq_true rfl⟩) (pool_preV (ci := 3) hK hE hS hA hw hW kd339 (by decide) rfl) rfl rfl hl.1 rfl (lv_room (Nat.le_of_ble_eq_true rfl)) dX3_add_63 ⟨(show (gn - g0) + 0 ≤ 65536 from by omega), (show (14 * (gn - g0)) + 0 ≤ 917504 from by omega)⟩) (fun zi345 hp341 H locs hq344 hw hS => ?_)
          obtain ⟨ok342, F343, bd346, xq347, xq348⟩ := hq344
          obtain rfl : hp330 = hp341 := (Fr.nil F343).symm
          have hw : PW G cy K ln Ls A hp330 H := hw
          refine lv_istore (lv' := [(6, .int zi345), (0, .ref qa900), (1, .ref qa901), (2, .int zi902), (3, .long wl903), (5, .int zi904)]) hx hb dX3_add_66 hl (by decide) rfl (fun ls hl => ?_)
          refine lv_iload hx hb dX3_add_68 (lv_at hl 0 rfl) ?_
          refine lv_if_lt (tgt := 85) hx hb dX3_add_70 (by decide) (fun cn349 => ?_) (fun cn349 => ?_)
          · skip
            have bd350 : (-1 : Int) ≤ zi345.toInt ∧ zi345.toInt ≤ -1 := r_lt_x cn349 bd346 bc_0 (by decide) (by decide)
            rw [hQ]
            exact kgz_v (n := g0) hx hb hr hlocks hS (((K, ln, Ls, hp330), gn) : GU × Nat) hw ⟨gex, hW, ok331, gfx, pd334, (by omega)⟩ (show (gn - g0) ≤ gn - g0 from by omega) (show (14 * (gn - g0)) ≤ 14 * (gn - g0) from by omega) (show (gn - g0) ≤ 65536 from by omega) (show (14 * (gn - g0)) ≤ 917504 from by omega) dX3_add_85
          · skip
            have bd351 : (0 : Int) ≤ zi345.toInt ∧ zi345.toInt ≤ 262143 := r_le_y (Int32.not_lt.mp cn349) bc_0 bd346 (by decide) (by decide)
            refine lv_aload_n hx hb dX3_add_73 rfl (lv_at hl 1 rfl) ?_
            obtain ⟨zi353, eq352, bd354⟩ := rd_4006 ok331 kd339
            have nz355 := (pd334).sz kd339 eq352
            refine p_get (ci := 3) (v := .int zi353) (C := RX3) (T := TX3) (N := 7) hx hb hT iw_X3 hown hK hw hW kd339 (by decide) rfl rfl 6 (by decide) eq352 (hT _ tb_503) (fun _ h9 => h9) dX3_add_74 ?_
            refine lv_aload_n hx hb dX3_add_77 rfl (lv_at hl 1 rfl) ?_
            obtain ⟨qa357, eq356, kd358⟩ := rd_4000 ok331 kd339
            have ln359 := (pd334).ref kd339 (by decide) eq356
            refine p_get (ci := 3) (v := .ref qa357) (C := RX3) (T := TX3) (N := 7) hx hb hT iw_X3 hown hK hw hW kd339 (by decide) rfl rfl 0 (by decide) eq356 (hT _ tb_492) (fun _ h9 => h9) dX3_add_78 ?_
            obtain ⟨zi360, ez361⟩ : ∃ z : Int32, Int32.ofNat (ln qa357) = z := ⟨_, rfl⟩
            refine p_alen (v := zi360) hx hb hK hw hW kd358 (by decide) rfl rfl ez361 dX3_add_81 ?_
            have hl362 : zi360.toInt = (gn : Nat) := by have h9 := ofNat_len ez361 (by rw [ln359]; omega); rw [ln359] at h9; exact h9
            have bd363 : (256 : Int) ≤ zi360.toInt ∧ zi360.toInt ≤ 131072 := (by omega)
            refine lv_icmp_lt (tgt := 86) hx hb dX3_add_82 (by decide) (fun cn364 => ?_) (fun cn364 => ?_)
            · skip
              have tf365 : zi353.toInt < zi360.toInt := (fa_lt _ _).mp cn364
              have bd366 : (0 : Int) ≤ zi353.toInt ∧ zi353.toInt ≤ 131071 := r_lt_x cn364 bd354 bd363 (by decide) (by decide)
              refine lv_aload_n hx hb dX3_add_86 rfl (lv_at hl 1 rfl) ?_
              refine p_get (ci := 3) (v := .ref qa357) (C := RX3) (T := TX3) (N := 7) hx hb hT iw_X3 hown hK hw hW kd339 (by decide) rfl rfl 0 (by decide) eq356 (hT _ tb_492) (fun _ h9 => h9) dX3_add_87 ?_
              refine lv_aload_n hx hb dX3_add_90 rfl (lv_at hl 1 rfl) ?_
              refine p_get (ci := 3) (v := .int zi353) (C := RX3) (T := TX3) (N := 7) hx hb hT iw_X3 hown hK hw hW kd339 (by decide) rfl rfl 6 (by decide) eq352 (hT _ tb_503) (fun _ h9 => h9) dX3_add_91 ?_
              refine lv_aload_n hx hb dX3_add_94 rfl (lv_at hl 2 rfl) ?_
              refine kq_i hw hS hA (va_runS (As := [.ref qa901]) (rest := [.int zi353, .ref qa357]) ⟨hx, hb, hml, hown, hT⟩ (cX3_packed_0 l G cy ev K ln Ls hW _ hp330 ok331 qa901 kd340) (va_cwS 1 hT (good_S tb_1149 tb_1147 tb_1148 tb_117) rfl rfl rfl (by decide +kernel) ⟨Nat.le_of_ble_eq_true rfl, Nat.le_of_ble_eq_true rfl⟩) (PB2.preS hK hE hS hA hw) rfl rfl hl.1 rfl (lv_room (Nat.le_of_ble_eq_true rfl)) dX3_add_95 ⟨(show (gn - g0) + 0 ≤ 65536 from by omega), (show (14 * (gn - g0)) + 0 ≤ 917504 from by omega)⟩) (fun zi371 hp367 H locs hq370 hw hS => ?_)
              obtain ⟨ok368, F369, xq372⟩ := hq370
              obtain rfl : hp330 = hp367 := (Fr.nil F369).symm
              have hw : PW G cy K ln Ls A hp330 H := hw
              refine p_iast (x := zi371) hx hb hK hw hS hW kd358 (by decide) rfl ln359 (vp_bv (by omega) (by omega)) dX3_add_98 (fun hp373 eh374 H locs hw hS => ?_)
              have ok375 := wr_28000 ok331 kd358 eh374
              refine lv_aload_n hx hb dX3_add_99 rfl (lv_at hl 1 rfl) ?_
              obtain ⟨qa377, eq376, kd378⟩ := rd_4001 ok375 kd339
              have pd379 : NSx K ln hp373 gn := NSx_fr ok331  (show Fr [28000] K hp330 hp373 from (Fr.put (cq := 28000) (Fr.rf) eh374 kd358 (cd_a (by decide)) (by decide))) (by decide) pd334
              have ln380 := (pd379).ref kd339 (by decide) eq376
              refine p_get (ci := 3) (v := .ref qa377) (C := RX3) (T := TX3) (N := 7) hx hb hT iw_X3 hown hK hw hW kd339 (by decide) rfl rfl 1 (by decide) eq376 (hT _ tb_495) (fun _ h9 => h9) dX3_add_100 ?_
              refine lv_aload_n hx hb dX3_add_103 rfl (lv_at hl 1 rfl) ?_
              have eq381 : hp373 qa900 6 = .int zi353 := Eq.trans (up_at eh374 (Or.inl (kd_ne kd339 kd358 (by decide)))) eq352
              refine p_get (ci := 3) (v := .int zi353) (C := RX3) (T := TX3) (N := 7) hx hb hT iw_X3 hown hK hw hW kd339 (by decide) rfl rfl 6 (by decide) eq381 (hT _ tb_503) (fun _ h9 => h9) dX3_add_104 ?_
              refine lv_aload_n hx hb dX3_add_107 rfl (lv_at hl 2 rfl) ?_
              obtain ⟨zi383, eq382⟩ := rd_8000 ok375 kd340
              refine p_getN (ci := 7) (v := .int zi383) (C := RX7) (T := TX7) (N := 13) hx hb hT iw_X7 hown hK hw hW kd340 (by decide) rfl rfl 0 (by decide) eq382 (hK.fl nw_308) (fun _ h9 => h9) dX3_add_108 ?_
              refine p_iast (x := zi383) hx hb hK hw hS hW kd378 (by decide) rfl ln380 (vp_bv (by omega) (by omega)) dX3_add_111 (fun hp384 eh385 H locs hw hS => ?_)
              have ok386 := wr_29000 ok375 kd378 eh385
              refine lv_aload_n hx hb dX3_add_112 rfl (lv_at hl 1 rfl) ?_
              obtain ⟨qa388, eq387, kd389⟩ := rd_4002 ok386 kd339
              have pd390 : NSx K ln hp384 gn := NSx_fr ok375  (show Fr [29000] K hp373 hp384 from (Fr.put (cq := 29000) (Fr.rf) eh385 kd378 (cd_a (by decide)) (by decide))) (by decide) pd379
              have ln391 := (pd390).ref kd339 (by decide) eq387
              refine p_get (ci := 3) (v := .ref qa388) (C := RX3) (T := TX3) (N := 7) hx hb hT iw_X3 hown hK hw hW kd339 (by decide) rfl rfl 2 (by decide) eq387 (hT _ tb_497) (fun _ h9 => h9) dX3_add_113 ?_
              refine lv_aload_n hx hb dX3_add_116 rfl (lv_at hl 1 rfl) ?_
              have eq392 : hp384 qa900 6 = .int zi353 := Eq.trans (up_at eh385 (Or.inl (kd_ne kd339 kd378 (by decide)))) eq381
              refine p_get (ci := 3) (v := .int zi353) (C := RX3) (T := TX3) (N := 7) hx hb hT iw_X3 hown hK hw hW kd339 (by decide) rfl rfl 6 (by decide) eq392 (hT _ tb_503) (fun _ h9 => h9) dX3_add_117 ?_
              refine lv_aload_n hx hb dX3_add_120 rfl (lv_at hl 2 rfl) ?_
              obtain ⟨zi394, eq393⟩ := rd_8004 ok386 kd340
              refine p_getN (ci := 7) (v := .int zi394) (C := RX7) (T := TX7) (N := 13) hx hb hT iw_X7 hown hK hw hW kd340 (by decide) rfl rfl 4 (by decide) eq393 (hK.fl nw_323) (fun _ h9 => h9) dX3_add_121 ?_
              refine p_iast (x := zi394) hx hb hK hw hS hW kd389 (by decide) rfl ln391 (vp_bv (by omega) (by omega)) dX3_add_124 (fun hp395 eh396 H locs hw hS => ?_)
              have ok397 := wr_30000 ok386 kd389 eh396
              refine lv_aload_n hx hb dX3_add_125 rfl (lv_at hl 1 rfl) ?_
              obtain ⟨qa399, eq398, kd400⟩ := rd_4003 ok397 kd339
              have pd401 : NSx K ln hp395 gn := NSx_fr ok386  (show Fr [30000] K hp384 hp395 from (Fr.put (cq := 30000) (Fr.rf) eh396 kd389 (cd_a (by decide)) (by decide))) (by decide) pd390
              have ln402 := (pd401).ref kd339 (by decide) eq398
              refine p_get (ci := 3) (v := .ref qa399) (C := RX3) (T := TX3) (N := 7) hx hb hT iw_X3 hown hK hw hW kd339 (by decide) rfl rfl 3 (by decide) eq398 (hT _ tb_498) (fun _ h9 => h9) dX3_add_126 ?_
              refine lv_aload_n hx hb dX3_add_129 rfl (lv_at hl 1 rfl) ?_
              have eq403 : hp395 qa900 6 = .int zi353 := Eq.trans (up_at eh396 (Or.inl (kd_ne kd339 kd389 (by decide)))) eq392
              refine p_get (ci := 3) (v := .int zi353) (C := RX3) (T := TX3) (N := 7) hx hb hT iw_X3 hown hK hw hW kd339 (by decide) rfl rfl 6 (by decide) eq403 (hT _ tb_503) (fun _ h9 => h9) dX3_add_130 ?_
              refine lv_iload_n hx hb dX3_add_133 rfl (lv_at hl 3 rfl) ?_
              refine p_iast (x := zi902) hx hb hK hw hS hW kd400 (by decide) rfl ln402 (vp_bv (by omega) (by omega)) dX3_add_134 (fun hp404 eh405 H locs hw hS => ?_)
              have ok406 := wr_31000 ok397 kd400 eh405
              refine lv_aload_n hx hb dX3_add_135 rfl (lv_at hl 1 rfl) ?_
              obtain ⟨qa408, eq407, kd409⟩ := rd_4004 ok406 kd339
              have pd410 : NSx K ln hp404 gn := NSx_fr ok397  (show Fr [31000] K hp395 hp404 from (Fr.put (cq := 31000) (Fr.rf) eh405 kd400 (cd_a (by decide)) (by decide))) (by decide) pd401
              have ln411 := (pd410).ref kd339 (by decide) eq407
              refine p_get (ci := 3) (v := .ref qa408) (C := RX3) (T := TX3) (N := 7) hx hb hT iw_X3 hown hK hw hW kd339 (by decide) rfl rfl 4 (by decide) eq407 (hT _ tb_500) (fun _ h9 => h9) dX3_add_136 ?_
              refine lv_aload_n hx hb dX3_add_139 rfl (lv_at hl 1 rfl) ?_
              have eq412 : hp404 qa900 6 = .int zi353 := Eq.trans (up_at eh405 (Or.inl (kd_ne kd339 kd400 (by decide)))) eq403
              refine p_get (ci := 3) (v := .int zi353) (C := RX3) (T := TX3) (N := 7) hx hb hT iw_X3 hown hK hw hW kd339 (by decide) rfl rfl 6 (by decide) eq412 (hT _ tb_503) (fun _ h9 => h9) dX3_add_140 ?_
              refine lv_lload_n hx hb dX3_add_143 rfl (lv_at hl 4 rfl) ?_
              refine p_last (x := wl903) hx hb hK hw hS hW kd409 (by decide) rfl ln411 (vp_bv (by omega) (by omega)) dX3_add_144 (fun hp413 eh414 H locs hw hS => ?_)
              have ok415 := wr_32000 ok406 kd409 eh414
              refine lv_aload_n hx hb dX3_add_145 rfl (lv_at hl 1 rfl) ?_
              refine lv_dup hx hb dX3_add_146 rfl ?_
              have eq416 : hp413 qa900 6 = .int zi353 := Eq.trans (up_at eh414 (Or.inl (kd_ne kd339 kd409 (by decide)))) eq412
              refine p_get (ci := 3) (v := .int zi353) (C := RX3) (T := TX3) (N := 7) hx hb hT iw_X3 hown hK hw hW kd339 (by decide) rfl rfl 6 (by decide) eq416 (hT _ tb_503) (fun _ h9 => h9) dX3_add_147 ?_
              refine lv_iconst (v := 1) hx hb dX3_add_150 (by decide) ?_
              refine lv_iadd hx hb dX3_add_151 (lv_topi (fun zi417 ea418 => ?_))
              have bd419 : (1 : Int) ≤ zi417.toInt ∧ zi417.toInt ≤ 131072 := b_iadd ea418 bd366 bc_1 (by decide) (by decide) (by decide) (by decide)
              have qe420 : zi417.toInt = (zi353 : Int32).toInt + (1 : Int32).toInt := e_iadd ea418 bd366 bc_1 (by decide) (by decide)
              have qe421 : zi417.toInt = zi353.toInt + 1 := by have ha : (1 : Int32).toInt = 1 := (by decide); rw [ha] at qe420; exact qe420
              have pd422 : NSx K ln hp413 gn := NSx_fr ok406  (show Fr [32000] K hp404 hp413 from (Fr.put (cq := 32000) (Fr.rf) eh414 kd409 (cd_a (by decide)) (by decide))) (by decide) pd410
              refine p_put (ci := 3) (v := .int zi417) (ty := .int) (C := RX3) (T := TX3) (N := 7) hx hb hT iw_X3 tyX3 tyX3_ok nmX3 hown hK hw hS hW kd339 (by decide) rfl rfl 6 (by decide) (hT _ tb_503) (fun _ h9 => h9) rfl (by decide +kernel) rfl rfl dX3_add_152 (fun hp423 eh424 H locs hw hS => ?_)
              have ok425 := wr_4006 bd419 (by decide) (by decide) ok415 kd339 eh424
              have ns426 : NSx K ln hp423 gn := NSx_size pd422 eh424 kd339 (by omega) ok415
              refine lv_aload_n hx hb dX3_add_155 rfl (lv_at hl 1 rfl) ?_
              obtain ⟨qa428, eq427, kd429⟩ := rd_4005 ok425 kd339
              have ln430 := (ns426).tab kd339 eq427
              refine p_get (ci := 3) (v := .ref qa428) (C := RX3) (T := TX3) (N := 7) hx hb hT iw_X3 hown hK hw hW kd339 (by decide) rfl rfl 5 (by decide) eq427 (hT _ tb_502) (fun _ h9 => h9) dX3_add_156 ?_
              refine lv_iload hx hb dX3_add_159 (lv_at hl 0 rfl) ?_
              refine lv_aload_n hx hb dX3_add_161 rfl (lv_at hl 1 rfl) ?_
              refine p_get (ci := 3) (v := .int zi417) (C := RX3) (T := TX3) (N := 7) hx hb hT iw_X3 hown hK hw hW kd339 (by decide) rfl rfl 6 (by decide) (hp_self eh424) (hT _ tb_503) (fun _ h9 => h9) dX3_add_162 ?_
              refine p_iast (x := zi417) hx hb hK hw hS hW kd429 (by decide) rfl ln430 (vp_bv (by omega) (by omega)) dX3_add_165 (fun hp431 eh432 H locs hw hS => ?_)
              have ok433 := wr_33000 bd419 (by decide) (by decide) ok425 kd429 eh432
              have ns434 : NSx K ln hp431 gn := NSx_tab ns426 kd429 eh432 (by omega)
              rw [hQ]
              exact kgz_v (n := g0) hx hb hr hlocks hS (((K, ln, Ls, hp431), gn) : GU × Nat) hw ⟨gex, hW, ok433, (FrX.tr gfx gex (FrX.of (show Fr [4006, 28000, 29000, 30000, 31000, 32000, 33000] K hp330 hp431 from (Fr.put (cq := 33000) (Fr.put (cq := 4006) (Fr.put (cq := 32000) (Fr.put (cq := 31000) (Fr.put (cq := 30000) (Fr.put (cq := 29000) (Fr.put (cq := 28000) (Fr.rf) eh374 kd358 (cd_a (by decide)) (by decide)) eh385 kd378 (cd_a (by decide)) (by decide)) eh396 kd389 (cd_a (by decide)) (by decide)) eh405 kd400 (cd_a (by decide)) (by decide)) eh414 kd409 (cd_a (by decide)) (by decide)) eh424 kd339 (cd_o (by decide)) (by decide)) eh432 kd429 (cd_a (by decide)) (by decide)))) (by decide +kernel)), ns434, (by omega)⟩ (show (gn - g0) ≤ gn - g0 from by omega) (show (14 * (gn - g0)) ≤ 14 * (gn - g0) from by omega) (show (gn - g0) ≤ 65536 from by omega) (show (14 * (gn - g0)) ≤ 917504 from by omega) dX3_add_166
            · skip
              have tf435 : zi360.toInt ≤ zi353.toInt := (fa_le _ _).mp (Int32.not_lt.mp cn364)
              have bd436 : (256 : Int) ≤ zi353.toInt ∧ zi353.toInt ≤ 131072 := r_le_y (Int32.not_lt.mp cn364) bd363 bd354 (by decide) (by decide)
              rw [hQ]
              exact kgz_v (n := g0) hx hb hr hlocks hS (((K, ln, Ls, hp330), gn) : GU × Nat) hw ⟨gex, hW, ok331, gfx, pd334, (by omega)⟩ (show (gn - g0) ≤ gn - g0 from by omega) (show (14 * (gn - g0)) ≤ 14 * (gn - g0) from by omega) (show (gn - g0) ≤ 65536 from by omega) (show (14 * (gn - g0)) ≤ 917504 from by omega) dX3_add_85
        · skip
          refine kq_v hw hS hA (va_runV (As := []) (rest := []) ⟨hx, hb, hml, hown, hT⟩ (cX3_grow_vGM_0 l G cy ev K ln Ls hW _ hp0 ok1 qa900 gn kd900 pdNS (by omega)) (cwV 0 hT (good_V tb_1159 tb_1156 tb_1158 tb_34 tb_117) rfl rfl rfl (by decide +kernel) ⟨Nat.le_of_ble_eq_true rfl, Nat.le_of_ble_eq_true rfl⟩) (pool_preV (ci := 3) hK hE hS hA hw hW kd900 (by decide) rfl) rfl rfl hl.1 rfl (lv_room (Nat.le_of_ble_eq_true rfl)) dX3_add_56 ⟨(show 0 + 0 ≤ 65536 from by omega), (show 0 + 0 ≤ 917504 from by omega)⟩) (fun hp437 H locs hq440 hw hS => ?_)
          obtain ⟨ok438, F439⟩ := hq440
          obtain rfl : hp0 = hp437 := (Fr.nil F439).symm
          have hw : PW G cy K ln Ls A hp0 H := hw
          refine lv_aload_n hx hb dX3_add_59 rfl (lv_at hl 1 rfl) ?_
          refine lv_aload_n hx hb dX3_add_60 rfl (lv_at hl 2 rfl) ?_
          refine lv_iload hx hb dX3_add_61 (lv_at hl 5 rfl) ?_
          refine kq_i hw hS hA (va_runV (As := [.ref qa901, .int zi904]) (rest := []) ⟨hx, hb, hml, hown, hT⟩ (cX3_slotOf_0 l G cy ev K ln Ls hW _ hp0 ok1 qa900 qa901 zi904 gn kd900 kd901 pdNS) (cwV 2 hT (good_V tb_1146 tb_1143 tb_1145 tb_33 tb_117) rfl rfl rfl (by decide +kernel) ⟨Nat.le_of_ble_eq_true rfl, Nat.le_of_ble_eq_true rfl⟩) (pool_preV (ci := 3) hK hE hS hA hw hW kd900 (by decide) rfl) rfl rfl hl.1 rfl (lv_room (Nat.le_of_ble_eq_true rfl)) dX3_add_63 ⟨(show 0 + 0 ≤ 65536 from by omega), (show 0 + 0 ≤ 917504 from by omega)⟩) (fun zi446 hp442 H locs hq445 hw hS => ?_)
          obtain ⟨ok443, F444, bd447, xq448, xq449⟩ := hq445
          obtain rfl : hp0 = hp442 := (Fr.nil F444).symm
          have hw : PW G cy K ln Ls A hp0 H := hw
          refine lv_istore (lv' := [(6, .int zi446), (0, .ref qa900), (1, .ref qa901), (2, .int zi902), (3, .long wl903), (5, .int zi904)]) hx hb dX3_add_66 hl (by decide) rfl (fun ls hl => ?_)
          refine lv_iload hx hb dX3_add_68 (lv_at hl 0 rfl) ?_
          refine lv_if_lt (tgt := 85) hx hb dX3_add_70 (by decide) (fun cn450 => ?_) (fun cn450 => ?_)
          · skip
            have bd451 : (-1 : Int) ≤ zi446.toInt ∧ zi446.toInt ≤ -1 := r_lt_x cn450 bd447 bc_0 (by decide) (by decide)
            rw [hQ]
            exact kgz_v (n := g0) hx hb hr hlocks hS (((K, ln, Ls, hp0), gn) : GU × Nat) hw ⟨gex, hW, ok1, gfx, pdNS, (by omega)⟩ (show 0 ≤ gn - g0 from by omega) (show 0 ≤ 14 * (gn - g0) from by omega) (show 0 ≤ 65536 from by omega) (show 0 ≤ 917504 from by omega) dX3_add_85
          · skip
            have bd452 : (0 : Int) ≤ zi446.toInt ∧ zi446.toInt ≤ 262143 := r_le_y (Int32.not_lt.mp cn450) bc_0 bd447 (by decide) (by decide)
            refine lv_aload_n hx hb dX3_add_73 rfl (lv_at hl 1 rfl) ?_
            refine p_get (ci := 3) (v := .int zi2) (C := RX3) (T := TX3) (N := 7) hx hb hT iw_X3 hown hK hw hW kd900 (by decide) rfl rfl 6 (by decide) eq1 (hT _ tb_503) (fun _ h9 => h9) dX3_add_74 ?_
            refine lv_aload_n hx hb dX3_add_77 rfl (lv_at hl 1 rfl) ?_
            refine p_get (ci := 3) (v := .ref qa242) (C := RX3) (T := TX3) (N := 7) hx hb hT iw_X3 hown hK hw hW kd900 (by decide) rfl rfl 0 (by decide) eq241 (hT _ tb_492) (fun _ h9 => h9) dX3_add_78 ?_
            obtain ⟨zi453, ez454⟩ : ∃ z : Int32, Int32.ofNat (ln qa242) = z := ⟨_, rfl⟩
            refine p_alen (v := zi453) hx hb hK hw hW kd243 (by decide) rfl rfl ez454 dX3_add_81 ?_
            have hl455 : zi453.toInt = (gn : Nat) := by have h9 := ofNat_len ez454 (by rw [ln244]; omega); rw [ln244] at h9; exact h9
            have bd456 : (256 : Int) ≤ zi453.toInt ∧ zi453.toInt ≤ 131072 := (by omega)
            refine lv_icmp_lt (tgt := 86) hx hb dX3_add_82 (by decide) (fun cn457 => ?_) (fun cn457 => ?_)
            · skip
              have tf458 : zi2.toInt < zi453.toInt := (fa_lt _ _).mp cn457
              have bd459 : (256 : Int) ≤ zi2.toInt ∧ zi2.toInt ≤ 131071 := r_lt_x cn457 bd327 bd456 (by decide) (by decide)
              have bd460 : (257 : Int) ≤ zi453.toInt ∧ zi453.toInt ≤ 131072 := r_lt_y cn457 bd327 bd456 (by decide) (by decide)
              refine lv_aload_n hx hb dX3_add_86 rfl (lv_at hl 1 rfl) ?_
              refine p_get (ci := 3) (v := .ref qa242) (C := RX3) (T := TX3) (N := 7) hx hb hT iw_X3 hown hK hw hW kd900 (by decide) rfl rfl 0 (by decide) eq241 (hT _ tb_492) (fun _ h9 => h9) dX3_add_87 ?_
              refine lv_aload_n hx hb dX3_add_90 rfl (lv_at hl 1 rfl) ?_
              refine p_get (ci := 3) (v := .int zi2) (C := RX3) (T := TX3) (N := 7) hx hb hT iw_X3 hown hK hw hW kd900 (by decide) rfl rfl 6 (by decide) eq1 (hT _ tb_503) (fun _ h9 => h9) dX3_add_91 ?_
              refine lv_aload_n hx hb dX3_add_94 rfl (lv_at hl 2 rfl) ?_
              refine kq_i hw hS hA (va_runS (As := [.ref qa901]) (rest := [.int zi2, .ref qa242]) ⟨hx, hb, hml, hown, hT⟩ (cX3_packed_0 l G cy ev K ln Ls hW _ hp0 ok1 qa901 kd901) (va_cwS 1 hT (good_S tb_1149 tb_1147 tb_1148 tb_117) rfl rfl rfl (by decide +kernel) ⟨Nat.le_of_ble_eq_true rfl, Nat.le_of_ble_eq_true rfl⟩) (PB2.preS hK hE hS hA hw) rfl rfl hl.1 rfl (lv_room (Nat.le_of_ble_eq_true rfl)) dX3_add_95 ⟨(show 0 + 0 ≤ 65536 from by omega), (show 0 + 0 ≤ 917504 from by omega)⟩) (fun zi465 hp461 H locs hq464 hw hS => ?_)
              obtain ⟨ok462, F463, xq466⟩ := hq464
              obtain rfl : hp0 = hp461 := (Fr.nil F463).symm
              have hw : PW G cy K ln Ls A hp0 H := hw
              refine p_iast (x := zi465) hx hb hK hw hS hW kd243 (by decide) rfl ln244 (vp_bv (by omega) (by omega)) dX3_add_98 (fun hp467 eh468 H locs hw hS => ?_)
              have ok469 := wr_28000 ok1 kd243 eh468
              refine lv_aload_n hx hb dX3_add_99 rfl (lv_at hl 1 rfl) ?_
              obtain ⟨qa471, eq470, kd472⟩ := rd_4001 ok469 kd900
              have pd473 : NSx K ln hp467 gn := NSx_fr ok1  (show Fr [28000] K hp0 hp467 from (Fr.put (cq := 28000) (Fr.rf) eh468 kd243 (cd_a (by decide)) (by decide))) (by decide) pdNS
              have ln474 := (pd473).ref kd900 (by decide) eq470
              refine p_get (ci := 3) (v := .ref qa471) (C := RX3) (T := TX3) (N := 7) hx hb hT iw_X3 hown hK hw hW kd900 (by decide) rfl rfl 1 (by decide) eq470 (hT _ tb_495) (fun _ h9 => h9) dX3_add_100 ?_
              refine lv_aload_n hx hb dX3_add_103 rfl (lv_at hl 1 rfl) ?_
              have eq475 : hp467 qa900 6 = .int zi2 := Eq.trans (up_at eh468 (Or.inl (kd_ne kd900 kd243 (by decide)))) eq1
              refine p_get (ci := 3) (v := .int zi2) (C := RX3) (T := TX3) (N := 7) hx hb hT iw_X3 hown hK hw hW kd900 (by decide) rfl rfl 6 (by decide) eq475 (hT _ tb_503) (fun _ h9 => h9) dX3_add_104 ?_
              refine lv_aload_n hx hb dX3_add_107 rfl (lv_at hl 2 rfl) ?_
              obtain ⟨zi477, eq476⟩ := rd_8000 ok469 kd901
              refine p_getN (ci := 7) (v := .int zi477) (C := RX7) (T := TX7) (N := 13) hx hb hT iw_X7 hown hK hw hW kd901 (by decide) rfl rfl 0 (by decide) eq476 (hK.fl nw_308) (fun _ h9 => h9) dX3_add_108 ?_
              refine p_iast (x := zi477) hx hb hK hw hS hW kd472 (by decide) rfl ln474 (vp_bv (by omega) (by omega)) dX3_add_111 (fun hp478 eh479 H locs hw hS => ?_)
              have ok480 := wr_29000 ok469 kd472 eh479
              refine lv_aload_n hx hb dX3_add_112 rfl (lv_at hl 1 rfl) ?_
              obtain ⟨qa482, eq481, kd483⟩ := rd_4002 ok480 kd900
              have pd484 : NSx K ln hp478 gn := NSx_fr ok469  (show Fr [29000] K hp467 hp478 from (Fr.put (cq := 29000) (Fr.rf) eh479 kd472 (cd_a (by decide)) (by decide))) (by decide) pd473
              have ln485 := (pd484).ref kd900 (by decide) eq481
              refine p_get (ci := 3) (v := .ref qa482) (C := RX3) (T := TX3) (N := 7) hx hb hT iw_X3 hown hK hw hW kd900 (by decide) rfl rfl 2 (by decide) eq481 (hT _ tb_497) (fun _ h9 => h9) dX3_add_113 ?_
              refine lv_aload_n hx hb dX3_add_116 rfl (lv_at hl 1 rfl) ?_
              have eq486 : hp478 qa900 6 = .int zi2 := Eq.trans (up_at eh479 (Or.inl (kd_ne kd900 kd472 (by decide)))) eq475
              refine p_get (ci := 3) (v := .int zi2) (C := RX3) (T := TX3) (N := 7) hx hb hT iw_X3 hown hK hw hW kd900 (by decide) rfl rfl 6 (by decide) eq486 (hT _ tb_503) (fun _ h9 => h9) dX3_add_117 ?_
              refine lv_aload_n hx hb dX3_add_120 rfl (lv_at hl 2 rfl) ?_
              obtain ⟨zi488, eq487⟩ := rd_8004 ok480 kd901
              refine p_getN (ci := 7) (v := .int zi488) (C := RX7) (T := TX7) (N := 13) hx hb hT iw_X7 hown hK hw hW kd901 (by decide) rfl rfl 4 (by decide) eq487 (hK.fl nw_323) (fun _ h9 => h9) dX3_add_121 ?_
              refine p_iast (x := zi488) hx hb hK hw hS hW kd483 (by decide) rfl ln485 (vp_bv (by omega) (by omega)) dX3_add_124 (fun hp489 eh490 H locs hw hS => ?_)
              have ok491 := wr_30000 ok480 kd483 eh490
              refine lv_aload_n hx hb dX3_add_125 rfl (lv_at hl 1 rfl) ?_
              obtain ⟨qa493, eq492, kd494⟩ := rd_4003 ok491 kd900
              have pd495 : NSx K ln hp489 gn := NSx_fr ok480  (show Fr [30000] K hp478 hp489 from (Fr.put (cq := 30000) (Fr.rf) eh490 kd483 (cd_a (by decide)) (by decide))) (by decide) pd484
              have ln496 := (pd495).ref kd900 (by decide) eq492
              refine p_get (ci := 3) (v := .ref qa493) (C := RX3) (T := TX3) (N := 7) hx hb hT iw_X3 hown hK hw hW kd900 (by decide) rfl rfl 3 (by decide) eq492 (hT _ tb_498) (fun _ h9 => h9) dX3_add_126 ?_
              refine lv_aload_n hx hb dX3_add_129 rfl (lv_at hl 1 rfl) ?_
              have eq497 : hp489 qa900 6 = .int zi2 := Eq.trans (up_at eh490 (Or.inl (kd_ne kd900 kd483 (by decide)))) eq486
              refine p_get (ci := 3) (v := .int zi2) (C := RX3) (T := TX3) (N := 7) hx hb hT iw_X3 hown hK hw hW kd900 (by decide) rfl rfl 6 (by decide) eq497 (hT _ tb_503) (fun _ h9 => h9) dX3_add_130 ?_
              refine lv_iload_n hx hb dX3_add_133 rfl (lv_at hl 3 rfl) ?_
              refine p_iast (x := zi902) hx hb hK hw hS hW kd494 (by decide) rfl ln496 (vp_bv (by omega) (by omega)) dX3_add_134 (fun hp498 eh499 H locs hw hS => ?_)
              have ok500 := wr_31000 ok491 kd494 eh499
              refine lv_aload_n hx hb dX3_add_135 rfl (lv_at hl 1 rfl) ?_
              obtain ⟨qa502, eq501, kd503⟩ := rd_4004 ok500 kd900
              have pd504 : NSx K ln hp498 gn := NSx_fr ok491  (show Fr [31000] K hp489 hp498 from (Fr.put (cq := 31000) (Fr.rf) eh499 kd494 (cd_a (by decide)) (by decide))) (by decide) pd495
              have ln505 := (pd504).ref kd900 (by decide) eq501
              refine p_get (ci := 3) (v := .ref qa502) (C := RX3) (T := TX3) (N := 7) hx hb hT iw_X3 hown hK hw hW kd900 (by decide) rfl rfl 4 (by decide) eq501 (hT _ tb_500) (fun _ h9 => h9) dX3_add_136 ?_
              refine lv_aload_n hx hb dX3_add_139 rfl (lv_at hl 1 rfl) ?_
              have eq506 : hp498 qa900 6 = .int zi2 := Eq.trans (up_at eh499 (Or.inl (kd_ne kd900 kd494 (by decide)))) eq497
              refine p_get (ci := 3) (v := .int zi2) (C := RX3) (T := TX3) (N := 7) hx hb hT iw_X3 hown hK hw hW kd900 (by decide) rfl rfl 6 (by decide) eq506 (hT _ tb_503) (fun _ h9 => h9) dX3_add_140 ?_
              refine lv_lload_n hx hb dX3_add_143 rfl (lv_at hl 4 rfl) ?_
              refine p_last (x := wl903) hx hb hK hw hS hW kd503 (by decide) rfl ln505 (vp_bv (by omega) (by omega)) dX3_add_144 (fun hp507 eh508 H locs hw hS => ?_)
              have ok509 := wr_32000 ok500 kd503 eh508
              refine lv_aload_n hx hb dX3_add_145 rfl (lv_at hl 1 rfl) ?_
              refine lv_dup hx hb dX3_add_146 rfl ?_
              have eq510 : hp507 qa900 6 = .int zi2 := Eq.trans (up_at eh508 (Or.inl (kd_ne kd900 kd503 (by decide)))) eq506
              refine p_get (ci := 3) (v := .int zi2) (C := RX3) (T := TX3) (N := 7) hx hb hT iw_X3 hown hK hw hW kd900 (by decide) rfl rfl 6 (by decide) eq510 (hT _ tb_503) (fun _ h9 => h9) dX3_add_147 ?_
              refine lv_iconst (v := 1) hx hb dX3_add_150 (by decide) ?_
              refine lv_iadd hx hb dX3_add_151 (lv_topi (fun zi511 ea512 => ?_))
              have bd513 : (257 : Int) ≤ zi511.toInt ∧ zi511.toInt ≤ 131072 := b_iadd ea512 bd459 bc_1 (by decide) (by decide) (by decide) (by decide)
              have qe514 : zi511.toInt = (zi2 : Int32).toInt + (1 : Int32).toInt := e_iadd ea512 bd459 bc_1 (by decide) (by decide)
              have qe515 : zi511.toInt = zi2.toInt + 1 := by have ha : (1 : Int32).toInt = 1 := (by decide); rw [ha] at qe514; exact qe514
              have pd516 : NSx K ln hp507 gn := NSx_fr ok500  (show Fr [32000] K hp498 hp507 from (Fr.put (cq := 32000) (Fr.rf) eh508 kd503 (cd_a (by decide)) (by decide))) (by decide) pd504
              refine p_put (ci := 3) (v := .int zi511) (ty := .int) (C := RX3) (T := TX3) (N := 7) hx hb hT iw_X3 tyX3 tyX3_ok nmX3 hown hK hw hS hW kd900 (by decide) rfl rfl 6 (by decide) (hT _ tb_503) (fun _ h9 => h9) rfl (by decide +kernel) rfl rfl dX3_add_152 (fun hp517 eh518 H locs hw hS => ?_)
              have ok519 := wr_4006 bd513 (by decide) (by decide) ok509 kd900 eh518
              have ns520 : NSx K ln hp517 gn := NSx_size pd516 eh518 kd900 (by omega) ok509
              refine lv_aload_n hx hb dX3_add_155 rfl (lv_at hl 1 rfl) ?_
              have eq521 : hp517 qa900 5 = .ref qa232 := Eq.trans (up_at eh518 (Or.inr (by decide))) (Eq.trans (up_at eh508 (Or.inl (kd_ne kd900 kd503 (by decide)))) (Eq.trans (up_at eh499 (Or.inl (kd_ne kd900 kd494 (by decide)))) (Eq.trans (up_at eh490 (Or.inl (kd_ne kd900 kd483 (by decide)))) (Eq.trans (up_at eh479 (Or.inl (kd_ne kd900 kd472 (by decide)))) (Eq.trans (up_at eh468 (Or.inl (kd_ne kd900 kd243 (by decide)))) eq231)))))
              refine p_get (ci := 3) (v := .ref qa232) (C := RX3) (T := TX3) (N := 7) hx hb hT iw_X3 hown hK hw hW kd900 (by decide) rfl rfl 5 (by decide) eq521 (hT _ tb_502) (fun _ h9 => h9) dX3_add_156 ?_
              refine lv_iload hx hb dX3_add_159 (lv_at hl 0 rfl) ?_
              refine lv_aload_n hx hb dX3_add_161 rfl (lv_at hl 1 rfl) ?_
              refine p_get (ci := 3) (v := .int zi511) (C := RX3) (T := TX3) (N := 7) hx hb hT iw_X3 hown hK hw hW kd900 (by decide) rfl rfl 6 (by decide) (hp_self eh518) (hT _ tb_503) (fun _ h9 => h9) dX3_add_162 ?_
              refine p_iast (x := zi511) hx hb hK hw hS hW kd233 (by decide) rfl ln234 (vp_bv (by omega) (by omega)) dX3_add_165 (fun hp522 eh523 H locs hw hS => ?_)
              have ok524 := wr_33000 bd513 (by decide) (by decide) ok519 kd233 eh523
              have ns525 : NSx K ln hp522 gn := NSx_tab ns520 kd233 eh523 (by omega)
              rw [hQ]
              exact kgz_v (n := g0) hx hb hr hlocks hS (((K, ln, Ls, hp522), gn) : GU × Nat) hw ⟨gex, hW, ok524, (FrX.tr gfx gex (FrX.of (show Fr [4006, 28000, 29000, 30000, 31000, 32000, 33000] K hp0 hp522 from (Fr.put (cq := 33000) (Fr.put (cq := 4006) (Fr.put (cq := 32000) (Fr.put (cq := 31000) (Fr.put (cq := 30000) (Fr.put (cq := 29000) (Fr.put (cq := 28000) (Fr.rf) eh468 kd243 (cd_a (by decide)) (by decide)) eh479 kd472 (cd_a (by decide)) (by decide)) eh490 kd483 (cd_a (by decide)) (by decide)) eh499 kd494 (cd_a (by decide)) (by decide)) eh508 kd503 (cd_a (by decide)) (by decide)) eh518 kd900 (cd_o (by decide)) (by decide)) eh523 kd233 (cd_a (by decide)) (by decide)))) (by decide +kernel)), ns525, (by omega)⟩ (show 0 ≤ gn - g0 from by omega) (show 0 ≤ 14 * (gn - g0) from by omega) (show 0 ≤ 65536 from by omega) (show 0 ≤ 917504 from by omega) dX3_add_166
            · skip
              have tf526 : zi453.toInt ≤ zi2.toInt := (fa_le _ _).mp (Int32.not_lt.mp cn457)
              rw [hQ]
              exact kgz_v (n := g0) hx hb hr hlocks hS (((K, ln, Ls, hp0), gn) : GU × Nat) hw ⟨gex, hW, ok1, gfx, pdNS, (by omega)⟩ (show 0 ≤ gn - g0 from by omega) (show 0 ≤ 14 * (gn - g0) from by omega) (show 0 ≤ 65536 from by omega) (show 0 ≤ 917504 from by omega) dX3_add_85
    · skip
      have bd527 : (1 : Int) ≤ zi236.toInt ∧ zi236.toInt ≤ 131072 := r_lt_y (Int32.not_le.mp cn239) bc_0 bd237 (by decide) (by decide)
      refine lv_aload_n hx hb dX3_add_24 rfl (lv_at hl 1 rfl) ?_
      obtain ⟨qa529, eq528, kd530⟩ := rd_4004 ok1 kd900
      have ln531 := (pdNS).ref kd900 (by decide) eq528
      refine p_get (ci := 3) (v := .ref qa529) (C := RX3) (T := TX3) (N := 7) hx hb hT iw_X3 hown hK hw hW kd900 (by decide) rfl rfl 4 (by decide) eq528 (hT _ tb_500) (fun _ h9 => h9) dX3_add_25 ?_
      refine lv_aload_n hx hb dX3_add_28 rfl (lv_at hl 1 rfl) ?_
      refine p_get (ci := 3) (v := .ref qa232) (C := RX3) (T := TX3) (N := 7) hx hb hT iw_X3 hown hK hw hW kd900 (by decide) rfl rfl 5 (by decide) eq231 (hT _ tb_502) (fun _ h9 => h9) dX3_add_29 ?_
      refine lv_iload hx hb dX3_add_32 (lv_at hl 0 rfl) ?_
      refine p_iald (v := zi236) hx hb hK hw hW kd233 (by decide) rfl ln234 (vp_bv (by omega) (by omega)) eq235 dX3_add_34 ?_
      refine lv_iconst (v := 1) hx hb dX3_add_35 (by decide) ?_
      refine lv_isub hx hb dX3_add_36 (lv_topi (fun zi532 ea533 => ?_))
      have bd534 : (0 : Int) ≤ zi532.toInt ∧ zi532.toInt ≤ 131071 := b_isub ea533 bd527 bc_1 (by decide) (by decide) (by decide) (by decide)
      have qe535 : zi532.toInt = (zi236 : Int32).toInt - (1 : Int32).toInt := e_isub ea533 bd527 bc_1 (by decide) (by decide)
      have qe536 : zi532.toInt = zi236.toInt - 1 := by have ha : (1 : Int32).toInt = 1 := (by decide); rw [ha] at qe535; exact qe535
      refine lv_dup2_11 hx hb dX3_add_37 rfl rfl ?_
      obtain ⟨wl538, eq537⟩ := rd_32000 ok1 kd530 ((zi532 : Int32).toNatClampNeg)
      refine p_lald (v := wl538) hx hb hK hw hW kd530 (by decide) rfl ln531 (vp_bv (by omega) (by omega)) eq537 dX3_add_38 ?_
      refine lv_lload_n hx hb dX3_add_39 rfl (lv_at hl 4 rfl) ?_
      refine lv_ladd hx hb dX3_add_40 (lv_topl (fun wl539 _ => ?_))
      refine p_last (x := wl539) hx hb hK hw hS hW kd530 (by decide) rfl ln531 (vp_bv (by omega) (by omega)) dX3_add_41 (fun hp540 eh541 H locs hw hS => ?_)
      have ok542 := wr_32000 ok1 kd530 eh541
      rw [hQ]
      have pd543 : NSx K ln hp540 gn := NSx_fr ok1  (show Fr [32000] K hp0 hp540 from (Fr.put (cq := 32000) (Fr.rf) eh541 kd530 (cd_a (by decide)) (by decide))) (by decide) pdNS
      exact kgz_v (n := g0) hx hb hr hlocks hS (((K, ln, Ls, hp540), gn) : GU × Nat) hw ⟨gex, hW, ok542, (FrX.tr gfx gex (FrX.of (show Fr [32000] K hp0 hp540 from (Fr.put (cq := 32000) (Fr.rf) eh541 kd530 (cd_a (by decide)) (by decide)))) (by decide +kernel)), pd543, (by omega)⟩ (show 0 ≤ gn - g0 from by omega) (show 0 ≤ 14 * (gn - g0) from by omega) (show 0 ≤ 65536 from by omega) (show 0 ≤ 917504 from by omega) dX3_add_42
