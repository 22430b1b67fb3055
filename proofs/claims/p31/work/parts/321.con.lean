set_option maxRecDepth 100000 in
set_option maxHeartbeats 4000000 in
theorem cX0_find_0 (l : Launch) (G : va_G) (cy : Nat → ClassId) (ev : Ew) (K0 ln0 : Nat → Nat) (Ls0 : List Nat) (hW0 : SW K0 ln0 Ls0) (sz : Nat) (hp0 : Nat → Nat → Value) (ok0 : Ok K0 hp0) (qa900 : Nat) (qa901 : Nat) (qa902 : Nat) (zi903 : Int32) (zi904 : Int32) (g0 : Nat) (kd900 : K0 qa900 = 1) (kd901 : K0 qa901 = 11) (kd902 : K0 qa902 = 8) (bd903 : ((0 : Int) ≤ zi903.toInt ∧ zi903.toInt ≤ 7)) (bd904 : ((0 : Int) ≤ zi904.toInt ∧ zi904.toInt ≤ 7)) (pdNS : NSx K0 ln0 hp0 g0) : Met l yX0_find (WS yX0_find cX0_find 9 none) { frames := 6, cells := 327680, slots := 4580352, locals := 150 } (PB2 [.ref qa900, .ref qa901, .ref qa902, .int zi903, .int zi904] sz G cy ev (va_pl Ls0 (cellOf cy K0 ln0 hp0))) (QGv (fun u : GU × Nat => GPx wsC K0 ln0 hp0 g0 u.1 u.2) G cy g0 (va_A (va_pl Ls0 (cellOf cy K0 ln0 hp0)) sz)) 327680 4580352 (va_A (va_pl Ls0 (cellOf cy K0 ln0 hp0)) sz) := by
  refine met_of2 (y := yX0_find) (L := 9) (av := [.ref qa900, .ref qa901, .ref qa902, .int zi903, .int zi904]) (Qc := fun A => QGv (fun u : GU × Nat => GPx wsC K0 ln0 hp0 g0 u.1 u.2) G cy g0 A) (plainFor_of_name (by decide)) (Nat.le_of_ble_eq_true rfl) ?_
  intro p e s m below meth c hsz hx hb hr hml hown hT hlocks hin hK A hA hE hw hS ls hl
  have hw : PW G cy K0 ln0 Ls0 A hp0 s.heap := hw
  have hown : s.vm.findClass "LieClock$Ahead" = some m.cls := hown
  have hl : lv_has ls 9 [(0, .ref qa900), (1, .ref qa901), (2, .ref qa902), (3, .int zi903), (4, .int zi904)] := hl
  obtain ⟨Q, hQ⟩ : ∃ Q : State → Prop, Q = MQ below (QGv (fun u : GU × Nat => GPx wsC K0 ln0 hp0 g0 u.1 u.2) G cy g0 A) ([.ref qa900, .ref qa901, .ref qa902, .int zi903, .int zi904] : List Value).toArray s 327680 4580352 A := ⟨_, rfl⟩
  rw [← hQ]
  obtain ⟨K, ln, Ls, gn, hW, gex, gfx, ok1, hKe, hga, hge, kd900, kd901, kd902, pdNS, hw⟩ : ∃ (K ln : Nat → Nat) (Ls : List Nat) (gn : Nat), SW K ln Ls ∧ EXx K0 ln0 K ln ∧ FrX wsC K0 hp0 hp0 ∧ Ok K hp0 ∧ K = K0 ∧ g0 ≤ gn ∧ gn = g0 ∧ (K qa900 = 1) ∧ (K qa901 = 11) ∧ (K qa902 = 8) ∧ (NSx K ln hp0 gn) ∧ PW G cy K ln Ls A hp0 s.heap := ⟨K0, ln0, Ls0, g0, hW0, EXx.rf, FrX.rf, ok0, rfl, Nat.le_refl _, rfl, kd900, kd901, kd902, pdNS, hw⟩
  have hg0 : 256 ≤ g0 ∧ g0 ≤ 131072 := by have := NSx.bd pdNS; omega
  refine W.widen (k := gn - g0) (n := 14 * (gn - g0)) (Nat.zero_le _) (Nat.zero_le _) ?_
  have hgn := NSx.bd pdNS
  refine lv_aload_n hx hb dX0_find_0 rfl (lv_at hl 0 rfl) ?_
  obtain ⟨zi2, eq1, bd3⟩ := rd_1005 ok1 kd900
  refine p_get (ci := 0) (v := .int zi2) (C := RX0) (T := TX0) (N := 8) hx hb hT iw_X0 hown hK hw hW kd900 (by decide) rfl rfl 5 (by decide) eq1 (hT _ tb_599) (fun _ h9 => h9) dX0_find_1 ?_
  refine lv_if_eq (tgt := 25) hx hb dX0_find_4 (by decide) (fun cn4 => ?_) (fun cn4 => ?_)
  · skip
    have bd5 : (0 : Int) ≤ zi2.toInt ∧ zi2.toInt ≤ 0 := r_eq_x cn4 bd3 bc_0 (by decide) (by decide)
    refine lv_aload_n hx hb dX0_find_25 rfl (lv_at hl 0 rfl) ?_
    refine lv_iconst (v := 1) hx hb dX0_find_26 (by decide) ?_
    refine p_put (ci := 0) (v := .int 1) (ty := .boolean) (C := RX0) (T := TX0) (N := 8) hx hb hT iw_X0 tyX0 tyX0_ok nmX0 hown hK hw hS hW kd900 (by decide) rfl rfl 5 (by decide) (hT _ tb_599) (fun _ h9 => h9) rfl (by decide +kernel) (nz_n bc_1 (by decide) (by decide)) (nz_f bc_1 (by decide) (by decide)) dX0_find_27 (fun hp6 eh7 H locs hw hS => ?_)
    have ok8 := wr_1005 bc_1 (by decide) (by decide) ok1 kd900 eh7
    refine lv_aload_n hx hb dX0_find_30 rfl (lv_at hl 0 rfl) ?_
    refine lv_iload_n hx hb dX0_find_31 rfl (lv_at hl 3 rfl) ?_
    refine p_put (ci := 0) (v := .int zi903) (ty := .int) (C := RX0) (T := TX0) (N := 8) hx hb hT iw_X0 tyX0 tyX0_ok nmX0 hown hK hw hS hW kd900 (by decide) rfl rfl 6 (by decide) (hT _ tb_601) (fun _ h9 => h9) rfl (by decide +kernel) rfl rfl dX0_find_32 (fun hp9 eh10 H locs hw hS => ?_)
    have ok11 := wr_1006 ok8 kd900 eh10
    refine lv_aload_n hx hb dX0_find_35 rfl (lv_at hl 0 rfl) ?_
    refine lv_iload hx hb dX0_find_36 (lv_at hl 4 rfl) ?_
    refine p_put (ci := 0) (v := .int zi904) (ty := .int) (C := RX0) (T := TX0) (N := 8) hx hb hT iw_X0 tyX0 tyX0_ok nmX0 hown hK hw hS hW kd900 (by decide) rfl rfl 7 (by decide) (hT _ tb_602) (fun _ h9 => h9) rfl (by decide +kernel) rfl rfl dX0_find_38 (fun hp12 eh13 H locs hw hS => ?_)
    have ok14 := wr_1007 ok11 kd900 eh13
    refine lv_aload_n hx hb dX0_find_41 rfl (lv_at hl 0 rfl) ?_
    refine lv_iconst (v := 0) hx hb dX0_find_42 (by decide) ?_
    refine p_put (ci := 0) (v := .int 0) (ty := .int) (C := RX0) (T := TX0) (N := 8) hx hb hT iw_X0 tyX0 tyX0_ok nmX0 hown hK hw hS hW kd900 (by decide) rfl rfl 3 (by decide) (hT _ tb_595) (fun _ h9 => h9) rfl (by decide +kernel) rfl rfl dX0_find_43 (fun hp15 eh16 H locs hw hS => ?_)
    have ok17 := wr_1003 bc_0 (by decide) (by decide) ok14 kd900 eh16
    refine lv_aload_n hx hb dX0_find_46 rfl (lv_at hl 0 rfl) ?_
    refine lv_iconst (v := 0) hx hb dX0_find_47 (by decide) ?_
    refine p_put (ci := 0) (v := .int 0) (ty := .int) (C := RX0) (T := TX0) (N := 8) hx hb hT iw_X0 tyX0 tyX0_ok nmX0 hown hK hw hS hW kd900 (by decide) rfl rfl 4 (by decide) (hT _ tb_597) (fun _ h9 => h9) rfl (by decide +kernel) rfl rfl dX0_find_48 (fun hp18 eh19 H locs hw hS => ?_)
    have ok20 := wr_1004 ok17 kd900 eh19
    refine lv_aload_n hx hb dX0_find_51 rfl (lv_at hl 0 rfl) ?_
    obtain ⟨qa22, eq21, kd23⟩ := rd_1000 ok20 kd900
    refine p_get (ci := 0) (v := .ref qa22) (C := RX0) (T := TX0) (N := 8) hx hb hT iw_X0 hown hK hw hW kd900 (by decide) rfl rfl 0 (by decide) eq21 (hT _ tb_591) (fun _ h9 => h9) dX0_find_52 ?_
    have pd24 : NSx K ln hp18 gn := NSx_fr ok1  (show Fr [1003, 1004, 1005, 1006, 1007] K hp0 hp18 from (Fr.put (cq := 1004) (Fr.put (cq := 1003) (Fr.put (cq := 1007) (Fr.put (cq := 1006) (Fr.put (cq := 1005) (Fr.rf) eh7 kd900 (cd_o (by decide)) (by decide)) eh10 kd900 (cd_o (by decide)) (by decide)) eh13 kd900 (cd_o (by decide)) (by decide)) eh16 kd900 (cd_o (by decide)) (by decide)) eh19 kd900 (cd_o (by decide)) (by decide))) (by decide) pdNS
    refine kq_v hw hS hA (va_runV (As := []) (rest := []) ⟨hx, hb, hml, hown, hT⟩ (cX3_clear_0 l G cy ev K ln Ls hW _ hp18 ok20 qa22 gn kd23 pd24) (cwV 0 hT (good_V tb_1136 tb_1133 tb_1134 tb_1135 tb_117) rfl rfl rfl (by decide +kernel) ⟨Nat.le_of_ble_eq_true rfl, Nat.le_of_ble_eq_true rfl⟩) (pool_preV (ci := 3) hK hE hS hA hw hW kd23 (by decide) rfl) rfl rfl hl.1 rfl (lv_room (Nat.le_of_ble_eq_true rfl)) dX0_find_55 ⟨(show (gn - g0) + 0 ≤ 327680 from by omega), (show (14 * (gn - g0)) + 0 ≤ 4580352 from by omega)⟩) (fun hp25 H locs hq28 hw hS => ?_)
    obtain ⟨ok26, F27, ⟨zi30, eq31, bd32⟩, xq33⟩ := hq28
    have hw : PW G cy K ln Ls A hp25 H := hw
    refine lv_aload_n hx hb dX0_find_58 rfl (lv_at hl 0 rfl) ?_
    obtain ⟨qa35, eq34, kd36⟩ := rd_1001 ok26 kd900
    refine p_get (ci := 0) (v := .ref qa35) (C := RX0) (T := TX0) (N := 8) hx hb hT iw_X0 hown hK hw hW kd900 (by decide) rfl rfl 1 (by decide) eq34 (hT _ tb_592) (fun _ h9 => h9) dX0_find_59 ?_
    refine lv_aload_n hx hb dX0_find_62 rfl (lv_at hl 2 rfl) ?_
    refine kq_v hw hS hA (va_runV (As := [.ref qa902]) (rest := []) ⟨hx, hb, hml, hown, hT⟩ (cX7_copyMoment_0 l G cy ev K ln Ls hW _ hp25 ok26 qa35 qa902 kd36 kd902) (cwV 1 hT (good_V tb_1051 tb_1138 tb_1049 tb_1050 tb_115) rfl rfl rfl (by decide +kernel) ⟨Nat.le_of_ble_eq_true rfl, Nat.le_of_ble_eq_true rfl⟩) (pool_preV (ci := 7) hK hE hS hA hw hW kd36 (by decide) rfl) rfl rfl hl.1 rfl (lv_room (Nat.le_of_ble_eq_true rfl)) dX0_find_63 ⟨(show (gn - g0) + 0 ≤ 327680 from by omega), (show (14 * (gn - g0)) + 0 ≤ 4580352 from by omega)⟩) (fun hp37 H locs hq40 hw hS => ?_)
    obtain ⟨ok38, F39⟩ := hq40
    have hw : PW G cy K ln Ls A hp37 H := hw
    refine lv_aload_n hx hb dX0_find_66 rfl (lv_at hl 0 rfl) ?_
    have eq42 : hp37 qa900 0 = .ref qa22 := Eq.trans (Fr.at (cq := 1000) F39 kd900 (cd_o (by decide)) (by decide)) (Eq.trans (Fr.at (cq := 1000) F27 kd900 (cd_o (by decide)) (by decide)) eq21)
    refine p_get (ci := 0) (v := .ref qa22) (C := RX0) (T := TX0) (N := 8) hx hb hT iw_X0 hown hK hw hW kd900 (by decide) rfl rfl 0 (by decide) eq42 (hT _ tb_591) (fun _ h9 => h9) dX0_find_67 ?_
    refine lv_aload_n hx hb dX0_find_70 rfl (lv_at hl 0 rfl) ?_
    have eq43 : hp37 qa900 1 = .ref qa35 := Eq.trans (Fr.at (cq := 1001) F39 kd900 (cd_o (by decide)) (by decide)) eq34
    refine p_get (ci := 0) (v := .ref qa35) (C := RX0) (T := TX0) (N := 8) hx hb hT iw_X0 hown hK hw hW kd900 (by decide) rfl rfl 1 (by decide) eq43 (hT _ tb_592) (fun _ h9 => h9) dX0_find_71 ?_
    refine lv_iconst (v := 0) hx hb dX0_find_74 (by decide) ?_
    refine lv_lconst (v := 1) hx hb dX0_find_75 (by decide) ?_
    refine lv_iconst (v := 0) hx hb dX0_find_76 (by decide) ?_
    have pd44 : NSx K ln hp37 gn := NSx_fr ok26  (show Fr [8000, 8001, 8002, 8003, 8004, 8005] K hp25 hp37 from (Fr.tr (Fr.rf) F39 (by decide))) (by decide) xq33
    have gf52 : FrX wsC K0 hp0 hp37 := (FrX.tr gfx gex (FrX.of (show Fr [1003, 1004, 1005, 1006, 1007, 4006, 8000, 8001, 8002, 8003, 8004, 8005, 33000] K hp0 hp37 from (Fr.tr (Fr.tr (Fr.put (cq := 1004) (Fr.put (cq := 1003) (Fr.put (cq := 1007) (Fr.put (cq := 1006) (Fr.put (cq := 1005) (Fr.rf) eh7 kd900 (cd_o (by decide)) (by decide)) eh10 kd900 (cd_o (by decide)) (by decide)) eh13 kd900 (cd_o (by decide)) (by decide)) eh16 kd900 (cd_o (by decide)) (by decide)) eh19 kd900 (cd_o (by decide)) (by decide)) F27 (by decide)) F39 (by decide)))) (by decide +kernel))
    refine kg_v hw hS hA (va_runV (As := [.ref qa35, .int 0, .long 1, .int 0]) (rest := []) ⟨hx, hb, hml, hown, hT⟩ (Met.szx (cX3_add_vG_0 l G cy ev K ln Ls hW _ hp37 ok38 qa22 qa35 0 1 0 gn kd23 kd36 pd44)) (cwV 4 hT (good_V tb_1142 tb_1139 tb_1140 tb_1141 tb_117) rfl rfl rfl (by decide +kernel) ⟨Nat.le_of_ble_eq_true rfl, Nat.le_of_ble_eq_true rfl⟩) (pool_preV (ci := 3) hK hE hS hA hw hW kd23 (by decide) rfl) rfl rfl hl.1 rfl (lv_room (Nat.le_of_ble_eq_true rfl)) dX0_find_77 ⟨(show (gn - g0) + 65536 ≤ 327680 from by omega), (show (14 * (gn - g0)) + 917504 ≤ 4580352 from by omega)⟩) (fun u gn H locs hq45 hw hS => ?_)
    obtain ⟨K, ln, Ls, hp46⟩ := u
    obtain ⟨ex48, hW, ok47, fx49, pd50, hle51⟩ := hq45
    have ex48 : EXx _ _ K ln := ex48
    have hW : SW K ln Ls := hW
    have ok47 : Ok K hp46 := ok47
    have fx49 : FrX _ _ _ hp46 := fx49
    have pd50 : NSx K ln hp46 gn := pd50
    have hle51 : _ ≤ gn := hle51
    have hw : PW G cy K ln Ls A hp46 H := hw
    have gfx : FrX wsC K0 hp0 hp46 := FrX.tr gf52 gex fx49 (by decide +kernel)
    have gex := EXx.tr gex ex48
    have kd55 := EXx.kd ex48 kd902 (by decide)
    have kd56 := EXx.kd ex48 kd901 (by decide)
    have kd57 := EXx.kd ex48 kd900 (by decide)
    (try clear kd900); (try clear kd901); (try clear kd902); (try clear kd23); (try clear kd36)
    have hgn := NSx.bd pd50
    refine W.widen (k := gn - g0) (n := 14 * (gn - g0)) (by omega) (by omega) ?_
    have hga : g0 ≤ gn := by omega
    refine lv_iconst (v := 0) hx hb dX0_find_80 (by decide) ?_
    refine lv_istore (lv' := [(5, .int 0), (0, .ref qa900), (1, .ref qa901), (2, .ref qa902), (3, .int zi903), (4, .int zi904)]) hx hb dX0_find_81 hl (by decide) rfl (fun ls hl => ?_)
    refine lv_iconst (v := 1) hx hb dX0_find_83 (by decide) ?_
    refine lv_istore (lv' := [(6, .int 1), (5, .int 0), (0, .ref qa900), (1, .ref qa901), (2, .ref qa902), (3, .int zi903), (4, .int zi904)]) hx hb dX0_find_84 hl (by decide) rfl (fun ls hl => ?_)
    have jn4045 : ∀ (K ln : Nat → Nat) (Ls : List Nat) (gn : Nat) (hp4039 : Nat → Nat → Value)  (H : Heap) (locs : List Loc) (ls : Array Slot), SW K ln Ls → EXx K0 ln0 K ln → FrX wsC K0 hp0 hp4039 → Ok K hp4039 → NSx K ln hp4039 gn → g0 ≤ gn → K qa900 = 1 → K qa901 = 11 → K qa902 = 8 → lv_has ls 9 [] → PW G cy K ln Ls A hp4039 H → va_S A s.heap H locs → W p l e ({ frames := 6, cells := 327680, slots := 4580352, locals := 150 } : Room) s m ([.ref qa900, .ref qa901, .ref qa902, .int zi903, .int zi904] : List Value).toArray below meth c H locs (gn - g0) (14 * (gn - g0)) Q (F0 m 180 ls []) := by
      intro K ln Ls gn hp4039 H locs ls hW gex gfx ok4040 pd4041 hga kd4042 kd4043 kd4044 hl hw hS
      have hgn := NSx.bd pd4041
      rw [hQ]
      exact kgz_v (n := g0) hx hb hr hlocks hS (((K, ln, Ls, hp4039), gn) : GU × Nat) hw ⟨gex, hW, ok4040, gfx, pd4041, (by omega)⟩ (show (gn - g0) ≤ gn - g0 from by omega) (show (14 * (gn - g0)) ≤ 14 * (gn - g0) from by omega) (show (gn - g0) ≤ 327680 from by omega) (show (14 * (gn - g0)) ≤ 4580352 from by omega) dX0_find_180
    have lp4048 : ∀ (n4046 : Nat) (K ln : Nat → Nat) (Ls : List Nat) (gn : Nat) (hp3045 : Nat → Nat → Value) (zi3043 : Int32) (zi3044 : Int32) (H : Heap) (locs : List Loc) (ls : Array Slot), 5 - zi3044.toInt < (n4046 : Int) → SW K ln Ls → EXx K0 ln0 K ln → FrX wsC K0 hp0 hp3045 → Ok K hp3045 → NSx K ln hp3045 gn → g0 ≤ gn → K qa900 = 1 → K qa901 = 11 → K qa902 = 8 → ((0 : Int) ≤ zi3043.toInt ∧ zi3043.toInt ≤ 131072) → ((1 : Int) ≤ zi3044.toInt ∧ zi3044.toInt ≤ 5) → lv_has ls 9 [(0, .ref qa900), (1, .ref qa901), (3, .int zi903), (5, .int zi3043), (6, .int zi3044)] → PW G cy K ln Ls A hp3045 H → va_S A s.heap H locs → W p l e ({ frames := 6, cells := 327680, slots := 4580352, locals := 150 } : Room) s m ([.ref qa900, .ref qa901, .ref qa902, .int zi903, .int zi904] : List Value).toArray below meth c H locs (gn - g0) (14 * (gn - g0)) Q (F0 m 86 ls []) := by
      intro n4046
      induction n4046 with
      | zero =>
        intro K ln Ls gn hp3045 zi3043 zi3044 H locs ls hm4049 hW gex gfx ok3046 pd3047 hga kd3048 kd3049 kd3050 bd3051 bd3052 hl hw hS
        exact absurd hm4049 (by have := bd3052; omega)
      | succ n4046 ih4047 =>
        intro K ln Ls gn hp3045 zi3043 zi3044 H locs ls hm4049 hW gex gfx ok3046 pd3047 hga kd3048 kd3049 kd3050 bd3051 bd3052 hl hw hS
        have hgn := NSx.bd pd3047
        refine lv_iload hx hb dX0_find_86 (lv_at hl 4 rfl) ?_
        refine lv_iconst (v := 4) hx hb dX0_find_88 (by decide) ?_
        refine lv_icmp_gt (tgt := 180) hx hb dX0_find_89 (by decide) (fun cn4050 => ?_) (fun cn4050 => ?_)
        · skip
          have bd4051 : (5 : Int) ≤ zi3044.toInt ∧ zi3044.toInt ≤ 5 := r_lt_y cn4050 bc_4 bd3052 (by decide) (by decide)
          exact jn4045 K ln Ls gn hp3045 _ _ ls hW gex gfx ok3046 pd3047 (by omega) kd3048 kd3049 kd3050 (lv_sub hl [] rfl) hw hS
        · skip
          have bd4052 : (1 : Int) ≤ zi3044.toInt ∧ zi3044.toInt ≤ 4 := r_le_x (Int32.not_lt.mp cn4050) bd3052 bc_4 (by decide) (by decide)
          refine lv_aload_n hx hb dX0_find_92 rfl (lv_at hl 0 rfl) ?_
          obtain ⟨zi4054, eq4053, bd4055⟩ := rd_1003 ok3046 kd3048
          refine p_get (ci := 0) (v := .int zi4054) (C := RX0) (T := TX0) (N := 8) hx hb hT iw_X0 hown hK hw hW kd3048 (by decide) rfl rfl 3 (by decide) eq4053 (hT _ tb_595) (fun _ h9 => h9) dX0_find_93 ?_
          refine lv_if_ne (tgt := 180) hx hb dX0_find_96 (by decide) (fun cn4056 => ?_) (fun cn4056 => ?_)
          · skip
            have tf4057 : (zi4054 : Int32).toInt ≠ (0 : Int32).toInt := fun e => cn4056 (Int32.toInt_inj.mp e)
            have := toi bc_0
            have bd4058 : (1 : Int) ≤ zi4054.toInt ∧ zi4054.toInt ≤ 4 := r_ne_lo cn4056 bd4055 (toi bc_0) (by decide) (by decide)
            exact jn4045 K ln Ls gn hp3045 _ _ ls hW gex gfx ok3046 pd3047 (by omega) kd3048 kd3049 kd3050 (lv_sub hl [] rfl) hw hS
          · skip
            have bd4059 : (0 : Int) ≤ zi4054.toInt ∧ zi4054.toInt ≤ 0 := r_eq_x cn4056 bd4055 bc_0 (by decide) (by decide)
            refine lv_aload_n hx hb dX0_find_99 rfl (lv_at hl 0 rfl) ?_
            obtain ⟨qa4061, eq4060, kd4062⟩ := rd_1000 ok3046 kd3048
            refine p_get (ci := 0) (v := .ref qa4061) (C := RX0) (T := TX0) (N := 8) hx hb hT iw_X0 hown hK hw hW kd3048 (by decide) rfl rfl 0 (by decide) eq4060 (hT _ tb_591) (fun _ h9 => h9) dX0_find_100 ?_
            obtain ⟨zi4064, eq4063, bd4065⟩ := rd_4006 ok3046 kd4062
            have nz4066 := (pd3047).sz kd4062 eq4063
            refine p_getN (ci := 3) (v := .int zi4064) (C := RX3) (T := TX3) (N := 7) hx hb hT iw_X3 hown hK hw hW kd4062 (by decide) rfl rfl 6 (by decide) eq4063 (hK.fl nw_400) (fun _ h9 => h9) dX0_find_103 ?_
            refine lv_istore (lv' := [(7, .int zi4064), (0, .ref qa900), (1, .ref qa901), (3, .int zi903), (5, .int zi3043), (6, .int zi3044)]) hx hb dX0_find_106 hl (by decide) rfl (fun ls hl => ?_)
            refine lv_iload hx hb dX0_find_108 (lv_at hl 4 rfl) ?_
            refine lv_istore (lv' := [(8, .int zi3043), (7, .int zi4064), (0, .ref qa900), (1, .ref qa901), (3, .int zi903), (5, .int zi3043), (6, .int zi3044)]) hx hb dX0_find_110 hl (by decide) rfl (fun ls hl => ?_)
            have jn4462 : ∀ (K ln : Nat → Nat) (Ls : List Nat) (gn : Nat) (hp4456 : Nat → Nat → Value)  (H : Heap) (locs : List Loc) (ls : Array Slot), SW K ln Ls → EXx K0 ln0 K ln → FrX wsC K0 hp0 hp4456 → Ok K hp4456 → NSx K ln hp4456 gn → g0 ≤ gn → K qa900 = 1 → K qa901 = 11 → K qa902 = 8 → lv_has ls 9 [(0, .ref qa900), (1, .ref qa901), (3, .int zi903), (6, .int zi3044), (7, .int zi4064)] → PW G cy K ln Ls A hp4456 H → va_S A s.heap H locs → W p l e ({ frames := 6, cells := 327680, slots := 4580352, locals := 150 } : Room) s m ([.ref qa900, .ref qa901, .ref qa902, .int zi903, .int zi904] : List Value).toArray below meth c H locs (gn - g0) (14 * (gn - g0)) Q (F0 m 170 ls []) := by
              intro K ln Ls gn hp4456 H locs ls hW gex gfx ok4457 pd4458 hga kd4459 kd4460 kd4461 hl hw hS
              have hgn := NSx.bd pd4458
              refine lv_iload hx hb dX0_find_170 (lv_at hl 4 rfl) ?_
              refine lv_istore (lv' := [(5, .int zi4064), (0, .ref qa900), (1, .ref qa901), (3, .int zi903), (6, .int zi3044), (7, .int zi4064)]) hx hb dX0_find_172 hl (by decide) rfl (fun ls hl => ?_)
              obtain ⟨zi4463, ea4464⟩ : ∃ z : Int32, z = zi3044 + 1 := ⟨_, rfl⟩
              have bd4465 : (2 : Int) ≤ zi4463.toInt ∧ zi4463.toInt ≤ 5 := b_iadd ea4464 bd4052 bc_1 (by decide) (by decide) (by decide) (by decide)
              have qe4466 : zi4463.toInt = (zi3044 : Int32).toInt + (1 : Int32).toInt := e_iadd ea4464 bd4052 bc_1 (by decide) (by decide)
              have qe4467 : zi4463.toInt = zi3044.toInt + 1 := by have ha : (1 : Int32).toInt = 1 := (by decide); rw [ha] at qe4466; exact qe4466
              refine lv_iinc (v := zi4463) (lv' := [(6, .int zi4463), (5, .int zi4064), (0, .ref qa900), (1, .ref qa901), (3, .int zi903), (7, .int zi4064)]) hx hb dX0_find_174 hl (k := 4) rfl ea4464.symm (by decide) rfl (fun ls hl => ?_)
              refine lv_goto (tgt := 86) hx hb dX0_find_177 (by decide) ?_
              exact ih4047 K ln Ls gn hp4456 zi4064 zi4463 _ _ ls (by have := hm4049; have := qe4467; omega) hW gex gfx ok4457 pd4458 (by omega) kd4459 kd4460 kd4461 (b_wid2 bd4065 (by decide) (by decide)) (b_wid2 bd4465 (by decide) (by decide)) (lv_sub hl [2, 3, 4, 1, 0] rfl) hw hS
            have lp4470 : ∀ (n4468 : Nat) (K ln : Nat → Nat) (Ls : List Nat) (gn : Nat) (hp4306 : Nat → Nat → Value) (zi4305 : Int32) (H : Heap) (locs : List Loc) (ls : Array Slot), 131072 - zi4305.toInt < (n4468 : Int) → SW K ln Ls → EXx K0 ln0 K ln → FrX wsC K0 hp0 hp4306 → Ok K hp4306 → NSx K ln hp4306 gn → g0 ≤ gn → K qa900 = 1 → K qa901 = 11 → K qa902 = 8 → ((0 : Int) ≤ zi4305.toInt ∧ zi4305.toInt ≤ 131072) → ((zi4064 : Int32).toInt ≤ (gn : Nat)) → lv_has ls 9 [(0, .ref qa900), (1, .ref qa901), (3, .int zi903), (6, .int zi3044), (7, .int zi4064), (8, .int zi4305)] → PW G cy K ln Ls A hp4306 H → va_S A s.heap H locs → W p l e ({ frames := 6, cells := 327680, slots := 4580352, locals := 150 } : Room) s m ([.ref qa900, .ref qa901, .ref qa902, .int zi903, .int zi904] : List Value).toArray below meth c H locs (gn - g0) (14 * (gn - g0)) Q (F0 m 112 ls []) := by
              intro n4468
              induction n4468 with
              | zero =>
                intro K ln Ls gn hp4306 zi4305 H locs ls hm4471 hW gex gfx ok4307 pd4308 hga kd4309 kd4310 kd4311 bd4313 rq4312 hl hw hS
                exact absurd hm4471 (by have := bd4313; omega)
              | succ n4468 ih4469 =>
                intro K ln Ls gn hp4306 zi4305 H locs ls hm4471 hW gex gfx ok4307 pd4308 hga kd4309 kd4310 kd4311 bd4313 rq4312 hl hw hS
                have hgn := NSx.bd pd4308
                refine lv_iload hx hb dX0_find_112 (lv_at hl 5 rfl) ?_
                refine lv_iload hx hb dX0_find_114 (lv_at hl 4 rfl) ?_
                refine lv_icmp_ge (tgt := 170) hx hb dX0_find_116 (by decide) (fun cn4472 => ?_) (fun cn4472 => ?_)
                · skip
                  have tf4473 : zi4064.toInt ≤ zi4305.toInt := (fa_le _ _).mp cn4472
                  exact jn4462 K ln Ls gn hp4306 _ _ ls hW gex gfx ok4307 pd4308 (by omega) kd4309 kd4310 kd4311 (lv_sub hl [0, 1, 2, 3, 4] rfl) hw hS
                · skip
                  have tf4474 : zi4305.toInt < zi4064.toInt := (fa_lt _ _).mp (Int32.not_le.mp cn4472)
                  have bd4475 : (0 : Int) ≤ zi4305.toInt ∧ zi4305.toInt ≤ 131071 := r_lt_x (Int32.not_le.mp cn4472) bd4313 bd4065 (by decide) (by decide)
                  have bd4476 : (1 : Int) ≤ zi4064.toInt ∧ zi4064.toInt ≤ 131072 := r_lt_y (Int32.not_le.mp cn4472) bd4313 bd4065 (by decide) (by decide)
                  refine lv_aload_n hx hb dX0_find_119 rfl (lv_at hl 0 rfl) ?_
                  obtain ⟨zi4478, eq4477, bd4479⟩ := rd_1003 ok4307 kd4309
                  refine p_get (ci := 0) (v := .int zi4478) (C := RX0) (T := TX0) (N := 8) hx hb hT iw_X0 hown hK hw hW kd4309 (by decide) rfl rfl 3 (by decide) eq4477 (hT _ tb_595) (fun _ h9 => h9) dX0_find_120 ?_
                  refine lv_if_ne (tgt := 170) hx hb dX0_find_123 (by decide) (fun cn4480 => ?_) (fun cn4480 => ?_)
                  · skip
                    have tf4481 : (zi4478 : Int32).toInt ≠ (0 : Int32).toInt := fun e => cn4480 (Int32.toInt_inj.mp e)
                    have := toi bc_0
                    have bd4482 : (1 : Int) ≤ zi4478.toInt ∧ zi4478.toInt ≤ 4 := r_ne_lo cn4480 bd4479 (toi bc_0) (by decide) (by decide)
                    exact jn4462 K ln Ls gn hp4306 _ _ ls hW gex gfx ok4307 pd4308 (by omega) kd4309 kd4310 kd4311 (lv_sub hl [0, 1, 2, 3, 4] rfl) hw hS
                  · skip
                    have bd4483 : (0 : Int) ≤ zi4478.toInt ∧ zi4478.toInt ≤ 0 := r_eq_x cn4480 bd4479 bc_0 (by decide) (by decide)
                    refine lv_aload_n hx hb dX0_find_126 rfl (lv_at hl 1 rfl) ?_
                    obtain ⟨qa4485, eq4484, kd4486⟩ := rd_11016 ok4307 kd4310
                    refine p_getN (ci := 10) (v := .ref qa4485) (C := RX10) (T := TX10) (N := 20) hx hb hT iw_X10 hown hK hw hW kd4310 (by decide) rfl rfl 16 (by decide) eq4484 (hK.fl nw_131) (fun _ h9 => h9) dX0_find_127 ?_
                    refine lv_iload_n hx hb dX0_find_130 rfl (lv_at hl 2 rfl) ?_
                    obtain ⟨zi4488, eq4487⟩ := rd_54000 ok4307 kd4486 ((zi903 : Int32).toNatClampNeg)
                    refine p_iald (v := zi4488) hx hb hK hw hW kd4486 (by decide) rfl (hW.len kd4486 (n := 8) rfl (by decide)) (vp_b bd903 (by decide) (by decide)) eq4487 dX0_find_131 ?_
                    refine lv_aload_n hx hb dX0_find_132 rfl (lv_at hl 0 rfl) ?_
                    obtain ⟨qa4490, eq4489, kd4491⟩ := rd_1000 ok4307 kd4309
                    refine p_get (ci := 0) (v := .ref qa4490) (C := RX0) (T := TX0) (N := 8) hx hb hT iw_X0 hown hK hw hW kd4309 (by decide) rfl rfl 0 (by decide) eq4489 (hT _ tb_591) (fun _ h9 => h9) dX0_find_133 ?_
                    obtain ⟨qa4493, eq4492, kd4494⟩ := rd_4001 ok4307 kd4491
                    have ln4495 := (pd4308).ref kd4491 (by decide) eq4492
                    refine p_getN (ci := 3) (v := .ref qa4493) (C := RX3) (T := TX3) (N := 7) hx hb hT iw_X3 hown hK hw hW kd4491 (by decide) rfl rfl 1 (by decide) eq4492 (hK.fl nw_392) (fun _ h9 => h9) dX0_find_136 ?_
                    refine lv_iload hx hb dX0_find_139 (lv_at hl 5 rfl) ?_
                    obtain ⟨zi4497, eq4496⟩ := rd_29000 ok4307 kd4494 ((zi4305 : Int32).toNatClampNeg)
                    refine p_iald (v := zi4497) hx hb hK hw hW kd4494 (by decide) rfl ln4495 (vp_bv (by omega) (by omega)) eq4496 dX0_find_141 ?_
                    refine lv_isub hx hb dX0_find_142 (lv_topi (fun zi4498 ea4499 => ?_))
                    refine lv_iconst (v := 4) hx hb dX0_find_143 (by decide) ?_
                    refine lv_iload hx hb dX0_find_144 (lv_at hl 3 rfl) ?_
                    refine lv_isub hx hb dX0_find_146 (lv_topi (fun zi4500 ea4501 => ?_))
                    have bd4502 : (0 : Int) ≤ zi4500.toInt ∧ zi4500.toInt ≤ 3 := b_isub ea4501 bc_4 bd4052 (by decide) (by decide) (by decide) (by decide)
                    have qe4503 : zi4500.toInt = (4 : Int32).toInt - (zi3044 : Int32).toInt := e_isub ea4501 bc_4 bd4052 (by decide) (by decide)
                    have qe4504 : zi4500.toInt = 4 - zi3044.toInt := by have ha : (4 : Int32).toInt = 4 := (by decide); rw [ha] at qe4503; exact qe4503
                    refine lv_iconst (v := 1) hx hb dX0_find_147 (by decide) ?_
                    refine lv_iadd hx hb dX0_find_148 (lv_topi (fun zi4505 ea4506 => ?_))
                    have bd4507 : (1 : Int) ≤ zi4505.toInt ∧ zi4505.toInt ≤ 4 := b_iadd ea4506 bd4502 bc_1 (by decide) (by decide) (by decide) (by decide)
                    have qe4508 : zi4505.toInt = (zi4500 : Int32).toInt + (1 : Int32).toInt := e_iadd ea4506 bd4502 bc_1 (by decide) (by decide)
                    have qe4509 : zi4505.toInt = zi4500.toInt + 1 := by have ha : (1 : Int32).toInt = 1 := (by decide); rw [ha] at qe4508; exact qe4508
                    refine kq_i hw hS hA (va_runS (As := [.int zi4498, .int zi4505]) (rest := []) ⟨hx, hb, hml, hown, hT⟩ (cX0_canCome_0 l G cy ev K ln Ls hW _ hp4306 ok4307 zi4498 zi4505) (va_cwS 2 hT (good_S tb_1187 tb_1185 tb_1186 tb_120) rfl rfl rfl (by decide +kernel) ⟨Nat.le_of_ble_eq_true rfl, Nat.le_of_ble_eq_true rfl⟩) (PB2.preS hK hE hS hA hw) rfl rfl hl.1 rfl (lv_room (Nat.le_of_ble_eq_true rfl)) dX0_find_149 ⟨(show (gn - g0) + 0 ≤ 327680 from by omega), (show (14 * (gn - g0)) + 0 ≤ 4580352 from by omega)⟩) (fun zi4514 hp4510 H locs hq4513 hw hS => ?_)
                    obtain ⟨ok4511, F4512, bd4515⟩ := hq4513
                    obtain rfl : hp4306 = hp4510 := (Fr.nil F4512).symm
                    have hw : PW G cy K ln Ls A hp4306 H := hw
                    refine lv_if_eq (tgt := 164) hx hb dX0_find_152 (by decide) (fun cn4516 => ?_) (fun cn4516 => ?_)
                    · skip
                      have bd4517 : (0 : Int) ≤ zi4514.toInt ∧ zi4514.toInt ≤ 0 := r_eq_x cn4516 bd4515 bc_0 (by decide) (by decide)
                      obtain ⟨zi4518, ea4519⟩ : ∃ z : Int32, z = zi4305 + 1 := ⟨_, rfl⟩
                      have bd4520 : (1 : Int) ≤ zi4518.toInt ∧ zi4518.toInt ≤ 131072 := b_iadd ea4519 bd4475 bc_1 (by decide) (by decide) (by decide) (by decide)
                      have qe4521 : zi4518.toInt = (zi4305 : Int32).toInt + (1 : Int32).toInt := e_iadd ea4519 bd4475 bc_1 (by decide) (by decide)
                      have qe4522 : zi4518.toInt = zi4305.toInt + 1 := by have ha : (1 : Int32).toInt = 1 := (by decide); rw [ha] at qe4521; exact qe4521
                      refine lv_iinc (v := zi4518) (lv' := [(8, .int zi4518), (0, .ref qa900), (1, .ref qa901), (3, .int zi903), (6, .int zi3044), (7, .int zi4064)]) hx hb dX0_find_164 hl (k := 5) rfl ea4519.symm (by decide) rfl (fun ls hl => ?_)
                      refine lv_goto (tgt := 112) hx hb dX0_find_167 (by decide) ?_
                      exact ih4469 K ln Ls gn hp4306 zi4518 _ _ ls (by have := hm4471; have := qe4522; omega) hW gex gfx ok4307 pd4308 (by omega) kd4309 kd4310 kd4311 (b_wid2 bd4520 (by decide) (by decide)) (by omega) (lv_sub hl [1, 2, 3, 4, 5, 0] rfl) hw hS
                    · skip
                      have tf4523 : (zi4514 : Int32).toInt ≠ (0 : Int32).toInt := fun e => cn4516 (Int32.toInt_inj.mp e)
                      have := toi bc_0
                      have bd4524 : (1 : Int) ≤ zi4514.toInt ∧ zi4514.toInt ≤ 1 := r_ne_lo cn4516 bd4515 (toi bc_0) (by decide) (by decide)
                      refine lv_aload_n hx hb dX0_find_155 rfl (lv_at hl 0 rfl) ?_
                      refine lv_aload_n hx hb dX0_find_156 rfl (lv_at hl 1 rfl) ?_
                      refine lv_iload hx hb dX0_find_157 (lv_at hl 5 rfl) ?_
                      refine lv_iload hx hb dX0_find_159 (lv_at hl 3 rfl) ?_
                      have gf4532 : FrX wsC K0 hp0 hp4306 := gfx
                      refine kg_v hw hS hA (va_runV (As := [.ref qa901, .int zi4305, .int zi3044]) (rest := []) ⟨hx, hb, hml, hown, hT⟩ (Met.szx (cX0_expand_0 l G cy ev K ln Ls hW _ hp4306 ok4307 qa900 qa901 zi4305 zi3044 gn kd4309 kd4310 (b_wid2 bd4475 (by decide) (by decide)) (b_wid2 bd4052 (by decide) (by decide)) pd4308 (by omega))) (cwV 3 hT (good_V tb_1191 tb_1188 tb_1190 tb_36 tb_120) rfl rfl rfl (by decide +kernel) ⟨Nat.le_of_ble_eq_true rfl, Nat.le_of_ble_eq_true rfl⟩) (pool_preV (ci := 0) hK hE hS hA hw hW kd4309 (by decide) rfl) rfl rfl hl.1 rfl (lv_room (Nat.le_of_ble_eq_true rfl)) dX0_find_161 ⟨(show (gn - g0) + 196608 ≤ 327680 from by omega), (show (14 * (gn - g0)) + 2748928 ≤ 4580352 from by omega)⟩) (fun u gn H locs hq4525 hw hS => ?_)
                      obtain ⟨K, ln, Ls, hp4526⟩ := u
                      obtain ⟨ex4528, hW, ok4527, fx4529, pd4530, hle4531⟩ := hq4525
                      have ex4528 : EXx _ _ K ln := ex4528
                      have hW : SW K ln Ls := hW
                      have ok4527 : Ok K hp4526 := ok4527
                      have fx4529 : FrX _ _ _ hp4526 := fx4529
                      have pd4530 : NSx K ln hp4526 gn := pd4530
                      have hle4531 : _ ≤ gn := hle4531
                      have hw : PW G cy K ln Ls A hp4526 H := hw
                      have gfx : FrX wsC K0 hp0 hp4526 := FrX.tr gf4532 gex fx4529 (by decide +kernel)
                      have gex := EXx.tr gex ex4528
                      have kd4535 := EXx.kd ex4528 kd4311 (by decide)
                      have kd4536 := EXx.kd ex4528 kd4310 (by decide)
                      have kd4537 := EXx.kd ex4528 kd4309 (by decide)
                      (try clear kd4309); (try clear kd4310); (try clear kd4311); (try clear kd4486); (try clear kd4491); (try clear kd4494); (try clear ln4495)
                      have hgn := NSx.bd pd4530
                      refine W.widen (k := gn - g0) (n := 14 * (gn - g0)) (by omega) (by omega) ?_
                      have hga : g0 ≤ gn := by omega
                      obtain ⟨zi4538, ea4539⟩ : ∃ z : Int32, z = zi4305 + 1 := ⟨_, rfl⟩
                      have bd4540 : (1 : Int) ≤ zi4538.toInt ∧ zi4538.toInt ≤ 131072 := b_iadd ea4539 bd4475 bc_1 (by decide) (by decide) (by decide) (by decide)
                      have qe4541 : zi4538.toInt = (zi4305 : Int32).toInt + (1 : Int32).toInt := e_iadd ea4539 bd4475 bc_1 (by decide) (by decide)
                      have qe4542 : zi4538.toInt = zi4305.toInt + 1 := by have ha : (1 : Int32).toInt = 1 := (by decide); rw [ha] at qe4541; exact qe4541
                      refine lv_iinc (v := zi4538) (lv' := [(8, .int zi4538), (0, .ref qa900), (1, .ref qa901), (3, .int zi903), (6, .int zi3044), (7, .int zi4064)]) hx hb dX0_find_164 hl (k := 5) rfl ea4539.symm (by decide) rfl (fun ls hl => ?_)
                      refine lv_goto (tgt := 112) hx hb dX0_find_167 (by decide) ?_
                      exact ih4469 K ln Ls gn hp4526 zi4538 _ _ ls (by have := hm4471; have := qe4542; omega) hW gex gfx ok4527 pd4530 (by omega) kd4537 kd4536 kd4535 (b_wid2 bd4540 (by decide) (by decide)) (by omega) (lv_sub hl [1, 2, 3, 4, 5, 0] rfl) hw hS
            exact lp4470 _ K ln Ls gn hp3045 zi3043 _ _ ls (lp_in _) hW gex gfx ok3046 pd3047 (by omega) kd3048 kd3049 kd3050 (b_wid2 bd3051 (by decide) (by decide)) (by omega) (lv_sub hl [2, 3, 4, 6, 1, 0] rfl) hw hS
    exact lp4048 _ K ln Ls gn hp46 0 1 _ _ ls (lp_in _) hW gex gfx ok47 pd50 (by omega) kd57 kd56 kd55 (b_wid2 bc_0 (by decide) (by decide)) (b_wid2 bc_1 (by decide) (by decide)) (lv_sub hl [2, 3, 5, 1, 0] rfl) hw hS
  · skip
    have tf4543 : (zi2 : Int32).toInt ≠ (0 : Int32).toInt := fun e => cn4 (Int32.toInt_inj.mp e)
    have := toi bc_0
    have bd4544 : (1 : Int) ≤ zi2.toInt ∧ zi2.toInt ≤ 1 := r_ne_lo cn4 bd3 (toi bc_0) (by decide) (by decide)
    refine lv_aload_n hx hb dX0_find_7 rfl (lv_at hl 0 rfl) ?_
    obtain ⟨zi4546, eq4545⟩ := rd_1006 ok1 kd900
    refine p_get (ci := 0) (v := .int zi4546) (C := RX0) (T := TX0) (N := 8) hx hb hT iw_X0 hown hK hw hW kd900 (by decide) rfl rfl 6 (by decide) eq4545 (hT _ tb_601) (fun _ h9 => h9) dX0_find_8 ?_
    refine lv_iload_n hx hb dX0_find_11 rfl (lv_at hl 3 rfl) ?_
    refine lv_icmp_ne (tgt := 25) hx hb dX0_find_12 (by decide) (fun cn4547 => ?_) (fun cn4547 => ?_)
    · skip
      have tf4548 : (zi4546 : Int32).toInt ≠ (zi903 : Int32).toInt := fun e => cn4547 (Int32.toInt_inj.mp e)
      refine lv_aload_n hx hb dX0_find_25 rfl (lv_at hl 0 rfl) ?_
      refine lv_iconst (v := 1) hx hb dX0_find_26 (by decide) ?_
      refine p_put (ci := 0) (v := .int 1) (ty := .boolean) (C := RX0) (T := TX0) (N := 8) hx hb hT iw_X0 tyX0 tyX0_ok nmX0 hown hK hw hS hW kd900 (by decide) rfl rfl 5 (by decide) (hT _ tb_599) (fun _ h9 => h9) rfl (by decide +kernel) (nz_n bc_1 (by decide) (by decide)) (nz_f bc_1 (by decide) (by decide)) dX0_find_27 (fun hp4549 eh4550 H locs hw hS => ?_)
      have ok4551 := wr_1005 bc_1 (by decide) (by decide) ok1 kd900 eh4550
      refine lv_aload_n hx hb dX0_find_30 rfl (lv_at hl 0 rfl) ?_
      refine lv_iload_n hx hb dX0_find_31 rfl (lv_at hl 3 rfl) ?_
      refine p_put (ci := 0) (v := .int zi903) (ty := .int) (C := RX0) (T := TX0) (N := 8) hx hb hT iw_X0 tyX0 tyX0_ok nmX0 hown hK hw hS hW kd900 (by decide) rfl rfl 6 (by decide) (hT _ tb_601) (fun _ h9 => h9) rfl (by decide +kernel) rfl rfl dX0_find_32 (fun hp4552 eh4553 H locs hw hS => ?_)
      have ok4554 := wr_1006 ok4551 kd900 eh4553
      refine lv_aload_n hx hb dX0_find_35 rfl (lv_at hl 0 rfl) ?_
      refine lv_iload hx hb dX0_find_36 (lv_at hl 4 rfl) ?_
      refine p_put (ci := 0) (v := .int zi904) (ty := .int) (C := RX0) (T := TX0) (N := 8) hx hb hT iw_X0 tyX0 tyX0_ok nmX0 hown hK hw hS hW kd900 (by decide) rfl rfl 7 (by decide) (hT _ tb_602) (fun _ h9 => h9) rfl (by decide +kernel) rfl rfl dX0_find_38 (fun hp4555 eh4556 H locs hw hS => ?_)
      have ok4557 := wr_1007 ok4554 kd900 eh4556
      refine lv_aload_n hx hb dX0_find_41 rfl (lv_at hl 0 rfl) ?_
      refine lv_iconst (v := 0) hx hb dX0_find_42 (by decide) ?_
      refine p_put (ci := 0) (v := .int 0) (ty := .int) (C := RX0) (T := TX0) (N := 8) hx hb hT iw_X0 tyX0 tyX0_ok nmX0 hown hK hw hS hW kd900 (by decide) rfl rfl 3 (by decide) (hT _ tb_595) (fun _ h9 => h9) rfl (by decide +kernel) rfl rfl dX0_find_43 (fun hp4558 eh4559 H locs hw hS => ?_)
      have ok4560 := wr_1003 bc_0 (by decide) (by decide) ok4557 kd900 eh4559
      refine lv_aload_n hx hb dX0_find_46 rfl (lv_at hl 0 rfl) ?_
      refine lv_iconst (v := 0) hx hb dX0_find_47 (by decide) ?_
      refine p_put (ci := 0) (v := .int 0) (ty := .int) (C := RX0) (T := TX0) (N := 8) hx hb hT iw_X0 tyX0 tyX0_ok nmX0 hown hK hw hS hW kd900 (by decide) rfl rfl 4 (by decide) (hT _ tb_597) (fun _ h9 => h9) rfl (by decide +kernel) rfl rfl dX0_find_48 (fun hp4561 eh4562 H locs hw hS => ?_)
      have ok4563 := wr_1004 ok4560 kd900 eh4562
      refine lv_aload_n hx hb dX0_find_51 rfl (lv_at hl 0 rfl) ?_
      obtain ⟨qa4565, eq4564, kd4566⟩ := rd_1000 ok4563 kd900
      refine p_get (ci := 0) (v := .ref qa4565) (C := RX0) (T := TX0) (N := 8) hx hb hT iw_X0 hown hK hw hW kd900 (by decide) rfl rfl 0 (by decide) eq4564 (hT _ tb_591) (fun _ h9 => h9) dX0_find_52 ?_
      have pd4567 : NSx K ln hp4561 gn := NSx_fr ok1  (show Fr [1003, 1004, 1005, 1006, 1007] K hp0 hp4561 from (Fr.put (cq := 1004) (Fr.put (cq := 1003) (Fr.put (cq := 1007) (Fr.put (cq := 1006) (Fr.put (cq := 1005) (Fr.rf) eh4550 kd900 (cd_o (by decide)) (by decide)) eh4553 kd900 (cd_o (by decide)) (by decide)) eh4556 kd900 (cd_o (by decide)) (by decide)) eh4559 kd900 (cd_o (by decide)) (by decide)) eh4562 kd900 (cd_o (by decide)) (by decide))) (by decide) pdNS
      refine kq_v hw hS hA (va_runV (As := []) (rest := []) ⟨hx, hb, hml, hown, hT⟩ (cX3_clear_0 l G cy ev K ln Ls hW _ hp4561 ok4563 qa4565 gn kd4566 pd4567) (cwV 0 hT (good_V tb_1136 tb_1133 tb_1134 tb_1135 tb_117) rfl rfl rfl (by decide +kernel) ⟨Nat.le_of_ble_eq_true rfl, Nat.le_of_ble_eq_true rfl⟩) (pool_preV (ci := 3) hK hE hS hA hw hW kd4566 (by decide) rfl) rfl rfl hl.1 rfl (lv_room (Nat.le_of_ble_eq_true rfl)) dX0_find_55 ⟨(show (gn - g0) + 0 ≤ 327680 from by omega), (show (14 * (gn - g0)) + 0 ≤ 4580352 from by omega)⟩) (fun hp4568 H locs hq4571 hw hS => ?_)
      obtain ⟨ok4569, F4570, ⟨zi4573, eq4574, bd4575⟩, xq4576⟩ := hq4571
      have hw : PW G cy K ln Ls A hp4568 H := hw
      refine lv_aload_n hx hb dX0_find_58 rfl (lv_at hl 0 rfl) ?_
      obtain ⟨qa4578, eq4577, kd4579⟩ := rd_1001 ok4569 kd900
      refine p_get (ci := 0) (v := .ref qa4578) (C := RX0) (T := TX0) (N := 8) hx hb hT iw_X0 hown hK hw hW kd900 (by decide) rfl rfl 1 (by decide) eq4577 (hT _ tb_592) (fun _ h9 => h9) dX0_find_59 ?_
      refine lv_aload_n hx hb dX0_find_62 rfl (lv_at hl 2 rfl) ?_
      refine kq_v hw hS hA (va_runV (As := [.ref qa902]) (rest := []) ⟨hx, hb, hml, hown, hT⟩ (cX7_copyMoment_0 l G cy ev K ln Ls hW _ hp4568 ok4569 qa4578 qa902 kd4579 kd902) (cwV 1 hT (good_V tb_1051 tb_1138 tb_1049 tb_1050 tb_115) rfl rfl rfl (by decide +kernel) ⟨Nat.le_of_ble_eq_true rfl, Nat.le_of_ble_eq_true rfl⟩) (pool_preV (ci := 7) hK hE hS hA hw hW kd4579 (by decide) rfl) rfl rfl hl.1 rfl (lv_room (Nat.le_of_ble_eq_true rfl)) dX0_find_63 ⟨(show (gn - g0) + 0 ≤ 327680 from by omega), (show (14 * (gn - g0)) + 0 ≤ 4580352 from by omega)⟩) (fun hp4580 H locs hq4583 hw hS => ?_)
      obtain ⟨ok4581, F4582⟩ := hq4583
      have hw : PW G cy K ln Ls A hp4580 H := hw
      refine lv_aload_n hx hb dX0_find_66 rfl (lv_at hl 0 rfl) ?_
      have eq4585 : hp4580 qa900 0 = .ref qa4565 := Eq.trans (Fr.at (cq := 1000) F4582 kd900 (cd_o (by decide)) (by decide)) (Eq.trans (Fr.at (cq := 1000) F4570 kd900 (cd_o (by decide)) (by decide)) eq4564)
      refine p_get (ci := 0) (v := .ref qa4565) (C := RX0) (T := TX0) (N := 8) hx hb hT iw_X0 hown hK hw hW kd900 (by decide) rfl rfl 0 (by decide) eq4585 (hT _ tb_591) (fun _ h9 => h9) dX0_find_67 ?_
      refine lv_aload_n hx hb dX0_find_70 rfl (lv_at hl 0 rfl) ?_
      have eq4586 : hp4580 qa900 1 = .ref qa4578 := Eq.trans (Fr.at (cq := 1001) F4582 kd900 (cd_o (by decide)) (by decide)) eq4577
      refine p_get (ci := 0) (v := .ref qa4578) (C := RX0) (T := TX0) (N := 8) hx hb hT iw_X0 hown hK hw hW kd900 (by decide) rfl rfl 1 (by decide) eq4586 (hT _ tb_592) (fun _ h9 => h9) dX0_find_71 ?_
      refine lv_iconst (v := 0) hx hb dX0_find_74 (by decide) ?_
      refine lv_lconst (v := 1) hx hb dX0_find_75 (by decide) ?_
      refine lv_iconst (v := 0) hx hb dX0_find_76 (by decide) ?_
      have pd4587 : NSx K ln hp4580 gn := NSx_fr ok4569  (show Fr [8000, 8001, 8002, 8003, 8004, 8005] K hp4568 hp4580 from (Fr.tr (Fr.rf) F4582 (by decide))) (by decide) xq4576
      have gf4595 : FrX wsC K0 hp0 hp4580 := (FrX.tr gfx gex (FrX.of (show Fr [1003, 1004, 1005, 1006, 1007, 4006, 8000, 8001, 8002, 8003, 8004, 8005, 33000] K hp0 hp4580 from (Fr.tr (Fr.tr (Fr.put (cq := 1004) (Fr.put (cq := 1003) (Fr.put (cq := 1007) (Fr.put (cq := 1006) (Fr.put (cq := 1005) (Fr.rf) eh4550 kd900 (cd_o (by decide)) (by decide)) eh4553 kd900 (cd_o (by decide)) (by decide)) eh4556 kd900 (cd_o (by decide)) (by decide)) eh4559 kd900 (cd_o (by decide)) (by decide)) eh4562 kd900 (cd_o (by decide)) (by decide)) F4570 (by decide)) F4582 (by decide)))) (by decide +kernel))
      refine kg_v hw hS hA (va_runV (As := [.ref qa4578, .int 0, .long 1, .int 0]) (rest := []) ⟨hx, hb, hml, hown, hT⟩ (Met.szx (cX3_add_vG_0 l G cy ev K ln Ls hW _ hp4580 ok4581 qa4565 qa4578 0 1 0 gn kd4566 kd4579 pd4587)) (cwV 4 hT (good_V tb_1142 tb_1139 tb_1140 tb_1141 tb_117) rfl rfl rfl (by decide +kernel) ⟨Nat.le_of_ble_eq_true rfl, Nat.le_of_ble_eq_true rfl⟩) (pool_preV (ci := 3) hK hE hS hA hw hW kd4566 (by decide) rfl) rfl rfl hl.1 rfl (lv_room (Nat.le_of_ble_eq_true rfl)) dX0_find_77 ⟨(show (gn - g0) + 65536 ≤ 327680 from by omega), (show (14 * (gn - g0)) + 917504 ≤ 4580352 from by omega)⟩) (fun u gn H locs hq4588 hw hS => ?_)
      obtain ⟨K, ln, Ls, hp4589⟩ := u
      obtain ⟨ex4591, hW, ok4590, fx4592, pd4593, hle4594⟩ := hq4588
      have ex4591 : EXx _ _ K ln := ex4591
      have hW : SW K ln Ls := hW
      have ok4590 : Ok K hp4589 := ok4590
      have fx4592 : FrX _ _ _ hp4589 := fx4592
      have pd4593 : NSx K ln hp4589 gn := pd4593
      have hle4594 : _ ≤ gn := hle4594
      have hw : PW G cy K ln Ls A hp4589 H := hw
      have gfx : FrX wsC K0 hp0 hp4589 := FrX.tr gf4595 gex fx4592 (by decide +kernel)
      have gex := EXx.tr gex ex4591
      have kd4598 := EXx.kd ex4591 kd902 (by decide)
      have kd4599 := EXx.kd ex4591 kd901 (by decide)
      have kd4600 := EXx.kd ex4591 kd900 (by decide)
      (try clear kd900); (try clear kd901); (try clear kd902); (try clear kd4566); (try clear kd4579)
      have hgn := NSx.bd pd4593
      refine W.widen (k := gn - g0) (n := 14 * (gn - g0)) (by omega) (by omega) ?_
      have hga : g0 ≤ gn := by omega
      refine lv_iconst (v := 0) hx hb dX0_find_80 (by decide) ?_
      refine lv_istore (lv' := [(5, .int 0), (0, .ref qa900), (1, .ref qa901), (2, .ref qa902), (3, .int zi903), (4, .int zi904)]) hx hb dX0_find_81 hl (by decide) rfl (fun ls hl => ?_)
      refine lv_iconst (v := 1) hx hb dX0_find_83 (by decide) ?_
      refine lv_istore (lv' := [(6, .int 1), (5, .int 0), (0, .ref qa900), (1, .ref qa901), (2, .ref qa902), (3, .int zi903), (4, .int zi904)]) hx hb dX0_find_84 hl (by decide) rfl (fun ls hl => ?_)
      have jn8588 : ∀ (K ln : Nat → Nat) (Ls : List Nat) (gn : Nat) (hp8582 : Nat → Nat → Value)  (H : Heap) (locs : List Loc) (ls : Array Slot), SW K ln Ls → EXx K0 ln0 K ln → FrX wsC K0 hp0 hp8582 → Ok K hp8582 → NSx K ln hp8582 gn → g0 ≤ gn → K qa900 = 1 → K qa901 = 11 → K qa902 = 8 → lv_has ls 9 [] → PW G cy K ln Ls A hp8582 H → va_S A s.heap H locs → W p l e ({ frames := 6, cells := 327680, slots := 4580352, locals := 150 } : Room) s m ([.ref qa900, .ref qa901, .ref qa902, .int zi903, .int zi904] : List Value).toArray below meth c H locs (gn - g0) (14 * (gn - g0)) Q (F0 m 180 ls []) := by
        intro K ln Ls gn hp8582 H locs ls hW gex gfx ok8583 pd8584 hga kd8585 kd8586 kd8587 hl hw hS
        have hgn := NSx.bd pd8584
        rw [hQ]
        exact kgz_v (n := g0) hx hb hr hlocks hS (((K, ln, Ls, hp8582), gn) : GU × Nat) hw ⟨gex, hW, ok8583, gfx, pd8584, (by omega)⟩ (show (gn - g0) ≤ gn - g0 from by omega) (show (14 * (gn - g0)) ≤ 14 * (gn - g0) from by omega) (show (gn - g0) ≤ 327680 from by omega) (show (14 * (gn - g0)) ≤ 4580352 from by omega) dX0_find_180
      have lp8591 : ∀ (n8589 : Nat) (K ln : Nat → Nat) (Ls : List Nat) (gn : Nat) (hp7588 : Nat → Nat → Value) (zi7586 : Int32) (zi7587 : Int32) (H : Heap) (locs : List Loc) (ls : Array Slot), 5 - zi7587.toInt < (n8589 : Int) → SW K ln Ls → EXx K0 ln0 K ln → FrX wsC K0 hp0 hp7588 → Ok K hp7588 → NSx K ln hp7588 gn → g0 ≤ gn → K qa900 = 1 → K qa901 = 11 → K qa902 = 8 → ((0 : Int) ≤ zi7586.toInt ∧ zi7586.toInt ≤ 131072) → ((1 : Int) ≤ zi7587.toInt ∧ zi7587.toInt ≤ 5) → lv_has ls 9 [(0, .ref qa900), (1, .ref qa901), (3, .int zi903), (5, .int zi7586), (6, .int zi7587)] → PW G cy K ln Ls A hp7588 H → va_S A s.heap H locs → W p l e ({ frames := 6, cells := 327680, slots := 4580352, locals := 150 } : Room) s m ([.ref qa900, .ref qa901, .ref qa902, .int zi903, .int zi904] : List Value).toArray below meth c H locs (gn - g0) (14 * (gn - g0)) Q (F0 m 86 ls []) := by
        intro n8589
        induction n8589 with
        | zero =>
          intro K ln Ls gn hp7588 zi7586 zi7587 H locs ls hm8592 hW gex gfx ok7589 pd7590 hga kd7591 kd7592 kd7593 bd7594 bd7595 hl hw hS
          exact absurd hm8592 (by have := bd7595; omega)
        | succ n8589 ih8590 =>
          intro K ln Ls gn hp7588 zi7586 zi7587 H locs ls hm8592 hW gex gfx ok7589 pd7590 hga kd7591 kd7592 kd7593 bd7594 bd7595 hl hw hS
          have hgn := NSx.bd pd7590
          refine lv_iload hx hb dX0_find_86 (lv_at hl 4 rfl) ?_
          refine lv_iconst (v := 4) hx hb dX0_find_88 (by decide) ?_
          refine lv_icmp_gt (tgt := 180) hx hb dX0_find_89 (by decide) (fun cn8593 => ?_) (fun cn8593 => ?_)
          · skip
            have bd8594 : (5 : Int) ≤ zi7587.toInt ∧ zi7587.toInt ≤ 5 := r_lt_y cn8593 bc_4 bd7595 (by decide) (by decide)
            exact jn8588 K ln Ls gn hp7588 _ _ ls hW gex gfx ok7589 pd7590 (by omega) kd7591 kd7592 kd7593 (lv_sub hl [] rfl) hw hS
          · skip
            have bd8595 : (1 : Int) ≤ zi7587.toInt ∧ zi7587.toInt ≤ 4 := r_le_x (Int32.not_lt.mp cn8593) bd7595 bc_4 (by decide) (by decide)
            refine lv_aload_n hx hb dX0_find_92 rfl (lv_at hl 0 rfl) ?_
            obtain ⟨zi8597, eq8596, bd8598⟩ := rd_1003 ok7589 kd7591
            refine p_get (ci := 0) (v := .int zi8597) (C := RX0) (T := TX0) (N := 8) hx hb hT iw_X0 hown hK hw hW kd7591 (by decide) rfl rfl 3 (by decide) eq8596 (hT _ tb_595) (fun _ h9 => h9) dX0_find_93 ?_
            refine lv_if_ne (tgt := 180) hx hb dX0_find_96 (by decide) (fun cn8599 => ?_) (fun cn8599 => ?_)
            · skip
              have tf8600 : (zi8597 : Int32).toInt ≠ (0 : Int32).toInt := fun e => cn8599 (Int32.toInt_inj.mp e)
              have := toi bc_0
              have bd8601 : (1 : Int) ≤ zi8597.toInt ∧ zi8597.toInt ≤ 4 := r_ne_lo cn8599 bd8598 (toi bc_0) (by decide) (by decide)
              exact jn8588 K ln Ls gn hp7588 _ _ ls hW gex gfx ok7589 pd7590 (by omega) kd7591 kd7592 kd7593 (lv_sub hl [] rfl) hw hS
            · skip
              have bd8602 : (0 : Int) ≤ zi8597.toInt ∧ zi8597.toInt ≤ 0 := r_eq_x cn8599 bd8598 bc_0 (by decide) (by decide)
              refine lv_aload_n hx hb dX0_find_99 rfl (lv_at hl 0 rfl) ?_
              obtain ⟨qa8604, eq8603, kd8605⟩ := rd_1000 ok7589 kd7591
              refine p_get (ci := 0) (v := .ref qa8604) (C := RX0) (T := TX0) (N := 8) hx hb hT iw_X0 hown hK hw hW kd7591 (by decide) rfl rfl 0 (by decide) eq8603 (hT _ tb_591) (fun _ h9 => h9) dX0_find_100 ?_
              obtain ⟨zi8607, eq8606, bd8608⟩ := rd_4006 ok7589 kd8605
              have nz8609 := (pd7590).sz kd8605 eq8606
              refine p_getN (ci := 3) (v := .int zi8607) (C := RX3) (T := TX3) (N := 7) hx hb hT iw_X3 hown hK hw hW kd8605 (by decide) rfl rfl 6 (by decide) eq8606 (hK.fl nw_400) (fun _ h9 => h9) dX0_find_103 ?_
              refine lv_istore (lv' := [(7, .int zi8607), (0, .ref qa900), (1, .ref qa901), (3, .int zi903), (5, .int zi7586), (6, .int zi7587)]) hx hb dX0_find_106 hl (by decide) rfl (fun ls hl => ?_)
              refine lv_iload hx hb dX0_find_108 (lv_at hl 4 rfl) ?_
              refine lv_istore (lv' := [(8, .int zi7586), (7, .int zi8607), (0, .ref qa900), (1, .ref qa901), (3, .int zi903), (5, .int zi7586), (6, .int zi7587)]) hx hb dX0_find_110 hl (by decide) rfl (fun ls hl => ?_)
              have jn9005 : ∀ (K ln : Nat → Nat) (Ls : List Nat) (gn : Nat) (hp8999 : Nat → Nat → Value)  (H : Heap) (locs : List Loc) (ls : Array Slot), SW K ln Ls → EXx K0 ln0 K ln → FrX wsC K0 hp0 hp8999 → Ok K hp8999 → NSx K ln hp8999 gn → g0 ≤ gn → K qa900 = 1 → K qa901 = 11 → K qa902 = 8 → lv_has ls 9 [(0, .ref qa900), (1, .ref qa901), (3, .int zi903), (6, .int zi7587), (7, .int zi8607)] → PW G cy K ln Ls A hp8999 H → va_S A s.heap H locs → W p l e ({ frames := 6, cells := 327680, slots := 4580352, locals := 150 } : Room) s m ([.ref qa900, .ref qa901, .ref qa902, .int zi903, .int zi904] : List Value).toArray below meth c H locs (gn - g0) (14 * (gn - g0)) Q (F0 m 170 ls []) := by
                intro K ln Ls gn hp8999 H locs ls hW gex gfx ok9000 pd9001 hga kd9002 kd9003 kd9004 hl hw hS
                have hgn := NSx.bd pd9001
                refine lv_iload hx hb dX0_find_170 (lv_at hl 4 rfl) ?_
                refine lv_istore (lv' := [(5, .int zi8607), (0, .ref qa900), (1, .ref qa901), (3, .int zi903), (6, .int zi7587), (7, .int zi8607)]) hx hb dX0_find_172 hl (by decide) rfl (fun ls hl => ?_)
                obtain ⟨zi9006, ea9007⟩ : ∃ z : Int32, z = zi7587 + 1 := ⟨_, rfl⟩
                have bd9008 : (2 : Int) ≤ zi9006.toInt ∧ zi9006.toInt ≤ 5 := b_iadd ea9007 bd8595 bc_1 (by decide) (by decide) (by decide) (by decide)
                have qe9009 : zi9006.toInt = (zi7587 : Int32).toInt + (1 : Int32).toInt := e_iadd ea9007 bd8595 bc_1 (by decide) (by decide)
                have qe9010 : zi9006.toInt = zi7587.toInt + 1 := by have ha : (1 : Int32).toInt = 1 := (by decide); rw [ha] at qe9009; exact qe9009
                refine lv_iinc (v := zi9006) (lv' := [(6, .int zi9006), (5, .int zi8607), (0, .ref qa900), (1, .ref qa901), (3, .int zi903), (7, .int zi8607)]) hx hb dX0_find_174 hl (k := 4) rfl ea9007.symm (by decide) rfl (fun ls hl => ?_)
                refine lv_goto (tgt := 86) hx hb dX0_find_177 (by decide) ?_
                exact ih8590 K ln Ls gn hp8999 zi8607 zi9006 _ _ ls (by have := hm8592; have := qe9010; omega) hW gex gfx ok9000 pd9001 (by omega) kd9002 kd9003 kd9004 (b_wid2 bd8608 (by decide) (by decide)) (b_wid2 bd9008 (by decide) (by decide)) (lv_sub hl [2, 3, 4, 1, 0] rfl) hw hS
              have lp9013 : ∀ (n9011 : Nat) (K ln : Nat → Nat) (Ls : List Nat) (gn : Nat) (hp8849 : Nat → Nat → Value) (zi8848 : Int32) (H : Heap) (locs : List Loc) (ls : Array Slot), 131072 - zi8848.toInt < (n9011 : Int) → SW K ln Ls → EXx K0 ln0 K ln → FrX wsC K0 hp0 hp8849 → Ok K hp8849 → NSx K ln hp8849 gn → g0 ≤ gn → K qa900 = 1 → K qa901 = 11 → K qa902 = 8 → ((0 : Int) ≤ zi8848.toInt ∧ zi8848.toInt ≤ 131072) → ((zi8607 : Int32).toInt ≤ (gn : Nat)) → lv_has ls 9 [(0, .ref qa900), (1, .ref qa901), (3, .int zi903), (6, .int zi7587), (7, .int zi8607), (8, .int zi8848)] → PW G cy K ln Ls A hp8849 H → va_S A s.heap H locs → W p l e ({ frames := 6, cells := 327680, slots := 4580352, locals := 150 } : Room) s m ([.ref qa900, .ref qa901, .ref qa902, .int zi903, .int zi904] : List Value).toArray below meth c H locs (gn - g0) (14 * (gn - g0)) Q (F0 m 112 ls []) := by
                intro n9011
                induction n9011 with
                | zero =>
                  intro K ln Ls gn hp8849 zi8848 H locs ls hm9014 hW gex gfx ok8850 pd8851 hga kd8852 kd8853 kd8854 bd8856 rq8855 hl hw hS
                  exact absurd hm9014 (by have := bd8856; omega)
                | succ n9011 ih9012 =>
                  intro K ln Ls gn hp8849 zi8848 H locs ls hm9014 hW gex gfx ok8850 pd8851 hga kd8852 kd8853 kd8854 bd8856 rq8855 hl hw hS
                  have hgn := NSx.bd pd8851
                  refine lv_iload hx hb dX0_find_112 (lv_at hl 5 rfl) ?_
                  refine lv_iload hx hb dX0_find_114 (lv_at hl 4 rfl) ?_
                  refine lv_icmp_ge (tgt := 170) hx hb dX0_find_116 (by decide) (fun cn9015 => ?_) (fun cn9015 => ?_)
                  · skip
                    have tf9016 : zi8607.toInt ≤ zi8848.toInt := (fa_le _ _).mp cn9015
                    exact jn9005 K ln Ls gn hp8849 _ _ ls hW gex gfx ok8850 pd8851 (by omega) kd8852 kd8853 kd8854 (lv_sub hl [0, 1, 2, 3, 4] rfl) hw hS
                  · skip
                    have tf9017 : zi8848.toInt < zi8607.toInt := (fa_lt _ _).mp (Int32.not_le.mp cn9015)
                    have bd9018 : (0 : Int) ≤ zi8848.toInt ∧ zi8848.toInt ≤ 131071 := r_lt_x (Int32.not_le.mp cn9015) bd8856 bd8608 (by decide) (by decide)
                    have bd9019 : (1 : Int) ≤ zi8607.toInt ∧ zi8607.toInt ≤ 131072 := r_lt_y (Int32.not_le.mp cn9015) bd8856 bd8608 (by decide) (by decide)
                    refine lv_aload_n hx hb dX0_find_119 rfl (lv_at hl 0 rfl) ?_
                    obtain ⟨zi9021, eq9020, bd9022⟩ := rd_1003 ok8850 kd8852
                    refine p_get (ci := 0) (v := .int zi9021) (C := RX0) (T := TX0) (N := 8) hx hb hT iw_X0 hown hK hw hW kd8852 (by decide) rfl rfl 3 (by decide) eq9020 (hT _ tb_595) (fun _ h9 => h9) dX0_find_120 ?_
                    refine lv_if_ne (tgt := 170) hx hb dX0_find_123 (by decide) (fun cn9023 => ?_) (fun cn9023 => ?_)
                    · skip
                      have tf9024 : (zi9021 : Int32).toInt ≠ (0 : Int32).toInt := fun e => cn9023 (Int32.toInt_inj.mp e)
                      have := toi bc_0
                      have bd9025 : (1 : Int) ≤ zi9021.toInt ∧ zi9021.toInt ≤ 4 := r_ne_lo cn9023 bd9022 (toi bc_0) (by decide) (by decide)
                      exact jn9005 K ln Ls gn hp8849 _ _ ls hW gex gfx ok8850 pd8851 (by omega) kd8852 kd8853 kd8854 (lv_sub hl [0, 1, 2, 3, 4] rfl) hw hS
                    · skip
                      have bd9026 : (0 : Int) ≤ zi9021.toInt ∧ zi9021.toInt ≤ 0 := r_eq_x cn9023 bd9022 bc_0 (by decide) (by decide)
                      refine lv_aload_n hx hb dX0_find_126 rfl (lv_at hl 1 rfl) ?_
                      obtain ⟨qa9028, eq9027, kd9029⟩ := rd_11016 ok8850 kd8853
                      refine p_getN (ci := 10) (v := .ref qa9028) (C := RX10) (T := TX10) (N := 20) hx hb hT iw_X10 hown hK hw hW kd8853 (by decide) rfl rfl 16 (by decide) eq9027 (hK.fl nw_131) (fun _ h9 => h9) dX0_find_127 ?_
                      refine lv_iload_n hx hb dX0_find_130 rfl (lv_at hl 2 rfl) ?_
                      obtain ⟨zi9031, eq9030⟩ := rd_54000 ok8850 kd9029 ((zi903 : Int32).toNatClampNeg)
                      refine p_iald (v := zi9031) hx hb hK hw hW kd9029 (by decide) rfl (hW.len kd9029 (n := 8) rfl (by decide)) (vp_b bd903 (by decide) (by decide)) eq9030 dX0_find_131 ?_
                      refine lv_aload_n hx hb dX0_find_132 rfl (lv_at hl 0 rfl) ?_
                      obtain ⟨qa9033, eq9032, kd9034⟩ := rd_1000 ok8850 kd8852
                      refine p_get (ci := 0) (v := .ref qa9033) (C := RX0) (T := TX0) (N := 8) hx hb hT iw_X0 hown hK hw hW kd8852 (by decide) rfl rfl 0 (by decide) eq9032 (hT _ tb_591) (fun _ h9 => h9) dX0_find_133 ?_
                      obtain ⟨qa9036, eq9035, kd9037⟩ := rd_4001 ok8850 kd9034
                      have ln9038 := (pd8851).ref kd9034 (by decide) eq9035
                      refine p_getN (ci := 3) (v := .ref qa9036) (C := RX3) (T := TX3) (N := 7) hx hb hT iw_X3 hown hK hw hW kd9034 (by decide) rfl rfl 1 (by decide) eq9035 (hK.fl nw_392) (fun _ h9 => h9) dX0_find_136 ?_
                      refine lv_iload hx hb dX0_find_139 (lv_at hl 5 rfl) ?_
                      obtain ⟨zi9040, eq9039⟩ := rd_29000 ok8850 kd9037 ((zi8848 : Int32).toNatClampNeg)
                      refine p_iald (v := zi9040) hx hb hK hw hW kd9037 (by decide) rfl ln9038 (vp_bv (by omega) (by omega)) eq9039 dX0_find_141 ?_
                      refine lv_isub hx hb dX0_find_142 (lv_topi (fun zi9041 ea9042 => ?_))
                      refine lv_iconst (v := 4) hx hb dX0_find_143 (by decide) ?_
                      refine lv_iload hx hb dX0_find_144 (lv_at hl 3 rfl) ?_
                      refine lv_isub hx hb dX0_find_146 (lv_topi (fun zi9043 ea9044 => ?_))
                      have bd9045 : (0 : Int) ≤ zi9043.toInt ∧ zi9043.toInt ≤ 3 := b_isub ea9044 bc_4 bd8595 (by decide) (by decide) (by decide) (by decide)
                      have qe9046 : zi9043.toInt = (4 : Int32).toInt - (zi7587 : Int32).toInt := e_isub ea9044 bc_4 bd8595 (by decide) (by decide)
                      have qe9047 : zi9043.toInt = 4 - zi7587.toInt := by have ha : (4 : Int32).toInt = 4 := (by decide); rw [ha] at qe9046; exact qe9046
                      refine lv_iconst (v := 1) hx hb dX0_find_147 (by decide) ?_
                      refine lv_iadd hx hb dX0_find_148 (lv_topi (fun zi9048 ea9049 => ?_))
                      have bd9050 : (1 : Int) ≤ zi9048.toInt ∧ zi9048.toInt ≤ 4 := b_iadd ea9049 bd9045 bc_1 (by decide) (by decide) (by decide) (by decide)
                      have qe9051 : zi9048.toInt = (zi9043 : Int32).toInt + (1 : Int32).toInt := e_iadd ea9049 bd9045 bc_1 (by decide) (by decide)
                      have qe9052 : zi9048.toInt = zi9043.toInt + 1 := by have ha : (1 : Int32).toInt = 1 := (by decide); rw [ha] at qe9051; exact qe9051
                      refine kq_i hw hS hA (va_runS (As := [.int zi9041, .int zi9048]) (rest := []) ⟨hx, hb, hml, hown, hT⟩ (cX0_canCome_0 l G cy ev K ln Ls hW _ hp8849 ok8850 zi9041 zi9048) (va_cwS 2 hT (good_S tb_1187 tb_1185 tb_1186 tb_120) rfl rfl rfl (by decide +kernel) ⟨Nat.le_of_ble_eq_true rfl, Nat.le_of_ble_eq_true rfl⟩) (PB2.preS hK hE hS hA hw) rfl rfl hl.1 rfl (lv_room (Nat.le_of_ble_eq_true rfl)) dX0_find_149 ⟨(show (gn - g0) + 0 ≤ 327680 from by omega), (show (14 * (gn - g0)) + 0 ≤ 4580352 from by omega)⟩) (fun zi9057 hp9053 H locs hq9056 hw hS => ?_)
                      obtain ⟨ok9054, F9055, bd9058⟩ := hq9056
                      obtain rfl : hp8849 = hp9053 := (Fr.nil F9055).symm
                      have hw : PW G cy K ln Ls A hp8849 H := hw
                      refine lv_if_eq (tgt := 164) hx hb dX0_find_152 (by decide) (fun cn9059 => ?_) (fun cn9059 => ?_)
                      · skip
                        have bd9060 : (0 : Int) ≤ zi9057.toInt ∧ zi9057.toInt ≤ 0 := r_eq_x cn9059 bd9058 bc_0 (by decide) (by decide)
                        obtain ⟨zi9061, ea9062⟩ : ∃ z : Int32, z = zi8848 + 1 := ⟨_, rfl⟩
                        have bd9063 : (1 : Int) ≤ zi9061.toInt ∧ zi9061.toInt ≤ 131072 := b_iadd ea9062 bd9018 bc_1 (by decide) (by decide) (by decide) (by decide)
                        have qe9064 : zi9061.toInt = (zi8848 : Int32).toInt + (1 : Int32).toInt := e_iadd ea9062 bd9018 bc_1 (by decide) (by decide)
                        have qe9065 : zi9061.toInt = zi8848.toInt + 1 := by have ha : (1 : Int32).toInt = 1 := (by decide); rw [ha] at qe9064; exact qe9064
                        refine lv_iinc (v := zi9061) (lv' := [(8, .int zi9061), (0, .ref qa900), (1, .ref qa901), (3, .int zi903), (6, .int zi7587), (7, .int zi8607)]) hx hb dX0_find_164 hl (k := 5) rfl ea9062.symm (by decide) rfl (fun ls hl => ?_)
                        refine lv_goto (tgt := 112) hx hb dX0_find_167 (by decide) ?_
                        exact ih9012 K ln Ls gn hp8849 zi9061 _ _ ls (by have := hm9014; have := qe9065; omega) hW gex gfx ok8850 pd8851 (by omega) kd8852 kd8853 kd8854 (b_wid2 bd9063 (by decide) (by decide)) (by omega) (lv_sub hl [1, 2, 3, 4, 5, 0] rfl) hw hS
                      · skip
                        have tf9066 : (zi9057 : Int32).toInt ≠ (0 : Int32).toInt := fun e => cn9059 (Int32.toInt_inj.mp e)
                        have := toi bc_0
                        have bd9067 : (1 : Int) ≤ zi9057.toInt ∧ zi9057.toInt ≤ 1 := r_ne_lo cn9059 bd9058 (toi bc_0) (by decide) (by decide)
                        refine lv_aload_n hx hb dX0_find_155 rfl (lv_at hl 0 rfl) ?_
                        refine lv_aload_n hx hb dX0_find_156 rfl (lv_at hl 1 rfl) ?_
                        refine lv_iload hx hb dX0_find_157 (lv_at hl 5 rfl) ?_
                        refine lv_iload hx hb dX0_find_159 (lv_at hl 3 rfl) ?_
                        have gf9075 : FrX wsC K0 hp0 hp8849 := gfx
                        refine kg_v hw hS hA (va_runV (As := [.ref qa901, .int zi8848, .int zi7587]) (rest := []) ⟨hx, hb, hml, hown, hT⟩ (Met.szx (cX0_expand_0 l G cy ev K ln Ls hW _ hp8849 ok8850 qa900 qa901 zi8848 zi7587 gn kd8852 kd8853 (b_wid2 bd9018 (by decide) (by decide)) (b_wid2 bd8595 (by decide) (by decide)) pd8851 (by omega))) (cwV 3 hT (good_V tb_1191 tb_1188 tb_1190 tb_36 tb_120) rfl rfl rfl (by decide +kernel) ⟨Nat.le_of_ble_eq_true rfl, Nat.le_of_ble_eq_true rfl⟩) (pool_preV (ci := 0) hK hE hS hA hw hW kd8852 (by decide) rfl) rfl rfl hl.1 rfl (lv_room (Nat.le_of_ble_eq_true rfl)) dX0_find_161 ⟨(show (gn - g0) + 196608 ≤ 327680 from by omega), (show (14 * (gn - g0)) + 2748928 ≤ 4580352 from by omega)⟩) (fun u gn H locs hq9068 hw hS => ?_)
                        obtain ⟨K, ln, Ls, hp9069⟩ := u
                        obtain ⟨ex9071, hW, ok9070, fx9072, pd9073, hle9074⟩ := hq9068
                        have ex9071 : EXx _ _ K ln := ex9071
                        have hW : SW K ln Ls := hW
                        have ok9070 : Ok K hp9069 := ok9070
                        have fx9072 : FrX _ _ _ hp9069 := fx9072
                        have pd9073 : NSx K ln hp9069 gn := pd9073
                        have hle9074 : _ ≤ gn := hle9074
                        have hw : PW G cy K ln Ls A hp9069 H := hw
                        have gfx : FrX wsC K0 hp0 hp9069 := FrX.tr gf9075 gex fx9072 (by decide +kernel)
                        have gex := EXx.tr gex ex9071
                        have kd9078 := EXx.kd ex9071 kd8854 (by decide)
                        have kd9079 := EXx.kd ex9071 kd8853 (by decide)
                        have kd9080 := EXx.kd ex9071 kd8852 (by decide)
                        (try clear kd8852); (try clear kd8853); (try clear kd8854); (try clear kd9029); (try clear kd9034); (try clear kd9037); (try clear ln9038)
                        have hgn := NSx.bd pd9073
                        refine W.widen (k := gn - g0) (n := 14 * (gn - g0)) (by omega) (by omega) ?_
                        have hga : g0 ≤ gn := by omega
                        obtain ⟨zi9081, ea9082⟩ : ∃ z : Int32, z = zi8848 + 1 := ⟨_, rfl⟩
                        have bd9083 : (1 : Int) ≤ zi9081.toInt ∧ zi9081.toInt ≤ 131072 := b_iadd ea9082 bd9018 bc_1 (by decide) (by decide) (by decide) (by decide)
                        have qe9084 : zi9081.toInt = (zi8848 : Int32).toInt + (1 : Int32).toInt := e_iadd ea9082 bd9018 bc_1 (by decide) (by decide)
                        have qe9085 : zi9081.toInt = zi8848.toInt + 1 := by have ha : (1 : Int32).toInt = 1 := (by decide); rw [ha] at qe9084; exact qe9084
                        refine lv_iinc (v := zi9081) (lv' := [(8, .int zi9081), (0, .ref qa900), (1, .ref qa901), (3, .int zi903), (6, .int zi7587), (7, .int zi8607)]) hx hb dX0_find_164 hl (k := 5) rfl ea9082.symm (by decide) rfl (fun ls hl => ?_)
                        refine lv_goto (tgt := 112) hx hb dX0_find_167 (by decide) ?_
                        exact ih9012 K ln Ls gn hp9069 zi9081 _ _ ls (by have := hm9014; have := qe9085; omega) hW gex gfx ok9070 pd9073 (by omega) kd9080 kd9079 kd9078 (b_wid2 bd9083 (by decide) (by decide)) (by omega) (lv_sub hl [1, 2, 3, 4, 5, 0] rfl) hw hS
              exact lp9013 _ K ln Ls gn hp7588 zi7586 _ _ ls (lp_in _) hW gex gfx ok7589 pd7590 (by omega) kd7591 kd7592 kd7593 (b_wid2 bd7594 (by decide) (by decide)) (by omega) (lv_sub hl [2, 3, 4, 6, 1, 0] rfl) hw hS
      exact lp8591 _ K ln Ls gn hp4589 0 1 _ _ ls (lp_in _) hW gex gfx ok4590 pd4593 (by omega) kd4600 kd4599 kd4598 (b_wid2 bc_0 (by decide) (by decide)) (b_wid2 bc_1 (by decide) (by decide)) (lv_sub hl [2, 3, 5, 1, 0] rfl) hw hS
    · skip
      have tf9086 : zi4546.toInt = zi903.toInt := congrArg Int32.toInt cn4547
      have bd9087 : (0 : Int) ≤ zi4546.toInt ∧ zi4546.toInt ≤ 7 := r_eq_x cn4547 (b_all zi4546) bd903 (by decide) (by decide)
      refine lv_aload_n hx hb dX0_find_15 rfl (lv_at hl 0 rfl) ?_
      obtain ⟨zi9089, eq9088⟩ := rd_1007 ok1 kd900
      refine p_get (ci := 0) (v := .int zi9089) (C := RX0) (T := TX0) (N := 8) hx hb hT iw_X0 hown hK hw hW kd900 (by decide) rfl rfl 7 (by decide) eq9088 (hT _ tb_602) (fun _ h9 => h9) dX0_find_16 ?_
      refine lv_iload hx hb dX0_find_19 (lv_at hl 4 rfl) ?_
      refine lv_icmp_ne (tgt := 25) hx hb dX0_find_21 (by decide) (fun cn9090 => ?_) (fun cn9090 => ?_)
      · skip
        have tf9091 : (zi9089 : Int32).toInt ≠ (zi904 : Int32).toInt := fun e => cn9090 (Int32.toInt_inj.mp e)
        refine lv_aload_n hx hb dX0_find_25 rfl (lv_at hl 0 rfl) ?_
        refine lv_iconst (v := 1) hx hb dX0_find_26 (by decide) ?_
        refine p_put (ci := 0) (v := .int 1) (ty := .boolean) (C := RX0) (T := TX0) (N := 8) hx hb hT iw_X0 tyX0 tyX0_ok nmX0 hown hK hw hS hW kd900 (by decide) rfl rfl 5 (by decide) (hT _ tb_599) (fun _ h9 => h9) rfl (by decide +kernel) (nz_n bc_1 (by decide) (by decide)) (nz_f bc_1 (by decide) (by decide)) dX0_find_27 (fun hp9092 eh9093 H locs hw hS => ?_)
        have ok9094 := wr_1005 bc_1 (by decide) (by decide) ok1 kd900 eh9093
        refine lv_aload_n hx hb dX0_find_30 rfl (lv_at hl 0 rfl) ?_
        refine lv_iload_n hx hb dX0_find_31 rfl (lv_at hl 3 rfl) ?_
        refine p_put (ci := 0) (v := .int zi903) (ty := .int) (C := RX0) (T := TX0) (N := 8) hx hb hT iw_X0 tyX0 tyX0_ok nmX0 hown hK hw hS hW kd900 (by decide) rfl rfl 6 (by decide) (hT _ tb_601) (fun _ h9 => h9) rfl (by decide +kernel) rfl rfl dX0_find_32 (fun hp9095 eh9096 H locs hw hS => ?_)
        have ok9097 := wr_1006 ok9094 kd900 eh9096
        refine lv_aload_n hx hb dX0_find_35 rfl (lv_at hl 0 rfl) ?_
        refine lv_iload hx hb dX0_find_36 (lv_at hl 4 rfl) ?_
        refine p_put (ci := 0) (v := .int zi904) (ty := .int) (C := RX0) (T := TX0) (N := 8) hx hb hT iw_X0 tyX0 tyX0_ok nmX0 hown hK hw hS hW kd900 (by decide) rfl rfl 7 (by decide) (hT _ tb_602) (fun _ h9 => h9) rfl (by decide +kernel) rfl rfl dX0_find_38 (fun hp9098 eh9099 H locs hw hS => ?_)
        have ok9100 := wr_1007 ok9097 kd900 eh9099
        refine lv_aload_n hx hb dX0_find_41 rfl (lv_at hl 0 rfl) ?_
        refine lv_iconst (v := 0) hx hb dX0_find_42 (by decide) ?_
        refine p_put (ci := 0) (v := .int 0) (ty := .int) (C := RX0) (T := TX0) (N := 8) hx hb hT iw_X0 tyX0 tyX0_ok nmX0 hown hK hw hS hW kd900 (by decide) rfl rfl 3 (by decide) (hT _ tb_595) (fun _ h9 => h9) rfl (by decide +kernel) rfl rfl dX0_find_43 (fun hp9101 eh9102 H locs hw hS => ?_)
        have ok9103 := wr_1003 bc_0 (by decide) (by decide) ok9100 kd900 eh9102
        refine lv_aload_n hx hb dX0_find_46 rfl (lv_at hl 0 rfl) ?_
        refine lv_iconst (v := 0) hx hb dX0_find_47 (by decide) ?_
        refine p_put (ci := 0) (v := .int 0) (ty := .int) (C := RX0) (T := TX0) (N := 8) hx hb hT iw_X0 tyX0 tyX0_ok nmX0 hown hK hw hS hW kd900 (by decide) rfl rfl 4 (by decide) (hT _ tb_597) (fun _ h9 => h9) rfl (by decide +kernel) rfl rfl dX0_find_48 (fun hp9104 eh9105 H locs hw hS => ?_)
        have ok9106 := wr_1004 ok9103 kd900 eh9105
        refine lv_aload_n hx hb dX0_find_51 rfl (lv_at hl 0 rfl) ?_
        obtain ⟨qa9108, eq9107, kd9109⟩ := rd_1000 ok9106 kd900
        refine p_get (ci := 0) (v := .ref qa9108) (C := RX0) (T := TX0) (N := 8) hx hb hT iw_X0 hown hK hw hW kd900 (by decide) rfl rfl 0 (by decide) eq9107 (hT _ tb_591) (fun _ h9 => h9) dX0_find_52 ?_
        have pd9110 : NSx K ln hp9104 gn := NSx_fr ok1  (show Fr [1003, 1004, 1005, 1006, 1007] K hp0 hp9104 from (Fr.put (cq := 1004) (Fr.put (cq := 1003) (Fr.put (cq := 1007) (Fr.put (cq := 1006) (Fr.put (cq := 1005) (Fr.rf) eh9093 kd900 (cd_o (by decide)) (by decide)) eh9096 kd900 (cd_o (by decide)) (by decide)) eh9099 kd900 (cd_o (by decide)) (by decide)) eh9102 kd900 (cd_o (by decide)) (by decide)) eh9105 kd900 (cd_o (by decide)) (by decide))) (by decide) pdNS
        refine kq_v hw hS hA (va_runV (As := []) (rest := []) ⟨hx, hb, hml, hown, hT⟩ (cX3_clear_0 l G cy ev K ln Ls hW _ hp9104 ok9106 qa9108 gn kd9109 pd9110) (cwV 0 hT (good_V tb_1136 tb_1133 tb_1134 tb_1135 tb_117) rfl rfl rfl (by decide +kernel) ⟨Nat.le_of_ble_eq_true rfl, Nat.le_of_ble_eq_true rfl⟩) (pool_preV (ci := 3) hK hE hS hA hw hW kd9109 (by decide) rfl) rfl rfl hl.1 rfl (lv_room (Nat.le_of_ble_eq_true rfl)) dX0_find_55 ⟨(show (gn - g0) + 0 ≤ 327680 from by omega), (show (14 * (gn - g0)) + 0 ≤ 4580352 from by omega)⟩) (fun hp9111 H locs hq9114 hw hS => ?_)
        obtain ⟨ok9112, F9113, ⟨zi9116, eq9117, bd9118⟩, xq9119⟩ := hq9114
        have hw : PW G cy K ln Ls A hp9111 H := hw
        refine lv_aload_n hx hb dX0_find_58 rfl (lv_at hl 0 rfl) ?_
        obtain ⟨qa9121, eq9120, kd9122⟩ := rd_1001 ok9112 kd900
        refine p_get (ci := 0) (v := .ref qa9121) (C := RX0) (T := TX0) (N := 8) hx hb hT iw_X0 hown hK hw hW kd900 (by decide) rfl rfl 1 (by decide) eq9120 (hT _ tb_592) (fun _ h9 => h9) dX0_find_59 ?_
        refine lv_aload_n hx hb dX0_find_62 rfl (lv_at hl 2 rfl) ?_
        refine kq_v hw hS hA (va_runV (As := [.ref qa902]) (rest := []) ⟨hx, hb, hml, hown, hT⟩ (cX7_copyMoment_0 l G cy ev K ln Ls hW _ hp9111 ok9112 qa9121 qa902 kd9122 kd902) (cwV 1 hT (good_V tb_1051 tb_1138 tb_1049 tb_1050 tb_115) rfl rfl rfl (by decide +kernel) ⟨Nat.le_of_ble_eq_true rfl, Nat.le_of_ble_eq_true rfl⟩) (pool_preV (ci := 7) hK hE hS hA hw hW kd9122 (by decide) rfl) rfl rfl hl.1 rfl (lv_room (Nat.le_of_ble_eq_true rfl)) dX0_find_63 ⟨(show (gn - g0) + 0 ≤ 327680 from by omega), (show (14 * (gn - g0)) + 0 ≤ 4580352 from by omega)⟩) (fun hp9123 H locs hq9126 hw hS => ?_)
        obtain ⟨ok9124, F9125⟩ := hq9126
        have hw : PW G cy K ln Ls A hp9123 H := hw
        refine lv_aload_n hx hb dX0_find_66 rfl (lv_at hl 0 rfl) ?_
        have eq9128 : hp9123 qa900 0 = .ref qa9108 := Eq.trans (Fr.at (cq := 1000) F9125 kd900 (cd_o (by decide)) (by decide)) (Eq.trans (Fr.at (cq := 1000) F9113 kd900 (cd_o (by decide)) (by decide)) eq9107)
        refine p_get (ci := 0) (v := .ref qa9108) (C := RX0) (T := TX0) (N := 8) hx hb hT iw_X0 hown hK hw hW kd900 (by decide) rfl rfl 0 (by decide) eq9128 (hT _ tb_591) (fun _ h9 => h9) dX0_find_67 ?_
        refine lv_aload_n hx hb dX0_find_70 rfl (lv_at hl 0 rfl) ?_
        have eq9129 : hp9123 qa900 1 = .ref qa9121 := Eq.trans (Fr.at (cq := 1001) F9125 kd900 (cd_o (by decide)) (by decide)) eq9120
        refine p_get (ci := 0) (v := .ref qa9121) (C := RX0) (T := TX0) (N := 8) hx hb hT iw_X0 hown hK hw hW kd900 (by decide) rfl rfl 1 (by decide) eq9129 (hT _ tb_592) (fun _ h9 => h9) dX0_find_71 ?_
        refine lv_iconst (v := 0) hx hb dX0_find_74 (by decide) ?_
        refine lv_lconst (v := 1) hx hb dX0_find_75 (by decide) ?_
        refine lv_iconst (v := 0) hx hb dX0_find_76 (by decide) ?_
        have pd9130 : NSx K ln hp9123 gn := NSx_fr ok9112  (show Fr [8000, 8001, 8002, 8003, 8004, 8005] K hp9111 hp9123 from (Fr.tr (Fr.rf) F9125 (by decide))) (by decide) xq9119
        have gf9138 : FrX wsC K0 hp0 hp9123 := (FrX.tr gfx gex (FrX.of (show Fr [1003, 1004, 1005, 1006, 1007, 4006, 8000, 8001, 8002, 8003, 8004, 8005, 33000] K hp0 hp9123 from (Fr.tr (Fr.tr (Fr.put (cq := 1004) (Fr.put (cq := 1003) (Fr.put (cq := 1007) (Fr.put (cq := 1006) (Fr.put (cq := 1005) (Fr.rf) eh9093 kd900 (cd_o (by decide)) (by decide)) eh9096 kd900 (cd_o (by decide)) (by decide)) eh9099 kd900 (cd_o (by decide)) (by decide)) eh9102 kd900 (cd_o (by decide)) (by decide)) eh9105 kd900 (cd_o (by decide)) (by decide)) F9113 (by decide)) F9125 (by decide)))) (by decide +kernel))
        refine kg_v hw hS hA (va_runV (As := [.ref qa9121, .int 0, .long 1, .int 0]) (rest := []) ⟨hx, hb, hml, hown, hT⟩ (Met.szx (cX3_add_vG_0 l G cy ev K ln Ls hW _ hp9123 ok9124 qa9108 qa9121 0 1 0 gn kd9109 kd9122 pd9130)) (cwV 4 hT (good_V tb_1142 tb_1139 tb_1140 tb_1141 tb_117) rfl rfl rfl (by decide +kernel) ⟨Nat.le_of_ble_eq_true rfl, Nat.le_of_ble_eq_true rfl⟩) (pool_preV (ci := 3) hK hE hS hA hw hW kd9109 (by decide) rfl) rfl rfl hl.1 rfl (lv_room (Nat.le_of_ble_eq_true rfl)) dX0_find_77 ⟨(show (gn - g0) + 65536 ≤ 327680 from by omega), (show (14 * (gn - g0)) + 917504 ≤ 4580352 from by omega)⟩) (fun u gn H locs hq9131 hw hS => ?_)
        obtain ⟨K, ln, Ls, hp9132⟩ := u
        obtain ⟨ex9134, hW, ok9133, fx9135, pd9136, hle9137⟩ := hq9131
        have ex9134 : EXx _ _ K ln := ex9134
        have hW : SW K ln Ls := hW
        have ok9133 : Ok K hp9132 := ok9133
        have fx9135 : FrX _ _ _ hp9132 := fx9135
        have pd9136 : NSx K ln hp9132 gn := pd9136
        have hle9137 : _ ≤ gn := hle9137
        have hw : PW G cy K ln Ls A hp9132 H := hw
        have gfx : FrX wsC K0 hp0 hp9132 := FrX.tr gf9138 gex fx9135 (by decide +kernel)
        have gex := EXx.tr gex ex9134
        have kd9141 := EXx.kd ex9134 kd902 (by decide)
        have kd9142 := EXx.kd ex9134 kd901 (by decide)
        have kd9143 := EXx.kd ex9134 kd900 (by decide)
        (try clear kd900); (try clear kd901); (try clear kd902); (try clear kd9109); (try clear kd9122)
        have hgn := NSx.bd pd9136
        refine W.widen (k := gn - g0) (n := 14 * (gn - g0)) (by omega) (by omega) ?_
        have hga : g0 ≤ gn := by omega
        refine lv_iconst (v := 0) hx hb dX0_find_80 (by decide) ?_
        refine lv_istore (lv' := [(5, .int 0), (0, .ref qa900), (1, .ref qa901), (2, .ref qa902), (3, .int zi903), (4, .int zi904)]) hx hb dX0_find_81 hl (by decide) rfl (fun ls hl => ?_)
        refine lv_iconst (v := 1) hx hb dX0_find_83 (by decide) ?_
        refine lv_istore (lv' := [(6, .int 1), (5, .int 0), (0, .ref qa900), (1, .ref qa901), (2, .ref qa902), (3, .int zi903), (4, .int zi904)]) hx hb dX0_find_84 hl (by decide) rfl (fun ls hl => ?_)
        have jn13131 : ∀ (K ln : Nat → Nat) (Ls : List Nat) (gn : Nat) (hp13125 : Nat → Nat → Value)  (H : Heap) (locs : List Loc) (ls : Array Slot), SW K ln Ls → EXx K0 ln0 K ln → FrX wsC K0 hp0 hp13125 → Ok K hp13125 → NSx K ln hp13125 gn → g0 ≤ gn → K qa900 = 1 → K qa901 = 11 → K qa902 = 8 → lv_has ls 9 [] → PW G cy K ln Ls A hp13125 H → va_S A s.heap H locs → W p l e ({ frames := 6, cells := 327680, slots := 4580352, locals := 150 } : Room) s m ([.ref qa900, .ref qa901, .ref qa902, .int zi903, .int zi904] : List Value).toArray below meth c H locs (gn - g0) (14 * (gn - g0)) Q (F0 m 180 ls []) := by
          intro K ln Ls gn hp13125 H locs ls hW gex gfx ok13126 pd13127 hga kd13128 kd13129 kd13130 hl hw hS
          have hgn := NSx.bd pd13127
          rw [hQ]
          exact kgz_v (n := g0) hx hb hr hlocks hS (((K, ln, Ls, hp13125), gn) : GU × Nat) hw ⟨gex, hW, ok13126, gfx, pd13127, (by omega)⟩ (show (gn - g0) ≤ gn - g0 from by omega) (show (14 * (gn - g0)) ≤ 14 * (gn - g0) from by omega) (show (gn - g0) ≤ 327680 from by omega) (show (14 * (gn - g0)) ≤ 4580352 from by omega) dX0_find_180
        have lp13134 : ∀ (n13132 : Nat) (K ln : Nat → Nat) (Ls : List Nat) (gn : Nat) (hp12131 : Nat → Nat → Value) (zi12129 : Int32) (zi12130 : Int32) (H : Heap) (locs : List Loc) (ls : Array Slot), 5 - zi12130.toInt < (n13132 : Int) → SW K ln Ls → EXx K0 ln0 K ln → FrX wsC K0 hp0 hp12131 → Ok K hp12131 → NSx K ln hp12131 gn → g0 ≤ gn → K qa900 = 1 → K qa901 = 11 → K qa902 = 8 → ((0 : Int) ≤ zi12129.toInt ∧ zi12129.toInt ≤ 131072) → ((1 : Int) ≤ zi12130.toInt ∧ zi12130.toInt ≤ 5) → lv_has ls 9 [(0, .ref qa900), (1, .ref qa901), (3, .int zi903), (5, .int zi12129), (6, .int zi12130)] → PW G cy K ln Ls A hp12131 H → va_S A s.heap H locs → W p l e ({ frames := 6, cells := 327680, slots := 4580352, locals := 150 } : Room) s m ([.ref qa900, .ref qa901, .ref qa902, .int zi903, .int zi904] : List Value).toArray below meth c H locs (gn - g0) (14 * (gn - g0)) Q (F0 m 86 ls []) := by
          intro n13132
          induction n13132 with
          | zero =>
            intro K ln Ls gn hp12131 zi12129 zi12130 H locs ls hm13135 hW gex gfx ok12132 pd12133 hga kd12134 kd12135 kd12136 bd12137 bd12138 hl hw hS
            exact absurd hm13135 (by have := bd12138; omega)
          | succ n13132 ih13133 =>
            intro K ln Ls gn hp12131 zi12129 zi12130 H locs ls hm13135 hW gex gfx ok12132 pd12133 hga kd12134 kd12135 kd12136 bd12137 bd12138 hl hw hS
            have hgn := NSx.bd pd12133
            refine lv_iload hx hb dX0_find_86 (lv_at hl 4 rfl) ?_
            refine lv_iconst (v := 4) hx hb dX0_find_88 (by decide) ?_
            refine lv_icmp_gt (tgt := 180) hx hb dX0_find_89 (by decide) (fun cn13136 => ?_) (fun cn13136 => ?_)
            · skip
              have bd13137 : (5 : Int) ≤ zi12130.toInt ∧ zi12130.toInt ≤ 5 := r_lt_y cn13136 bc_4 bd12138 (by decide) (by decide)
              exact jn13131 K ln Ls gn hp12131 _ _ ls hW gex gfx ok12132 pd12133 (by omega) kd12134 kd12135 kd12136 (lv_sub hl [] rfl) hw hS
            · skip
              have bd13138 : (1 : Int) ≤ zi12130.toInt ∧ zi12130.toInt ≤ 4 := r_le_x (Int32.not_lt.mp cn13136) bd12138 bc_4 (by decide) (by decide)
              refine lv_aload_n hx hb dX0_find_92 rfl (lv_at hl 0 rfl) ?_
              obtain ⟨zi13140, eq13139, bd13141⟩ := rd_1003 ok12132 kd12134
              refine p_get (ci := 0) (v := .int zi13140) (C := RX0) (T := TX0) (N := 8) hx hb hT iw_X0 hown hK hw hW kd12134 (by decide) rfl rfl 3 (by decide) eq13139 (hT _ tb_595) (fun _ h9 => h9) dX0_find_93 ?_
              refine lv_if_ne (tgt := 180) hx hb dX0_find_96 (by decide) (fun cn13142 => ?_) (fun cn13142 => ?_)
              · skip
                have tf13143 : (zi13140 : Int32).toInt ≠ (0 : Int32).toInt := fun e => cn13142 (Int32.toInt_inj.mp e)
                have := toi bc_0
                have bd13144 : (1 : Int) ≤ zi13140.toInt ∧ zi13140.toInt ≤ 4 := r_ne_lo cn13142 bd13141 (toi bc_0) (by decide) (by decide)
                exact jn13131 K ln Ls gn hp12131 _ _ ls hW gex gfx ok12132 pd12133 (by omega) kd12134 kd12135 kd12136 (lv_sub hl [] rfl) hw hS
              · skip
                have bd13145 : (0 : Int) ≤ zi13140.toInt ∧ zi13140.toInt ≤ 0 := r_eq_x cn13142 bd13141 bc_0 (by decide) (by decide)
                refine lv_aload_n hx hb dX0_find_99 rfl (lv_at hl 0 rfl) ?_
                obtain ⟨qa13147, eq13146, kd13148⟩ := rd_1000 ok12132 kd12134
                refine p_get (ci := 0) (v := .ref qa13147) (C := RX0) (T := TX0) (N := 8) hx hb hT iw_X0 hown hK hw hW kd12134 (by decide) rfl rfl 0 (by decide) eq13146 (hT _ tb_591) (fun _ h9 => h9) dX0_find_100 ?_
                obtain ⟨zi13150, eq13149, bd13151⟩ := rd_4006 ok12132 kd13148
                have nz13152 := (pd12133).sz kd13148 eq13149
                refine p_getN (ci := 3) (v := .int zi13150) (C := RX3) (T := TX3) (N := 7) hx hb hT iw_X3 hown hK hw hW kd13148 (by decide) rfl rfl 6 (by decide) eq13149 (hK.fl nw_400) (fun _ h9 => h9) dX0_find_103 ?_
                refine lv_istore (lv' := [(7, .int zi13150), (0, .ref qa900), (1, .ref qa901), (3, .int zi903), (5, .int zi12129), (6, .int zi12130)]) hx hb dX0_find_106 hl (by decide) rfl (fun ls hl => ?_)
                refine lv_iload hx hb dX0_find_108 (lv_at hl 4 rfl) ?_
                refine lv_istore (lv' := [(8, .int zi12129), (7, .int zi13150), (0, .ref qa900), (1, .ref qa901), (3, .int zi903), (5, .int zi12129), (6, .int zi12130)]) hx hb dX0_find_110 hl (by decide) rfl (fun ls hl => ?_)
                have jn13548 : ∀ (K ln : Nat → Nat) (Ls : List Nat) (gn : Nat) (hp13542 : Nat → Nat → Value)  (H : Heap) (locs : List Loc) (ls : Array Slot), SW K ln Ls → EXx K0 ln0 K ln → FrX wsC K0 hp0 hp13542 → Ok K hp13542 → NSx K ln hp13542 gn → g0 ≤ gn → K qa900 = 1 → K qa901 = 11 → K qa902 = 8 → lv_has ls 9 [(0, .ref qa900), (1, .ref qa901), (3, .int zi903), (6, .int zi12130), (7, .int zi13150)] → PW G cy K ln Ls A hp13542 H → va_S A s.heap H locs → W p l e ({ frames := 6, cells := 327680, slots := 4580352, locals := 150 } : Room) s m ([.ref qa900, .ref qa901, .ref qa902, .int zi903, .int zi904] : List Value).toArray below meth c H locs (gn - g0) (14 * (gn - g0)) Q (F0 m 170 ls []) := by
                  intro K ln Ls gn hp13542 H locs ls hW gex gfx ok13543 pd13544 hga kd13545 kd13546 kd13547 hl hw hS
                  have hgn := NSx.bd pd13544
                  refine lv_iload hx hb dX0_find_170 (lv_at hl 4 rfl) ?_
                  refine lv_istore (lv' := [(5, .int zi13150), (0, .ref qa900), (1, .ref qa901), (3, .int zi903), (6, .int zi12130), (7, .int zi13150)]) hx hb dX0_find_172 hl (by decide) rfl (fun ls hl => ?_)
                  obtain ⟨zi13549, ea13550⟩ : ∃ z : Int32, z = zi12130 + 1 := ⟨_, rfl⟩
                  have bd13551 : (2 : Int) ≤ zi13549.toInt ∧ zi13549.toInt ≤ 5 := b_iadd ea13550 bd13138 bc_1 (by decide) (by decide) (by decide) (by decide)
                  have qe13552 : zi13549.toInt = (zi12130 : Int32).toInt + (1 : Int32).toInt := e_iadd ea13550 bd13138 bc_1 (by decide) (by decide)
                  have qe13553 : zi13549.toInt = zi12130.toInt + 1 := by have ha : (1 : Int32).toInt = 1 := (by decide); rw [ha] at qe13552; exact qe13552
                  refine lv_iinc (v := zi13549) (lv' := [(6, .int zi13549), (5, .int zi13150), (0, .ref qa900), (1, .ref qa901), (3, .int zi903), (7, .int zi13150)]) hx hb dX0_find_174 hl (k := 4) rfl ea13550.symm (by decide) rfl (fun ls hl => ?_)
                  refine lv_goto (tgt := 86) hx hb dX0_find_177 (by decide) ?_
                  exact ih13133 K ln Ls gn hp13542 zi13150 zi13549 _ _ ls (by have := hm13135; have := qe13553; omega) hW gex gfx ok13543 pd13544 (by omega) kd13545 kd13546 kd13547 (b_wid2 bd13151 (by decide) (by decide)) (b_wid2 bd13551 (by decide) (by decide)) (lv_sub hl [2, 3, 4, 1, 0] rfl) hw hS
                have lp13556 : ∀ (n13554 : Nat) (K ln : Nat → Nat) (Ls : List Nat) (gn : Nat) (hp13392 : Nat → Nat → Value) (zi13391 : Int32) (H : Heap) (locs : List Loc) (ls : Array Slot), 131072 - zi13391.toInt < (n13554 : Int) → SW K ln Ls → EXx K0 ln0 K ln → FrX wsC K0 hp0 hp13392 → Ok K hp13392 → NSx K ln hp13392 gn → g0 ≤ gn → K qa900 = 1 → K qa901 = 11 → K qa902 = 8 → ((0 : Int) ≤ zi13391.toInt ∧ zi13391.toInt ≤ 131072) → ((zi13150 : Int32).toInt ≤ (gn : Nat)) → lv_has ls 9 [(0, .ref qa900), (1, .ref qa901), (3, .int zi903), (6, .int zi12130), (7, .int zi13150), (8, .int zi13391)] → PW G cy K ln Ls A hp13392 H → va_S A s.heap H locs → W p l e ({ frames := 6, cells := 327680, slots := 4580352, locals := 150 } : Room) s m ([.ref qa900, .ref qa901, .ref qa902, .int zi903, .int zi904] : List Value).toArray below meth c H locs (gn - g0) (14 * (gn - g0)) Q (F0 m 112 ls []) := by
                  intro n13554
                  induction n13554 with
                  | zero =>
                    intro K ln Ls gn hp13392 zi13391 H locs ls hm13557 hW gex gfx ok13393 pd13394 hga kd13395 kd13396 kd13397 bd13399 rq13398 hl hw hS
                    exact absurd hm13557 (by have := bd13399; omega)
                  | succ n13554 ih13555 =>
                    intro K ln Ls gn hp13392 zi13391 H locs ls hm13557 hW gex gfx ok13393 pd13394 hga kd13395 kd13396 kd13397 bd13399 rq13398 hl hw hS
                    have hgn := NSx.bd pd13394
                    refine lv_iload hx hb dX0_find_112 (lv_at hl 5 rfl) ?_
                    refine lv_iload hx hb dX0_find_114 (lv_at hl 4 rfl) ?_
                    refine lv_icmp_ge (tgt := 170) hx hb dX0_find_116 (by decide) (fun cn13558 => ?_) (fun cn13558 => ?_)
                    · skip
                      have tf13559 : zi13150.toInt ≤ zi13391.toInt := (fa_le _ _).mp cn13558
                      exact jn13548 K ln Ls gn hp13392 _ _ ls hW gex gfx ok13393 pd13394 (by omega) kd13395 kd13396 kd13397 (lv_sub hl [0, 1, 2, 3, 4] rfl) hw hS
                    · skip
                      have tf13560 : zi13391.toInt < zi13150.toInt := (fa_lt _ _).mp (Int32.not_le.mp cn13558)
                      have bd13561 : (0 : Int) ≤ zi13391.toInt ∧ zi13391.toInt ≤ 131071 := r_lt_x (Int32.not_le.mp cn13558) bd13399 bd13151 (by decide) (by decide)
                      have bd13562 : (1 : Int) ≤ zi13150.toInt ∧ zi13150.toInt ≤ 131072 := r_lt_y (Int32.not_le.mp cn13558) bd13399 bd13151 (by decide) (by decide)
                      refine lv_aload_n hx hb dX0_find_119 rfl (lv_at hl 0 rfl) ?_
                      obtain ⟨zi13564, eq13563, bd13565⟩ := rd_1003 ok13393 kd13395
                      refine p_get (ci := 0) (v := .int zi13564) (C := RX0) (T := TX0) (N := 8) hx hb hT iw_X0 hown hK hw hW kd13395 (by decide) rfl rfl 3 (by decide) eq13563 (hT _ tb_595) (fun _ h9 => h9) dX0_find_120 ?_
                      refine lv_if_ne (tgt := 170) hx hb dX0_find_123 (by decide) (fun cn13566 => ?_) (fun cn13566 => ?_)
                      · skip
                        have tf13567 : (zi13564 : Int32).toInt ≠ (0 : Int32).toInt := fun e => cn13566 (Int32.toInt_inj.mp e)
                        have := toi bc_0
                        have bd13568 : (1 : Int) ≤ zi13564.toInt ∧ zi13564.toInt ≤ 4 := r_ne_lo cn13566 bd13565 (toi bc_0) (by decide) (by decide)
                        exact jn13548 K ln Ls gn hp13392 _ _ ls hW gex gfx ok13393 pd13394 (by omega) kd13395 kd13396 kd13397 (lv_sub hl [0, 1, 2, 3, 4] rfl) hw hS
                      · skip
                        have bd13569 : (0 : Int) ≤ zi13564.toInt ∧ zi13564.toInt ≤ 0 := r_eq_x cn13566 bd13565 bc_0 (by decide) (by decide)
                        refine lv_aload_n hx hb dX0_find_126 rfl (lv_at hl 1 rfl) ?_
                        obtain ⟨qa13571, eq13570, kd13572⟩ := rd_11016 ok13393 kd13396
                        refine p_getN (ci := 10) (v := .ref qa13571) (C := RX10) (T := TX10) (N := 20) hx hb hT iw_X10 hown hK hw hW kd13396 (by decide) rfl rfl 16 (by decide) eq13570 (hK.fl nw_131) (fun _ h9 => h9) dX0_find_127 ?_
                        refine lv_iload_n hx hb dX0_find_130 rfl (lv_at hl 2 rfl) ?_
                        obtain ⟨zi13574, eq13573⟩ := rd_54000 ok13393 kd13572 ((zi903 : Int32).toNatClampNeg)
                        refine p_iald (v := zi13574) hx hb hK hw hW kd13572 (by decide) rfl (hW.len kd13572 (n := 8) rfl (by decide)) (vp_b bd903 (by decide) (by decide)) eq13573 dX0_find_131 ?_
                        refine lv_aload_n hx hb dX0_find_132 rfl (lv_at hl 0 rfl) ?_
                        obtain ⟨qa13576, eq13575, kd13577⟩ := rd_1000 ok13393 kd13395
                        refine p_get (ci := 0) (v := .ref qa13576) (C := RX0) (T := TX0) (N := 8) hx hb hT iw_X0 hown hK hw hW kd13395 (by decide) rfl rfl 0 (by decide) eq13575 (hT _ tb_591) (fun _ h9 => h9) dX0_find_133 ?_
                        obtain ⟨qa13579, eq13578, kd13580⟩ := rd_4001 ok13393 kd13577
                        have ln13581 := (pd13394).ref kd13577 (by decide) eq13578
                        refine p_getN (ci := 3) (v := .ref qa13579) (C := RX3) (T := TX3) (N := 7) hx hb hT iw_X3 hown hK hw hW kd13577 (by decide) rfl rfl 1 (by decide) eq13578 (hK.fl nw_392) (fun _ h9 => h9) dX0_find_136 ?_
                        refine lv_iload hx hb dX0_find_139 (lv_at hl 5 rfl) ?_
                        obtain ⟨zi13583, eq13582⟩ := rd_29000 ok13393 kd13580 ((zi13391 : Int32).toNatClampNeg)
                        refine p_iald (v := zi13583) hx hb hK hw hW kd13580 (by decide) rfl ln13581 (vp_bv (by omega) (by omega)) eq13582 dX0_find_141 ?_
                        refine lv_isub hx hb dX0_find_142 (lv_topi (fun zi13584 ea13585 => ?_))
                        refine lv_iconst (v := 4) hx hb dX0_find_143 (by decide) ?_
                        refine lv_iload hx hb dX0_find_144 (lv_at hl 3 rfl) ?_
                        refine lv_isub hx hb dX0_find_146 (lv_topi (fun zi13586 ea13587 => ?_))
                        have bd13588 : (0 : Int) ≤ zi13586.toInt ∧ zi13586.toInt ≤ 3 := b_isub ea13587 bc_4 bd13138 (by decide) (by decide) (by decide) (by decide)
                        have qe13589 : zi13586.toInt = (4 : Int32).toInt - (zi12130 : Int32).toInt := e_isub ea13587 bc_4 bd13138 (by decide) (by decide)
                        have qe13590 : zi13586.toInt = 4 - zi12130.toInt := by have ha : (4 : Int32).toInt = 4 := (by decide); rw [ha] at qe13589; exact qe13589
                        refine lv_iconst (v := 1) hx hb dX0_find_147 (by decide) ?_
                        refine lv_iadd hx hb dX0_find_148 (lv_topi (fun zi13591 ea13592 => ?_))
                        have bd13593 : (1 : Int) ≤ zi13591.toInt ∧ zi13591.toInt ≤ 4 := b_iadd ea13592 bd13588 bc_1 (by decide) (by decide) (by decide) (by decide)
                        have qe13594 : zi13591.toInt = (zi13586 : Int32).toInt + (1 : Int32).toInt := e_iadd ea13592 bd13588 bc_1 (by decide) (by decide)
                        have qe13595 : zi13591.toInt = zi13586.toInt + 1 := by have ha : (1 : Int32).toInt = 1 := (by decide); rw [ha] at qe13594; exact qe13594
                        refine kq_i hw hS hA (va_runS (As := [.int zi13584, .int zi13591]) (rest := []) ⟨hx, hb, hml, hown, hT⟩ (cX0_canCome_0 l G cy ev K ln Ls hW _ hp13392 ok13393 zi13584 zi13591) (va_cwS 2 hT (good_S tb_1187 tb_1185 tb_1186 tb_120) rfl rfl rfl (by decide +kernel) ⟨Nat.le_of_ble_eq_true rfl, Nat.le_of_ble_eq_true rfl⟩) (PB2.preS hK hE hS hA hw) rfl rfl hl.1 rfl (lv_room (Nat.le_of_ble_eq_true rfl)) dX0_find_149 ⟨(show (gn - g0) + 0 ≤ 327680 from by omega), (show (14 * (gn - g0)) + 0 ≤ 4580352 from by omega)⟩) (fun zi13600 hp13596 H locs hq13599 hw hS => ?_)
                        obtain ⟨ok13597, F13598, bd13601⟩ := hq13599
                        obtain rfl : hp13392 = hp13596 := (Fr.nil F13598).symm
                        have hw : PW G cy K ln Ls A hp13392 H := hw
                        refine lv_if_eq (tgt := 164) hx hb dX0_find_152 (by decide) (fun cn13602 => ?_) (fun cn13602 => ?_)
                        · skip
                          have bd13603 : (0 : Int) ≤ zi13600.toInt ∧ zi13600.toInt ≤ 0 := r_eq_x cn13602 bd13601 bc_0 (by decide) (by decide)
                          obtain ⟨zi13604, ea13605⟩ : ∃ z : Int32, z = zi13391 + 1 := ⟨_, rfl⟩
                          have bd13606 : (1 : Int) ≤ zi13604.toInt ∧ zi13604.toInt ≤ 131072 := b_iadd ea13605 bd13561 bc_1 (by decide) (by decide) (by decide) (by decide)
                          have qe13607 : zi13604.toInt = (zi13391 : Int32).toInt + (1 : Int32).toInt := e_iadd ea13605 bd13561 bc_1 (by decide) (by decide)
                          have qe13608 : zi13604.toInt = zi13391.toInt + 1 := by have ha : (1 : Int32).toInt = 1 := (by decide); rw [ha] at qe13607; exact qe13607
                          refine lv_iinc (v := zi13604) (lv' := [(8, .int zi13604), (0, .ref qa900), (1, .ref qa901), (3, .int zi903), (6, .int zi12130), (7, .int zi13150)]) hx hb dX0_find_164 hl (k := 5) rfl ea13605.symm (by decide) rfl (fun ls hl => ?_)
                          refine lv_goto (tgt := 112) hx hb dX0_find_167 (by decide) ?_
                          exact ih13555 K ln Ls gn hp13392 zi13604 _ _ ls (by have := hm13557; have := qe13608; omega) hW gex gfx ok13393 pd13394 (by omega) kd13395 kd13396 kd13397 (b_wid2 bd13606 (by decide) (by decide)) (by omega) (lv_sub hl [1, 2, 3, 4, 5, 0] rfl) hw hS
                        · skip
                          have tf13609 : (zi13600 : Int32).toInt ≠ (0 : Int32).toInt := fun e => cn13602 (Int32.toInt_inj.mp e)
                          have := toi bc_0
                          have bd13610 : (1 : Int) ≤ zi13600.toInt ∧ zi13600.toInt ≤ 1 := r_ne_lo cn13602 bd13601 (toi bc_0) (by decide) (by decide)
                          refine lv_aload_n hx hb dX0_find_155 rfl (lv_at hl 0 rfl) ?_
                          refine lv_aload_n hx hb dX0_find_156 rfl (lv_at hl 1 rfl) ?_
                          refine lv_iload hx hb dX0_find_157 (lv_at hl 5 rfl) ?_
                          refine lv_iload hx hb dX0_find_159 (lv_at hl 3 rfl) ?_
                          have gf13618 : FrX wsC K0 hp0 hp13392 := gfx
                          refine kg_v hw hS hA (va_runV (As := [.ref qa901, .int zi13391, .int zi12130]) (rest := []) ⟨hx, hb, hml, hown, hT⟩ (Met.szx (cX0_expand_0 l G cy ev K ln Ls hW _ hp13392 ok13393 qa900 qa901 zi13391 zi12130 gn kd13395 kd13396 (b_wid2 bd13561 (by decide) (by decide)) (b_wid2 bd13138 (by decide) (by decide)) pd13394 (by omega))) (cwV 3 hT (good_V tb_1191 tb_1188 tb_1190 tb_36 tb_120) rfl rfl rfl (by decide +kernel) ⟨Nat.le_of_ble_eq_true rfl, Nat.le_of_ble_eq_true rfl⟩) (pool_preV (ci := 0) hK hE hS hA hw hW kd13395 (by decide) rfl) rfl rfl hl.1 rfl (lv_room (Nat.le_of_ble_eq_true rfl)) dX0_find_161 ⟨(show (gn - g0) + 196608 ≤ 327680 from by omega), (show (14 * (gn - g0)) + 2748928 ≤ 4580352 from by omega)⟩) (fun u gn H locs hq13611 hw hS => ?_)
                          obtain ⟨K, ln, Ls, hp13612⟩ := u
                          obtain ⟨ex13614, hW, ok13613, fx13615, pd13616, hle13617⟩ := hq13611
                          have ex13614 : EXx _ _ K ln := ex13614
                          have hW : SW K ln Ls := hW
                          have ok13613 : Ok K hp13612 := ok13613
                          have fx13615 : FrX _ _ _ hp13612 := fx13615
                          have pd13616 : NSx K ln hp13612 gn := pd13616
                          have hle13617 : _ ≤ gn := hle13617
                          have hw : PW G cy K ln Ls A hp13612 H := hw
                          have gfx : FrX wsC K0 hp0 hp13612 := FrX.tr gf13618 gex fx13615 (by decide +kernel)
                          have gex := EXx.tr gex ex13614
                          have kd13621 := EXx.kd ex13614 kd13397 (by decide)
                          have kd13622 := EXx.kd ex13614 kd13396 (by decide)
                          have kd13623 := EXx.kd ex13614 kd13395 (by decide)
                          (try clear kd13395); (try clear kd13396); (try clear kd13397); (try clear kd13572); (try clear kd13577); (try clear kd13580); (try clear ln13581)
                          have hgn := NSx.bd pd13616
                          refine W.widen (k := gn - g0) (n := 14 * (gn - g0)) (by omega) (by omega) ?_
                          have hga : g0 ≤ gn := by omega
                          obtain ⟨zi13624, ea13625⟩ : ∃ z : Int32, z = zi13391 + 1 := ⟨_, rfl⟩
                          have bd13626 : (1 : Int) ≤ zi13624.toInt ∧ zi13624.toInt ≤ 131072 := b_iadd ea13625 bd13561 bc_1 (by decide) (by decide) (by decide) (by decide)
                          have qe13627 : zi13624.toInt = (zi13391 : Int32).toInt + (1 : Int32).toInt := e_iadd ea13625 bd13561 bc_1 (by decide) (by decide)
                          have qe13628 : zi13624.toInt = zi13391.toInt + 1 := by have ha : (1 : Int32).toInt = 1 := (by decide); rw [ha] at qe13627; exact qe13627
                          refine lv_iinc (v := zi13624) (lv' := [(8, .int zi13624), (0, .ref qa900), (1, .ref qa901), (3, .int zi903), (6, .int zi12130), (7, .int zi13150)]) hx hb dX0_find_164 hl (k := 5) rfl ea13625.symm (by decide) rfl (fun ls hl => ?_)
                          refine lv_goto (tgt := 112) hx hb dX0_find_167 (by decide) ?_
                          exact ih13555 K ln Ls gn hp13612 zi13624 _ _ ls (by have := hm13557; have := qe13628; omega) hW gex gfx ok13613 pd13616 (by omega) kd13623 kd13622 kd13621 (b_wid2 bd13626 (by decide) (by decide)) (by omega) (lv_sub hl [1, 2, 3, 4, 5, 0] rfl) hw hS
                exact lp13556 _ K ln Ls gn hp12131 zi12129 _ _ ls (lp_in _) hW gex gfx ok12132 pd12133 (by omega) kd12134 kd12135 kd12136 (b_wid2 bd12137 (by decide) (by decide)) (by omega) (lv_sub hl [2, 3, 4, 6, 1, 0] rfl) hw hS
        exact lp13134 _ K ln Ls gn hp9132 0 1 _ _ ls (lp_in _) hW gex gfx ok9133 pd9136 (by omega) kd9143 kd9142 kd9141 (b_wid2 bc_0 (by decide) (by decide)) (b_wid2 bc_1 (by decide) (by decide)) (lv_sub hl [2, 3, 5, 1, 0] rfl) hw hS
      · skip
        have tf13629 : zi9089.toInt = zi904.toInt := congrArg Int32.toInt cn9090
        have bd13630 : (0 : Int) ≤ zi9089.toInt ∧ zi9089.toInt ≤ 7 := r_eq_x cn9090 (b_all zi9089) bd904 (by decide) (by decide)
        rw [hQ]
        exact kgz_v (n := g0) hx hb hr hlocks hS (((K, ln, Ls, hp0), gn) : GU × Nat) hw ⟨gex, hW, ok1, gfx, pdNS, (by omega)⟩ (show (gn - g0) ≤ gn - g0 from by omega) (show (14 * (gn - g0)) ≤ 14 * (gn - g0) from by omega) (show (gn - g0) ≤ 327680 from by omega) (show (14 * (gn - g0)) ≤ 4580352 from by omega) dX0_find_24
