set_option maxRecDepth 100000 in
set_option maxHeartbeats 4000000 in
theorem cX1_find_0 (l : Launch) (G : va_G) (cy : Nat → ClassId) (ev : Ew) (K0 ln0 : Nat → Nat) (Ls0 : List Nat) (hW0 : SW K0 ln0 Ls0) (sz : Nat) (hp0 : Nat → Nat → Value) (ok0 : Ok K0 hp0) (qa900 : Nat) (qa901 : Nat) (zi902 : Int32) (g0 : Nat) (kd900 : K0 qa900 = 2) (kd901 : K0 qa901 = 11) (bd902 : ((0 : Int) ≤ zi902.toInt ∧ zi902.toInt ≤ 5)) (pdNS : NSx K0 ln0 hp0 g0) : Met l yX1_find (WS yX1_find cX1_find 7 none) { frames := 6, cells := 327680, slots := 4580352, locals := 157 } (PB2 [.ref qa900, .ref qa901, .int zi902] sz G cy ev (va_pl Ls0 (cellOf cy K0 ln0 hp0))) (QGv (fun u : GU × Nat => GPx wsC K0 ln0 hp0 g0 u.1 u.2) G cy g0 (va_A (va_pl Ls0 (cellOf cy K0 ln0 hp0)) sz)) 327680 4580352 (va_A (va_pl Ls0 (cellOf cy K0 ln0 hp0)) sz) := by
  refine met_of2 (y := yX1_find) (L := 7) (av := [.ref qa900, .ref qa901, .int zi902]) (Qc := fun A => QGv (fun u : GU × Nat => GPx wsC K0 ln0 hp0 g0 u.1 u.2) G cy g0 A) (plainFor_of_name (by decide)) (Nat.le_of_ble_eq_true rfl) ?_
  intro p e s m below meth c hsz hx hb hr hml hown hT hlocks hin hK A hA hE hw hS ls hl
  have hw : PW G cy K0 ln0 Ls0 A hp0 s.heap := hw
  have hown : s.vm.findClass "LieClock$Book" = some m.cls := hown
  have hl : lv_has ls 7 [(0, .ref qa900), (1, .ref qa901), (2, .int zi902)] := hl
  obtain ⟨Q, hQ⟩ : ∃ Q : State → Prop, Q = MQ below (QGv (fun u : GU × Nat => GPx wsC K0 ln0 hp0 g0 u.1 u.2) G cy g0 A) ([.ref qa900, .ref qa901, .int zi902] : List Value).toArray s 327680 4580352 A := ⟨_, rfl⟩
  rw [← hQ]
  obtain ⟨K, ln, Ls, gn, hW, gex, gfx, ok1, hKe, hga, hge, kd900, kd901, pdNS, hw⟩ : ∃ (K ln : Nat → Nat) (Ls : List Nat) (gn : Nat), SW K ln Ls ∧ EXx K0 ln0 K ln ∧ FrX wsC K0 hp0 hp0 ∧ Ok K hp0 ∧ K = K0 ∧ g0 ≤ gn ∧ gn = g0 ∧ (K qa900 = 2) ∧ (K qa901 = 11) ∧ (NSx K ln hp0 gn) ∧ PW G cy K ln Ls A hp0 s.heap := ⟨K0, ln0, Ls0, g0, hW0, EXx.rf, FrX.rf, ok0, rfl, Nat.le_refl _, rfl, kd900, kd901, pdNS, hw⟩
  have hg0 : 256 ≤ g0 ∧ g0 ≤ 131072 := by have := NSx.bd pdNS; omega
  refine W.widen (k := gn - g0) (n := 14 * (gn - g0)) (Nat.zero_le _) (Nat.zero_le _) ?_
  have hgn := NSx.bd pdNS
  refine lv_aload_n hx hb dX1_find_0 rfl (lv_at hl 0 rfl) ?_
  obtain ⟨qa2, eq1, kd3⟩ := rd_2004 ok1 kd900
  refine p_get (ci := 1) (v := .ref qa2) (C := RX1) (T := TX1) (N := 8) hx hb hT iw_X1 hown hK hw hW kd900 (by decide) rfl rfl 4 (by decide) eq1 (hT _ tb_633) (fun _ h9 => h9) dX1_find_1 ?_
  refine lv_iload_n hx hb dX1_find_4 rfl (lv_at hl 2 rfl) ?_
  obtain ⟨zi5, eq4, bd6⟩ := rd_22000 ok1 kd3 ((zi902 : Int32).toNatClampNeg)
  refine p_zald (v := zi5) hx hb hK hw hW kd3 (by decide) rfl (hW.len kd3 (n := 6) rfl (by decide)) (vp_b bd902 (by decide) (by decide)) eq4 dX1_find_5 ?_
  refine lv_if_eq (tgt := 10) hx hb dX1_find_6 (by decide) (fun cn7 => ?_) (fun cn7 => ?_)
  · skip
    have bd8 : (0 : Int) ≤ zi5.toInt ∧ zi5.toInt ≤ 0 := r_eq_x cn7 bd6 bc_0 (by decide) (by decide)
    refine lv_aload_n hx hb dX1_find_10 rfl (lv_at hl 0 rfl) ?_
    refine p_get (ci := 1) (v := .ref qa2) (C := RX1) (T := TX1) (N := 8) hx hb hT iw_X1 hown hK hw hW kd900 (by decide) rfl rfl 4 (by decide) eq1 (hT _ tb_633) (fun _ h9 => h9) dX1_find_11 ?_
    refine lv_iload_n hx hb dX1_find_14 rfl (lv_at hl 2 rfl) ?_
    refine lv_iconst (v := 1) hx hb dX1_find_15 (by decide) ?_
    refine p_zast (x := 1) hx hb hK hw hS hW kd3 (by decide) rfl (hW.len kd3 (n := 6) rfl (by decide)) (vp_b bd902 (by decide) (by decide)) dX1_find_16 (fun hp9 eh10 H locs hw hS => ?_)
    have ok11 := wr_22000 (nar_z 1) (by decide) (by decide) ok1 kd3 eh10
    refine lv_aload_n hx hb dX1_find_17 rfl (lv_at hl 0 rfl) ?_
    obtain ⟨qa13, eq12, kd14⟩ := rd_2005 ok11 kd900
    refine p_get (ci := 1) (v := .ref qa13) (C := RX1) (T := TX1) (N := 8) hx hb hT iw_X1 hown hK hw hW kd900 (by decide) rfl rfl 5 (by decide) eq12 (hT _ tb_634) (fun _ h9 => h9) dX1_find_18 ?_
    refine lv_iload_n hx hb dX1_find_21 rfl (lv_at hl 2 rfl) ?_
    refine lv_iload_n hx hb dX1_find_22 rfl (lv_at hl 2 rfl) ?_
    refine lv_if_ne (tgt := 30) hx hb dX1_find_23 (by decide) (fun cn15 => ?_) (fun cn15 => ?_)
    · skip
      have tf16 : (zi902 : Int32).toInt ≠ (0 : Int32).toInt := fun e => cn15 (Int32.toInt_inj.mp e)
      have := toi bc_0
      have bd17 : (1 : Int) ≤ zi902.toInt ∧ zi902.toInt ≤ 5 := r_ne_lo cn15 bd902 (toi bc_0) (by decide) (by decide)
      refine lv_lconst (v := 0) hx hb dX1_find_30 (by decide) ?_
      refine p_last (x := 0) hx hb hK hw hS hW kd14 (by decide) rfl (hW.len kd14 (n := 6) rfl (by decide)) (vp_b bd17 (by decide) (by decide)) dX1_find_31 (fun hp18 eh19 H locs hw hS => ?_)
      have ok20 := wr_23000 ok11 kd14 eh19
      refine lv_aload_n hx hb dX1_find_32 rfl (lv_at hl 0 rfl) ?_
      obtain ⟨qa22, eq21, kd23⟩ := rd_2006 ok20 kd900
      refine p_get (ci := 1) (v := .ref qa22) (C := RX1) (T := TX1) (N := 8) hx hb hT iw_X1 hown hK hw hW kd900 (by decide) rfl rfl 6 (by decide) eq21 (hT _ tb_636) (fun _ h9 => h9) dX1_find_33 ?_
      refine lv_iload_n hx hb dX1_find_36 rfl (lv_at hl 2 rfl) ?_
      refine lv_iload_n hx hb dX1_find_37 rfl (lv_at hl 2 rfl) ?_
      refine lv_if_ne (tgt := 45) hx hb dX1_find_38 (by decide) (fun _ => ?_) (fun c => absurd c (d_ne bd17 bc_0 (by decide)))
      refine lv_iconst (v := 1) hx hb dX1_find_45 (by decide) ?_
      refine lv_aload_n hx hb dX1_find_46 rfl (lv_at hl 1 rfl) ?_
      obtain ⟨zi25, eq24, bd26⟩ := rd_11004 ok20 kd901
      refine p_getN (ci := 10) (v := .int zi25) (C := RX10) (T := TX10) (N := 20) hx hb hT iw_X10 hown hK hw hW kd901 (by decide) rfl rfl 4 (by decide) eq24 (hK.fl nw_97) (fun _ h9 => h9) dX1_find_47 ?_
      refine lv_ishl hx hb dX1_find_50 (lv_topi (fun zi27 ea28 => ?_))
      have bd29 : (1 : Int) ≤ zi27.toInt ∧ zi27.toInt ≤ 65536 := b_shl1 16 ea28 bd26 (by decide) (by decide) (by decide) (by decide) (by decide)
      refine lv_iconst (v := 1) hx hb dX1_find_51 (by decide) ?_
      refine lv_isub hx hb dX1_find_52 (lv_topi (fun zi30 ea31 => ?_))
      have bd32 : (0 : Int) ≤ zi30.toInt ∧ zi30.toInt ≤ 65535 := b_isub ea31 bd29 bc_1 (by decide) (by decide) (by decide) (by decide)
      have qe33 : zi30.toInt = (zi27 : Int32).toInt - (1 : Int32).toInt := e_isub ea31 bd29 bc_1 (by decide) (by decide)
      have qe34 : zi30.toInt = zi27.toInt - 1 := by have ha : (1 : Int32).toInt = 1 := (by decide); rw [ha] at qe33; exact qe33
      refine p_iast (x := zi30) hx hb hK hw hS hW kd23 (by decide) rfl (hW.len kd23 (n := 6) rfl (by decide)) (vp_b bd17 (by decide) (by decide)) dX1_find_53 (fun hp35 eh36 H locs hw hS => ?_)
      have ok37 := wr_24000 ok20 kd23 eh36
      refine lv_aload_n hx hb dX1_find_54 rfl (lv_at hl 0 rfl) ?_
      obtain ⟨qa39, eq38, kd40⟩ := rd_2007 ok37 kd900
      refine p_get (ci := 1) (v := .ref qa39) (C := RX1) (T := TX1) (N := 8) hx hb hT iw_X1 hown hK hw hW kd900 (by decide) rfl rfl 7 (by decide) eq38 (hT _ tb_638) (fun _ h9 => h9) dX1_find_55 ?_
      refine lv_iload_n hx hb dX1_find_58 rfl (lv_at hl 2 rfl) ?_
      refine lv_iload_n hx hb dX1_find_59 rfl (lv_at hl 2 rfl) ?_
      refine lv_if_ne (tgt := 67) hx hb dX1_find_60 (by decide) (fun _ => ?_) (fun c => absurd c (d_ne bd17 bc_0 (by decide)))
      refine lv_iconst (v := 1) hx hb dX1_find_67 (by decide) ?_
      refine lv_aload_n hx hb dX1_find_68 rfl (lv_at hl 1 rfl) ?_
      obtain ⟨zi42, eq41, bd43⟩ := rd_11003 ok37 kd901
      refine p_getN (ci := 10) (v := .int zi42) (C := RX10) (T := TX10) (N := 20) hx hb hT iw_X10 hown hK hw hW kd901 (by decide) rfl rfl 3 (by decide) eq41 (hK.fl nw_89) (fun _ h9 => h9) dX1_find_69 ?_
      refine lv_ishl hx hb dX1_find_72 (lv_topi (fun zi44 ea45 => ?_))
      have bd46 : (1 : Int) ≤ zi44.toInt ∧ zi44.toInt ≤ 64 := b_shl1 6 ea45 bd43 (by decide) (by decide) (by decide) (by decide) (by decide)
      refine lv_iconst (v := 1) hx hb dX1_find_73 (by decide) ?_
      refine lv_isub hx hb dX1_find_74 (lv_topi (fun zi47 ea48 => ?_))
      have bd49 : (0 : Int) ≤ zi47.toInt ∧ zi47.toInt ≤ 63 := b_isub ea48 bd46 bc_1 (by decide) (by decide) (by decide) (by decide)
      have qe50 : zi47.toInt = (zi44 : Int32).toInt - (1 : Int32).toInt := e_isub ea48 bd46 bc_1 (by decide) (by decide)
      have qe51 : zi47.toInt = zi44.toInt - 1 := by have ha : (1 : Int32).toInt = 1 := (by decide); rw [ha] at qe50; exact qe50
      refine p_iast (x := zi47) hx hb hK hw hS hW kd40 (by decide) rfl (hW.len kd40 (n := 6) rfl (by decide)) (vp_b bd17 (by decide) (by decide)) dX1_find_75 (fun hp52 eh53 H locs hw hS => ?_)
      have ok54 := wr_25000 ok37 kd40 eh53
      refine lv_aload_n hx hb dX1_find_76 rfl (lv_at hl 0 rfl) ?_
      obtain ⟨qa56, eq55, kd57⟩ := rd_2000 ok54 kd900
      refine p_get (ci := 1) (v := .ref qa56) (C := RX1) (T := TX1) (N := 8) hx hb hT iw_X1 hown hK hw hW kd900 (by decide) rfl rfl 0 (by decide) eq55 (hT _ tb_628) (fun _ h9 => h9) dX1_find_77 ?_
      have pd58 : NSx K ln hp52 gn := NSx_fr ok1  (show Fr [22000, 23000, 24000, 25000] K hp0 hp52 from (Fr.put (cq := 25000) (Fr.put (cq := 24000) (Fr.put (cq := 23000) (Fr.put (cq := 22000) (Fr.rf) eh10 kd3 (cd_a (by decide)) (by decide)) eh19 kd14 (cd_a (by decide)) (by decide)) eh36 kd23 (cd_a (by decide)) (by decide)) eh53 kd40 (cd_a (by decide)) (by decide))) (by decide) pdNS
      refine kq_v hw hS hA (va_runV (As := []) (rest := []) ⟨hx, hb, hml, hown, hT⟩ (cX3_clear_0 l G cy ev K ln Ls hW _ hp52 ok54 qa56 gn kd57 pd58) (cwV 0 hT (good_V tb_1136 tb_1317 tb_1134 tb_1135 tb_117) rfl rfl rfl (by decide +kernel) ⟨Nat.le_of_ble_eq_true rfl, Nat.le_of_ble_eq_true rfl⟩) (pool_preV (ci := 3) hK hE hS hA hw hW kd57 (by decide) rfl) rfl rfl hl.1 rfl (lv_room (Nat.le_of_ble_eq_true rfl)) dX1_find_80 ⟨(show (gn - g0) + 0 ≤ 327680 from by omega), (show (14 * (gn - g0)) + 0 ≤ 4580352 from by omega)⟩) (fun hp59 H locs hq62 hw hS => ?_)
      obtain ⟨ok60, F61, ⟨zi64, eq65, bd66⟩, xq67⟩ := hq62
      have hw : PW G cy K ln Ls A hp59 H := hw
      refine lv_aload_n hx hb dX1_find_83 rfl (lv_at hl 0 rfl) ?_
      obtain ⟨qa69, eq68, kd70⟩ := rd_2001 ok60 kd900
      refine p_get (ci := 1) (v := .ref qa69) (C := RX1) (T := TX1) (N := 8) hx hb hT iw_X1 hown hK hw hW kd900 (by decide) rfl rfl 1 (by decide) eq68 (hT _ tb_629) (fun _ h9 => h9) dX1_find_84 ?_
      refine lv_aload_n hx hb dX1_find_87 rfl (lv_at hl 1 rfl) ?_
      refine kq_v hw hS hA (va_runV (As := [.ref qa901]) (rest := []) ⟨hx, hb, hml, hown, hT⟩ (cX7_begin_0 l G cy ev K ln Ls hW _ hp59 ok60 qa69 qa901 kd70 kd901) (cwV 1 hT (good_V tb_474 tb_1318 tb_472 tb_473 tb_115) rfl rfl rfl (by decide +kernel) ⟨Nat.le_of_ble_eq_true rfl, Nat.le_of_ble_eq_true rfl⟩) (pool_preV (ci := 7) hK hE hS hA hw hW kd70 (by decide) rfl) rfl rfl hl.1 rfl (lv_room (Nat.le_of_ble_eq_true rfl)) dX1_find_88 ⟨(show (gn - g0) + 0 ≤ 327680 from by omega), (show (14 * (gn - g0)) + 0 ≤ 4580352 from by omega)⟩) (fun hp71 H locs hq74 hw hS => ?_)
      obtain ⟨ok72, F73⟩ := hq74
      have hw : PW G cy K ln Ls A hp71 H := hw
      refine lv_aload_n hx hb dX1_find_91 rfl (lv_at hl 0 rfl) ?_
      have eq76 : hp71 qa900 0 = .ref qa56 := Eq.trans (Fr.at (cq := 2000) F73 kd900 (cd_o (by decide)) (by decide)) (Eq.trans (Fr.at (cq := 2000) F61 kd900 (cd_o (by decide)) (by decide)) eq55)
      refine p_get (ci := 1) (v := .ref qa56) (C := RX1) (T := TX1) (N := 8) hx hb hT iw_X1 hown hK hw hW kd900 (by decide) rfl rfl 0 (by decide) eq76 (hT _ tb_628) (fun _ h9 => h9) dX1_find_92 ?_
      refine lv_aload_n hx hb dX1_find_95 rfl (lv_at hl 0 rfl) ?_
      have eq77 : hp71 qa900 1 = .ref qa69 := Eq.trans (Fr.at (cq := 2001) F73 kd900 (cd_o (by decide)) (by decide)) eq68
      refine p_get (ci := 1) (v := .ref qa69) (C := RX1) (T := TX1) (N := 8) hx hb hT iw_X1 hown hK hw hW kd900 (by decide) rfl rfl 1 (by decide) eq77 (hT _ tb_629) (fun _ h9 => h9) dX1_find_96 ?_
      refine lv_iconst (v := 0) hx hb dX1_find_99 (by decide) ?_
      refine lv_lconst (v := 1) hx hb dX1_find_100 (by decide) ?_
      refine lv_iconst (v := 0) hx hb dX1_find_101 (by decide) ?_
      have pd78 : NSx K ln hp71 gn := NSx_fr ok60  (show Fr [8000, 8001, 8002, 8003, 8004, 8005, 40000, 41000, 42000] K hp59 hp71 from (Fr.tr (Fr.rf) F73 (by decide))) (by decide) xq67
      have gf86 : FrX wsC K0 hp0 hp71 := (FrX.tr gfx gex (FrX.of (show Fr [4006, 8000, 8001, 8002, 8003, 8004, 8005, 22000, 23000, 24000, 25000, 33000, 40000, 41000, 42000] K hp0 hp71 from (Fr.tr (Fr.tr (Fr.put (cq := 25000) (Fr.put (cq := 24000) (Fr.put (cq := 23000) (Fr.put (cq := 22000) (Fr.rf) eh10 kd3 (cd_a (by decide)) (by decide)) eh19 kd14 (cd_a (by decide)) (by decide)) eh36 kd23 (cd_a (by decide)) (by decide)) eh53 kd40 (cd_a (by decide)) (by decide)) F61 (by decide)) F73 (by decide)))) (by decide +kernel))
      refine kg_v hw hS hA (va_runV (As := [.ref qa69, .int 0, .long 1, .int 0]) (rest := []) ⟨hx, hb, hml, hown, hT⟩ (Met.szx (cX3_add_vG_0 l G cy ev K ln Ls hW _ hp71 ok72 qa56 qa69 0 1 0 gn kd57 kd70 pd78)) (cwV 4 hT (good_V tb_1142 tb_1319 tb_1140 tb_1141 tb_117) rfl rfl rfl (by decide +kernel) ⟨Nat.le_of_ble_eq_true rfl, Nat.le_of_ble_eq_true rfl⟩) (pool_preV (ci := 3) hK hE hS hA hw hW kd57 (by decide) rfl) rfl rfl hl.1 rfl (lv_room (Nat.le_of_ble_eq_true rfl)) dX1_find_102 ⟨(show (gn - g0) + 65536 ≤ 327680 from by omega), (show (14 * (gn - g0)) + 917504 ≤ 4580352 from by omega)⟩) (fun u gn H locs hq79 hw hS => ?_)
      obtain ⟨K, ln, Ls, hp80⟩ := u
      obtain ⟨ex82, hW, ok81, fx83, pd84, hle85⟩ := hq79
      have ex82 : EXx _ _ K ln := ex82
      have hW : SW K ln Ls := hW
      have ok81 : Ok K hp80 := ok81
      have fx83 : FrX _ _ _ hp80 := fx83
      have pd84 : NSx K ln hp80 gn := pd84
      have hle85 : _ ≤ gn := hle85
      have hw : PW G cy K ln Ls A hp80 H := hw
      have gfx : FrX wsC K0 hp0 hp80 := FrX.tr gf86 gex fx83 (by decide +kernel)
      have gex := EXx.tr gex ex82
      have kd89 := EXx.kd ex82 kd900 (by decide)
      have kd90 := EXx.kd ex82 kd901 (by decide)
      (try clear kd900); (try clear kd901); (try clear kd3); (try clear kd14); (try clear kd23); (try clear kd40); (try clear kd57); (try clear kd70)
      have hgn := NSx.bd pd84
      refine W.widen (k := gn - g0) (n := 14 * (gn - g0)) (by omega) (by omega) ?_
      have hga : g0 ≤ gn := by omega
      refine lv_iconst (v := 0) hx hb dX1_find_105 (by decide) ?_
      refine lv_istore_n (lv' := [(3, .int 0), (0, .ref qa900), (1, .ref qa901), (2, .int zi902)]) hx hb dX1_find_106 rfl hl (by decide) rfl (fun ls hl => ?_)
      refine lv_iconst (v := 1) hx hb dX1_find_107 (by decide) ?_
      refine lv_istore (lv' := [(4, .int 1), (3, .int 0), (0, .ref qa900), (1, .ref qa901), (2, .int zi902)]) hx hb dX1_find_108 hl (by decide) rfl (fun ls hl => ?_)
      have lp1647 : ∀ (n1645 : Nat) (K ln : Nat → Nat) (Ls : List Nat) (gn : Nat) (hp1272 : Nat → Nat → Value) (zi1270 : Int32) (zi1271 : Int32) (H : Heap) (locs : List Loc) (ls : Array Slot), 6 - zi1271.toInt < (n1645 : Int) → SW K ln Ls → EXx K0 ln0 K ln → FrX wsC K0 hp0 hp1272 → Ok K hp1272 → NSx K ln hp1272 gn → g0 ≤ gn → K qa900 = 2 → K qa901 = 11 → ((0 : Int) ≤ zi1270.toInt ∧ zi1270.toInt ≤ 131072) → ((1 : Int) ≤ zi1271.toInt ∧ zi1271.toInt ≤ 6) → lv_has ls 7 [(0, .ref qa900), (1, .ref qa901), (2, .int zi902), (3, .int zi1270), (4, .int zi1271)] → PW G cy K ln Ls A hp1272 H → va_S A s.heap H locs → W p l e ({ frames := 6, cells := 327680, slots := 4580352, locals := 157 } : Room) s m ([.ref qa900, .ref qa901, .int zi902] : List Value).toArray below meth c H locs (gn - g0) (14 * (gn - g0)) Q (F0 m 110 ls []) := by
        intro n1645
        induction n1645 with
        | zero =>
          intro K ln Ls gn hp1272 zi1270 zi1271 H locs ls hm1648 hW gex gfx ok1273 pd1274 hga kd1275 kd1276 bd1277 bd1278 hl hw hS
          exact absurd hm1648 (by have := bd1278; omega)
        | succ n1645 ih1646 =>
          intro K ln Ls gn hp1272 zi1270 zi1271 H locs ls hm1648 hW gex gfx ok1273 pd1274 hga kd1275 kd1276 bd1277 bd1278 hl hw hS
          have hgn := NSx.bd pd1274
          refine lv_iload hx hb dX1_find_110 (lv_at hl 4 rfl) ?_
          refine lv_iload_n hx hb dX1_find_112 rfl (lv_at hl 2 rfl) ?_
          refine lv_icmp_gt (tgt := 162) hx hb dX1_find_113 (by decide) (fun cn1649 => ?_) (fun cn1649 => ?_)
          · skip
            have tf1650 : zi902.toInt < zi1271.toInt := (fa_lt _ _).mp cn1649
            have bd1651 : (2 : Int) ≤ zi1271.toInt ∧ zi1271.toInt ≤ 6 := r_lt_y cn1649 bd17 bd1278 (by decide) (by decide)
            refine lv_aload_n hx hb dX1_find_162 rfl (lv_at hl 0 rfl) ?_
            obtain ⟨qa1653, eq1652, kd1654⟩ := rd_2005 ok1273 kd1275
            refine p_get (ci := 1) (v := .ref qa1653) (C := RX1) (T := TX1) (N := 8) hx hb hT iw_X1 hown hK hw hW kd1275 (by decide) rfl rfl 5 (by decide) eq1652 (hT _ tb_634) (fun _ h9 => h9) dX1_find_163 ?_
            refine lv_iload_n hx hb dX1_find_166 rfl (lv_at hl 2 rfl) ?_
            obtain ⟨wl1656, eq1655⟩ := rd_23000 ok1273 kd1654 ((zi902 : Int32).toNatClampNeg)
            refine p_lald (v := wl1656) hx hb hK hw hW kd1654 (by decide) rfl (hW.len kd1654 (n := 6) rfl (by decide)) (vp_b bd17 (by decide) (by decide)) eq1655 dX1_find_167 ?_
            refine lv_lconst (v := 0) hx hb dX1_find_168 (by decide) ?_
            refine W.lcmp hx hb dX1_find_169 (lv_topi (fun zi1657 ea1658 => ?_))
            refine lv_if_ne (tgt := 187) hx hb dX1_find_170 (by decide) (fun cn1659 => ?_) (fun cn1659 => ?_)
            · skip
              have tf1660 : (zi1657 : Int32).toInt ≠ (0 : Int32).toInt := fun e => cn1659 (Int32.toInt_inj.mp e)
              have := toi bc_0
              rw [hQ]
              exact kgz_v (n := g0) hx hb hr hlocks hS (((K, ln, Ls, hp1272), gn) : GU × Nat) hw ⟨gex, hW, ok1273, gfx, pd1274, (by omega)⟩ (show (gn - g0) ≤ gn - g0 from by omega) (show (14 * (gn - g0)) ≤ 14 * (gn - g0) from by omega) (show (gn - g0) ≤ 327680 from by omega) (show (14 * (gn - g0)) ≤ 4580352 from by omega) dX1_find_187
            · skip
              have bd1661 : (0 : Int) ≤ zi1657.toInt ∧ zi1657.toInt ≤ 0 := r_eq_x cn1659 (b_all zi1657) bc_0 (by decide) (by decide)
              refine lv_aload_n hx hb dX1_find_173 rfl (lv_at hl 0 rfl) ?_
              obtain ⟨qa1663, eq1662, kd1664⟩ := rd_2006 ok1273 kd1275
              refine p_get (ci := 1) (v := .ref qa1663) (C := RX1) (T := TX1) (N := 8) hx hb hT iw_X1 hown hK hw hW kd1275 (by decide) rfl rfl 6 (by decide) eq1662 (hT _ tb_636) (fun _ h9 => h9) dX1_find_174 ?_
              refine lv_iload_n hx hb dX1_find_177 rfl (lv_at hl 2 rfl) ?_
              refine lv_iconst (v := 0) hx hb dX1_find_178 (by decide) ?_
              refine p_iast (x := 0) hx hb hK hw hS hW kd1664 (by decide) rfl (hW.len kd1664 (n := 6) rfl (by decide)) (vp_b bd17 (by decide) (by decide)) dX1_find_179 (fun hp1665 eh1666 H locs hw hS => ?_)
              have ok1667 := wr_24000 ok1273 kd1664 eh1666
              refine lv_aload_n hx hb dX1_find_180 rfl (lv_at hl 0 rfl) ?_
              obtain ⟨qa1669, eq1668, kd1670⟩ := rd_2007 ok1667 kd1275
              refine p_get (ci := 1) (v := .ref qa1669) (C := RX1) (T := TX1) (N := 8) hx hb hT iw_X1 hown hK hw hW kd1275 (by decide) rfl rfl 7 (by decide) eq1668 (hT _ tb_638) (fun _ h9 => h9) dX1_find_181 ?_
              refine lv_iload_n hx hb dX1_find_184 rfl (lv_at hl 2 rfl) ?_
              refine lv_iconst (v := 0) hx hb dX1_find_185 (by decide) ?_
              refine p_iast (x := 0) hx hb hK hw hS hW kd1670 (by decide) rfl (hW.len kd1670 (n := 6) rfl (by decide)) (vp_b bd17 (by decide) (by decide)) dX1_find_186 (fun hp1671 eh1672 H locs hw hS => ?_)
              have ok1673 := wr_25000 ok1667 kd1670 eh1672
              rw [hQ]
              have pd1674 : NSx K ln hp1671 gn := NSx_fr ok1273  (show Fr [24000, 25000] K hp1272 hp1671 from (Fr.put (cq := 25000) (Fr.put (cq := 24000) (Fr.rf) eh1666 kd1664 (cd_a (by decide)) (by decide)) eh1672 kd1670 (cd_a (by decide)) (by decide))) (by decide) pd1274
              exact kgz_v (n := g0) hx hb hr hlocks hS (((K, ln, Ls, hp1671), gn) : GU × Nat) hw ⟨gex, hW, ok1673, (FrX.tr gfx gex (FrX.of (show Fr [24000, 25000] K hp1272 hp1671 from (Fr.put (cq := 25000) (Fr.put (cq := 24000) (Fr.rf) eh1666 kd1664 (cd_a (by decide)) (by decide)) eh1672 kd1670 (cd_a (by decide)) (by decide)))) (by decide +kernel)), pd1674, (by omega)⟩ (show (gn - g0) ≤ gn - g0 from by omega) (show (14 * (gn - g0)) ≤ 14 * (gn - g0) from by omega) (show (gn - g0) ≤ 327680 from by omega) (show (14 * (gn - g0)) ≤ 4580352 from by omega) dX1_find_187
          · skip
            have tf1675 : zi1271.toInt ≤ zi902.toInt := (fa_le _ _).mp (Int32.not_lt.mp cn1649)
            have bd1676 : (1 : Int) ≤ zi1271.toInt ∧ zi1271.toInt ≤ 5 := r_le_x (Int32.not_lt.mp cn1649) bd1278 bd17 (by decide) (by decide)
            refine lv_aload_n hx hb dX1_find_116 rfl (lv_at hl 0 rfl) ?_
            obtain ⟨qa1678, eq1677, kd1679⟩ := rd_2000 ok1273 kd1275
            refine p_get (ci := 1) (v := .ref qa1678) (C := RX1) (T := TX1) (N := 8) hx hb hT iw_X1 hown hK hw hW kd1275 (by decide) rfl rfl 0 (by decide) eq1677 (hT _ tb_628) (fun _ h9 => h9) dX1_find_117 ?_
            obtain ⟨zi1681, eq1680, bd1682⟩ := rd_4006 ok1273 kd1679
            have nz1683 := (pd1274).sz kd1679 eq1680
            refine p_getN (ci := 3) (v := .int zi1681) (C := RX3) (T := TX3) (N := 7) hx hb hT iw_X3 hown hK hw hW kd1679 (by decide) rfl rfl 6 (by decide) eq1680 (hK.fl nw_401) (fun _ h9 => h9) dX1_find_120 ?_
            refine lv_istore (lv' := [(5, .int zi1681), (0, .ref qa900), (1, .ref qa901), (2, .int zi902), (3, .int zi1270), (4, .int zi1271)]) hx hb dX1_find_123 hl (by decide) rfl (fun ls hl => ?_)
            refine lv_iload_n hx hb dX1_find_125 rfl (lv_at hl 4 rfl) ?_
            refine lv_istore (lv' := [(6, .int zi1270), (5, .int zi1681), (0, .ref qa900), (1, .ref qa901), (2, .int zi902), (3, .int zi1270), (4, .int zi1271)]) hx hb dX1_find_126 hl (by decide) rfl (fun ls hl => ?_)
            have lp1826 : ∀ (n1824 : Nat) (K ln : Nat → Nat) (Ls : List Nat) (gn : Nat) (hp1773 : Nat → Nat → Value) (zi1772 : Int32) (H : Heap) (locs : List Loc) (ls : Array Slot), 131072 - zi1772.toInt < (n1824 : Int) → SW K ln Ls → EXx K0 ln0 K ln → FrX wsC K0 hp0 hp1773 → Ok K hp1773 → NSx K ln hp1773 gn → g0 ≤ gn → K qa900 = 2 → K qa901 = 11 → ((0 : Int) ≤ zi1772.toInt ∧ zi1772.toInt ≤ 131072) → ((zi1681 : Int32).toInt ≤ (gn : Nat)) → lv_has ls 7 [(0, .ref qa900), (1, .ref qa901), (2, .int zi902), (4, .int zi1271), (5, .int zi1681), (6, .int zi1772)] → PW G cy K ln Ls A hp1773 H → va_S A s.heap H locs → W p l e ({ frames := 6, cells := 327680, slots := 4580352, locals := 157 } : Room) s m ([.ref qa900, .ref qa901, .int zi902] : List Value).toArray below meth c H locs (gn - g0) (14 * (gn - g0)) Q (F0 m 128 ls []) := by
              intro n1824
              induction n1824 with
              | zero =>
                intro K ln Ls gn hp1773 zi1772 H locs ls hm1827 hW gex gfx ok1774 pd1775 hga kd1776 kd1777 bd1779 rq1778 hl hw hS
                exact absurd hm1827 (by have := bd1779; omega)
              | succ n1824 ih1825 =>
                intro K ln Ls gn hp1773 zi1772 H locs ls hm1827 hW gex gfx ok1774 pd1775 hga kd1776 kd1777 bd1779 rq1778 hl hw hS
                have hgn := NSx.bd pd1775
                refine lv_iload hx hb dX1_find_128 (lv_at hl 5 rfl) ?_
                refine lv_iload hx hb dX1_find_130 (lv_at hl 4 rfl) ?_
                refine lv_icmp_ge (tgt := 153) hx hb dX1_find_132 (by decide) (fun cn1828 => ?_) (fun cn1828 => ?_)
                · skip
                  have tf1829 : zi1681.toInt ≤ zi1772.toInt := (fa_le _ _).mp cn1828
                  refine lv_iload hx hb dX1_find_153 (lv_at hl 4 rfl) ?_
                  refine lv_istore_n (lv' := [(3, .int zi1681), (0, .ref qa900), (1, .ref qa901), (2, .int zi902), (4, .int zi1271), (5, .int zi1681), (6, .int zi1772)]) hx hb dX1_find_155 rfl hl (by decide) rfl (fun ls hl => ?_)
                  obtain ⟨zi1830, ea1831⟩ : ∃ z : Int32, z = zi1271 + 1 := ⟨_, rfl⟩
                  have bd1832 : (2 : Int) ≤ zi1830.toInt ∧ zi1830.toInt ≤ 6 := b_iadd ea1831 bd1676 bc_1 (by decide) (by decide) (by decide) (by decide)
                  have qe1833 : zi1830.toInt = (zi1271 : Int32).toInt + (1 : Int32).toInt := e_iadd ea1831 bd1676 bc_1 (by decide) (by decide)
                  have qe1834 : zi1830.toInt = zi1271.toInt + 1 := by have ha : (1 : Int32).toInt = 1 := (by decide); rw [ha] at qe1833; exact qe1833
                  refine lv_iinc (v := zi1830) (lv' := [(4, .int zi1830), (3, .int zi1681), (0, .ref qa900), (1, .ref qa901), (2, .int zi902), (5, .int zi1681), (6, .int zi1772)]) hx hb dX1_find_156 hl (k := 4) rfl ea1831.symm (by decide) rfl (fun ls hl => ?_)
                  refine lv_goto (tgt := 110) hx hb dX1_find_159 (by decide) ?_
                  exact ih1646 K ln Ls gn hp1773 zi1681 zi1830 _ _ ls (by have := hm1648; have := qe1834; omega) hW gex gfx ok1774 pd1775 (by omega) kd1776 kd1777 (b_wid2 bd1682 (by decide) (by decide)) (b_wid2 bd1832 (by decide) (by decide)) (lv_sub hl [2, 3, 4, 1, 0] rfl) hw hS
                · skip
                  have tf1835 : zi1772.toInt < zi1681.toInt := (fa_lt _ _).mp (Int32.not_le.mp cn1828)
                  have bd1836 : (0 : Int) ≤ zi1772.toInt ∧ zi1772.toInt ≤ 131071 := r_lt_x (Int32.not_le.mp cn1828) bd1779 bd1682 (by decide) (by decide)
                  have bd1837 : (1 : Int) ≤ zi1681.toInt ∧ zi1681.toInt ≤ 131072 := r_lt_y (Int32.not_le.mp cn1828) bd1779 bd1682 (by decide) (by decide)
                  refine lv_aload_n hx hb dX1_find_135 rfl (lv_at hl 0 rfl) ?_
                  refine lv_aload_n hx hb dX1_find_136 rfl (lv_at hl 1 rfl) ?_
                  refine lv_iload hx hb dX1_find_137 (lv_at hl 5 rfl) ?_
                  refine lv_iload hx hb dX1_find_139 (lv_at hl 3 rfl) ?_
                  refine lv_iload_n hx hb dX1_find_141 rfl (lv_at hl 2 rfl) ?_
                  refine lv_iload hx hb dX1_find_142 (lv_at hl 4 rfl) ?_
                  have gf1845 : FrX wsC K0 hp0 hp1773 := gfx
                  refine kg_v hw hS hA (va_runV (As := [.ref qa901, .int zi1772, .int zi1271, .int zi902, .int zi1681]) (rest := []) ⟨hx, hb, hml, hown, hT⟩ (Met.szx (cX1_expand_0 l G cy ev K ln Ls hW _ hp1773 ok1774 qa900 qa901 zi1772 zi1271 zi902 zi1681 gn kd1776 kd1777 (b_wid2 bd1836 (by decide) (by decide)) (b_wid2 bd1676 (by decide) (by decide)) (b_wid2 bd17 (by decide) (by decide)) pd1775 (by omega))) (cwV 5 hT (good_V tb_1323 tb_1320 tb_1322 tb_45 tb_121) rfl rfl rfl (by decide +kernel) ⟨Nat.le_of_ble_eq_true rfl, Nat.le_of_ble_eq_true rfl⟩) (pool_preV (ci := 1) hK hE hS hA hw hW kd1776 (by decide) rfl) rfl rfl hl.1 rfl (lv_room (Nat.le_of_ble_eq_true rfl)) dX1_find_144 ⟨(show (gn - g0) + 196608 ≤ 327680 from by omega), (show (14 * (gn - g0)) + 2748928 ≤ 4580352 from by omega)⟩) (fun u gn H locs hq1838 hw hS => ?_)
                  obtain ⟨K, ln, Ls, hp1839⟩ := u
                  obtain ⟨ex1841, hW, ok1840, fx1842, pd1843, hle1844⟩ := hq1838
                  have ex1841 : EXx _ _ K ln := ex1841
                  have hW : SW K ln Ls := hW
                  have ok1840 : Ok K hp1839 := ok1840
                  have fx1842 : FrX _ _ _ hp1839 := fx1842
                  have pd1843 : NSx K ln hp1839 gn := pd1843
                  have hle1844 : _ ≤ gn := hle1844
                  have hw : PW G cy K ln Ls A hp1839 H := hw
                  have gfx : FrX wsC K0 hp0 hp1839 := FrX.tr gf1845 gex fx1842 (by decide +kernel)
                  have gex := EXx.tr gex ex1841
                  have kd1848 := EXx.kd ex1841 kd1776 (by decide)
                  have kd1849 := EXx.kd ex1841 kd1777 (by decide)
                  (try clear kd1776); (try clear kd1777)
                  have hgn := NSx.bd pd1843
                  refine W.widen (k := gn - g0) (n := 14 * (gn - g0)) (by omega) (by omega) ?_
                  have hga : g0 ≤ gn := by omega
                  obtain ⟨zi1850, ea1851⟩ : ∃ z : Int32, z = zi1772 + 1 := ⟨_, rfl⟩
                  have bd1852 : (1 : Int) ≤ zi1850.toInt ∧ zi1850.toInt ≤ 131072 := b_iadd ea1851 bd1836 bc_1 (by decide) (by decide) (by decide) (by decide)
                  have qe1853 : zi1850.toInt = (zi1772 : Int32).toInt + (1 : Int32).toInt := e_iadd ea1851 bd1836 bc_1 (by decide) (by decide)
                  have qe1854 : zi1850.toInt = zi1772.toInt + 1 := by have ha : (1 : Int32).toInt = 1 := (by decide); rw [ha] at qe1853; exact qe1853
                  refine lv_iinc (v := zi1850) (lv' := [(6, .int zi1850), (0, .ref qa900), (1, .ref qa901), (2, .int zi902), (4, .int zi1271), (5, .int zi1681)]) hx hb dX1_find_147 hl (k := 5) rfl ea1851.symm (by decide) rfl (fun ls hl => ?_)
                  refine lv_goto (tgt := 128) hx hb dX1_find_150 (by decide) ?_
                  exact ih1825 K ln Ls gn hp1839 zi1850 _ _ ls (by have := hm1827; have := qe1854; omega) hW gex gfx ok1840 pd1843 (by omega) kd1848 kd1849 (b_wid2 bd1852 (by decide) (by decide)) (by omega) (lv_sub hl [1, 2, 3, 4, 5, 0] rfl) hw hS
            exact lp1826 _ K ln Ls gn hp1272 zi1270 _ _ ls (lp_in _) hW gex gfx ok1273 pd1274 (by omega) kd1275 kd1276 (b_wid2 bd1277 (by decide) (by decide)) (by omega) (lv_sub hl [2, 3, 4, 6, 1, 0] rfl) hw hS
      exact lp1647 _ K ln Ls gn hp80 0 1 _ _ ls (lp_in _) hW gex gfx ok81 pd84 (by omega) kd89 kd90 (b_wid2 bc_0 (by decide) (by decide)) (b_wid2 bc_1 (by decide) (by decide)) (lv_sub hl [2, 3, 4, 1, 0] rfl) hw hS
    · skip
      have bd1855 : (0 : Int) ≤ zi902.toInt ∧ zi902.toInt ≤ 0 := r_eq_x cn15 bd902 bc_0 (by decide) (by decide)
      refine lv_lconst (v := 1) hx hb dX1_find_26 (by decide) ?_
      refine lv_goto (tgt := 31) hx hb dX1_find_27 (by decide) ?_
      refine p_last (x := 1) hx hb hK hw hS hW kd14 (by decide) rfl (hW.len kd14 (n := 6) rfl (by decide)) (vp_b bd1855 (by decide) (by decide)) dX1_find_31 (fun hp1856 eh1857 H locs hw hS => ?_)
      have ok1858 := wr_23000 ok11 kd14 eh1857
      refine lv_aload_n hx hb dX1_find_32 rfl (lv_at hl 0 rfl) ?_
      obtain ⟨qa1860, eq1859, kd1861⟩ := rd_2006 ok1858 kd900
      refine p_get (ci := 1) (v := .ref qa1860) (C := RX1) (T := TX1) (N := 8) hx hb hT iw_X1 hown hK hw hW kd900 (by decide) rfl rfl 6 (by decide) eq1859 (hT _ tb_636) (fun _ h9 => h9) dX1_find_33 ?_
      refine lv_iload_n hx hb dX1_find_36 rfl (lv_at hl 2 rfl) ?_
      refine lv_iload_n hx hb dX1_find_37 rfl (lv_at hl 2 rfl) ?_
      refine lv_if_ne (tgt := 45) hx hb dX1_find_38 (by decide) (fun c => absurd (d_eq bd1855 bc_0) c) (fun _ => ?_)
      refine lv_iconst (v := 0) hx hb dX1_find_41 (by decide) ?_
      refine lv_goto (tgt := 53) hx hb dX1_find_42 (by decide) ?_
      refine p_iast (x := 0) hx hb hK hw hS hW kd1861 (by decide) rfl (hW.len kd1861 (n := 6) rfl (by decide)) (vp_b bd1855 (by decide) (by decide)) dX1_find_53 (fun hp1862 eh1863 H locs hw hS => ?_)
      have ok1864 := wr_24000 ok1858 kd1861 eh1863
      refine lv_aload_n hx hb dX1_find_54 rfl (lv_at hl 0 rfl) ?_
      obtain ⟨qa1866, eq1865, kd1867⟩ := rd_2007 ok1864 kd900
      refine p_get (ci := 1) (v := .ref qa1866) (C := RX1) (T := TX1) (N := 8) hx hb hT iw_X1 hown hK hw hW kd900 (by decide) rfl rfl 7 (by decide) eq1865 (hT _ tb_638) (fun _ h9 => h9) dX1_find_55 ?_
      refine lv_iload_n hx hb dX1_find_58 rfl (lv_at hl 2 rfl) ?_
      refine lv_iload_n hx hb dX1_find_59 rfl (lv_at hl 2 rfl) ?_
      refine lv_if_ne (tgt := 67) hx hb dX1_find_60 (by decide) (fun c => absurd (d_eq bd1855 bc_0) c) (fun _ => ?_)
      refine lv_iconst (v := 0) hx hb dX1_find_63 (by decide) ?_
      refine lv_goto (tgt := 75) hx hb dX1_find_64 (by decide) ?_
      refine p_iast (x := 0) hx hb hK hw hS hW kd1867 (by decide) rfl (hW.len kd1867 (n := 6) rfl (by decide)) (vp_b bd1855 (by decide) (by decide)) dX1_find_75 (fun hp1868 eh1869 H locs hw hS => ?_)
      have ok1870 := wr_25000 ok1864 kd1867 eh1869
      refine lv_aload_n hx hb dX1_find_76 rfl (lv_at hl 0 rfl) ?_
      obtain ⟨qa1872, eq1871, kd1873⟩ := rd_2000 ok1870 kd900
      refine p_get (ci := 1) (v := .ref qa1872) (C := RX1) (T := TX1) (N := 8) hx hb hT iw_X1 hown hK hw hW kd900 (by decide) rfl rfl 0 (by decide) eq1871 (hT _ tb_628) (fun _ h9 => h9) dX1_find_77 ?_
      have pd1874 : NSx K ln hp1868 gn := NSx_fr ok1  (show Fr [22000, 23000, 24000, 25000] K hp0 hp1868 from (Fr.put (cq := 25000) (Fr.put (cq := 24000) (Fr.put (cq := 23000) (Fr.put (cq := 22000) (Fr.rf) eh10 kd3 (cd_a (by decide)) (by decide)) eh1857 kd14 (cd_a (by decide)) (by decide)) eh1863 kd1861 (cd_a (by decide)) (by decide)) eh1869 kd1867 (cd_a (by decide)) (by decide))) (by decide) pdNS
      refine kq_v hw hS hA (va_runV (As := []) (rest := []) ⟨hx, hb, hml, hown, hT⟩ (cX3_clear_0 l G cy ev K ln Ls hW _ hp1868 ok1870 qa1872 gn kd1873 pd1874) (cwV 0 hT (good_V tb_1136 tb_1317 tb_1134 tb_1135 tb_117) rfl rfl rfl (by decide +kernel) ⟨Nat.le_of_ble_eq_true rfl, Nat.le_of_ble_eq_true rfl⟩) (pool_preV (ci := 3) hK hE hS hA hw hW kd1873 (by decide) rfl) rfl rfl hl.1 rfl (lv_room (Nat.le_of_ble_eq_true rfl)) dX1_find_80 ⟨(show (gn - g0) + 0 ≤ 327680 from by omega), (show (14 * (gn - g0)) + 0 ≤ 4580352 from by omega)⟩) (fun hp1875 H locs hq1878 hw hS => ?_)
      obtain ⟨ok1876, F1877, ⟨zi1880, eq1881, bd1882⟩, xq1883⟩ := hq1878
      have hw : PW G cy K ln Ls A hp1875 H := hw
      refine lv_aload_n hx hb dX1_find_83 rfl (lv_at hl 0 rfl) ?_
      obtain ⟨qa1885, eq1884, kd1886⟩ := rd_2001 ok1876 kd900
      refine p_get (ci := 1) (v := .ref qa1885) (C := RX1) (T := TX1) (N := 8) hx hb hT iw_X1 hown hK hw hW kd900 (by decide) rfl rfl 1 (by decide) eq1884 (hT _ tb_629) (fun _ h9 => h9) dX1_find_84 ?_
      refine lv_aload_n hx hb dX1_find_87 rfl (lv_at hl 1 rfl) ?_
      refine kq_v hw hS hA (va_runV (As := [.ref qa901]) (rest := []) ⟨hx, hb, hml, hown, hT⟩ (cX7_begin_0 l G cy ev K ln Ls hW _ hp1875 ok1876 qa1885 qa901 kd1886 kd901) (cwV 1 hT (good_V tb_474 tb_1318 tb_472 tb_473 tb_115) rfl rfl rfl (by decide +kernel) ⟨Nat.le_of_ble_eq_true rfl, Nat.le_of_ble_eq_true rfl⟩) (pool_preV (ci := 7) hK hE hS hA hw hW kd1886 (by decide) rfl) rfl rfl hl.1 rfl (lv_room (Nat.le_of_ble_eq_true rfl)) dX1_find_88 ⟨(show (gn - g0) + 0 ≤ 327680 from by omega), (show (14 * (gn - g0)) + 0 ≤ 4580352 from by omega)⟩) (fun hp1887 H locs hq1890 hw hS => ?_)
      obtain ⟨ok1888, F1889⟩ := hq1890
      have hw : PW G cy K ln Ls A hp1887 H := hw
      refine lv_aload_n hx hb dX1_find_91 rfl (lv_at hl 0 rfl) ?_
      have eq1892 : hp1887 qa900 0 = .ref qa1872 := Eq.trans (Fr.at (cq := 2000) F1889 kd900 (cd_o (by decide)) (by decide)) (Eq.trans (Fr.at (cq := 2000) F1877 kd900 (cd_o (by decide)) (by decide)) eq1871)
      refine p_get (ci := 1) (v := .ref qa1872) (C := RX1) (T := TX1) (N := 8) hx hb hT iw_X1 hown hK hw hW kd900 (by decide) rfl rfl 0 (by decide) eq1892 (hT _ tb_628) (fun _ h9 => h9) dX1_find_92 ?_
      refine lv_aload_n hx hb dX1_find_95 rfl (lv_at hl 0 rfl) ?_
      have eq1893 : hp1887 qa900 1 = .ref qa1885 := Eq.trans (Fr.at (cq := 2001) F1889 kd900 (cd_o (by decide)) (by decide)) eq1884
      refine p_get (ci := 1) (v := .ref qa1885) (C := RX1) (T := TX1) (N := 8) hx hb hT iw_X1 hown hK hw hW kd900 (by decide) rfl rfl 1 (by decide) eq1893 (hT _ tb_629) (fun _ h9 => h9) dX1_find_96 ?_
      refine lv_iconst (v := 0) hx hb dX1_find_99 (by decide) ?_
      refine lv_lconst (v := 1) hx hb dX1_find_100 (by decide) ?_
      refine lv_iconst (v := 0) hx hb dX1_find_101 (by decide) ?_
      have pd1894 : NSx K ln hp1887 gn := NSx_fr ok1876  (show Fr [8000, 8001, 8002, 8003, 8004, 8005, 40000, 41000, 42000] K hp1875 hp1887 from (Fr.tr (Fr.rf) F1889 (by decide))) (by decide) xq1883
      have gf1902 : FrX wsC K0 hp0 hp1887 := (FrX.tr gfx gex (FrX.of (show Fr [4006, 8000, 8001, 8002, 8003, 8004, 8005, 22000, 23000, 24000, 25000, 33000, 40000, 41000, 42000] K hp0 hp1887 from (Fr.tr (Fr.tr (Fr.put (cq := 25000) (Fr.put (cq := 24000) (Fr.put (cq := 23000) (Fr.put (cq := 22000) (Fr.rf) eh10 kd3 (cd_a (by decide)) (by decide)) eh1857 kd14 (cd_a (by decide)) (by decide)) eh1863 kd1861 (cd_a (by decide)) (by decide)) eh1869 kd1867 (cd_a (by decide)) (by decide)) F1877 (by decide)) F1889 (by decide)))) (by decide +kernel))
      refine kg_v hw hS hA (va_runV (As := [.ref qa1885, .int 0, .long 1, .int 0]) (rest := []) ⟨hx, hb, hml, hown, hT⟩ (Met.szx (cX3_add_vG_0 l G cy ev K ln Ls hW _ hp1887 ok1888 qa1872 qa1885 0 1 0 gn kd1873 kd1886 pd1894)) (cwV 4 hT (good_V tb_1142 tb_1319 tb_1140 tb_1141 tb_117) rfl rfl rfl (by decide +kernel) ⟨Nat.le_of_ble_eq_true rfl, Nat.le_of_ble_eq_true rfl⟩) (pool_preV (ci := 3) hK hE hS hA hw hW kd1873 (by decide) rfl) rfl rfl hl.1 rfl (lv_room (Nat.le_of_ble_eq_true rfl)) dX1_find_102 ⟨(show (gn - g0) + 65536 ≤ 327680 from by omega), (show (14 * (gn - g0)) + 917504 ≤ 4580352 from by omega)⟩) (fun u gn H locs hq1895 hw hS => ?_)
      obtain ⟨K, ln, Ls, hp1896⟩ := u
      obtain ⟨ex1898, hW, ok1897, fx1899, pd1900, hle1901⟩ := hq1895
      have ex1898 : EXx _ _ K ln := ex1898
      have hW : SW K ln Ls := hW
      have ok1897 : Ok K hp1896 := ok1897
      have fx1899 : FrX _ _ _ hp1896 := fx1899
      have pd1900 : NSx K ln hp1896 gn := pd1900
      have hle1901 : _ ≤ gn := hle1901
      have hw : PW G cy K ln Ls A hp1896 H := hw
      have gfx : FrX wsC K0 hp0 hp1896 := FrX.tr gf1902 gex fx1899 (by decide +kernel)
      have gex := EXx.tr gex ex1898
      have kd1905 := EXx.kd ex1898 kd900 (by decide)
      have kd1906 := EXx.kd ex1898 kd901 (by decide)
      (try clear kd900); (try clear kd901); (try clear kd3); (try clear kd14); (try clear kd1861); (try clear kd1867); (try clear kd1873); (try clear kd1886)
      have hgn := NSx.bd pd1900
      refine W.widen (k := gn - g0) (n := 14 * (gn - g0)) (by omega) (by omega) ?_
      have hga : g0 ≤ gn := by omega
      refine lv_iconst (v := 0) hx hb dX1_find_105 (by decide) ?_
      refine lv_istore_n (lv' := [(3, .int 0), (0, .ref qa900), (1, .ref qa901), (2, .int zi902)]) hx hb dX1_find_106 rfl hl (by decide) rfl (fun ls hl => ?_)
      refine lv_iconst (v := 1) hx hb dX1_find_107 (by decide) ?_
      refine lv_istore (lv' := [(4, .int 1), (3, .int 0), (0, .ref qa900), (1, .ref qa901), (2, .int zi902)]) hx hb dX1_find_108 hl (by decide) rfl (fun ls hl => ?_)
      refine lv_iload hx hb dX1_find_110 (lv_at hl 0 rfl) ?_
      refine lv_iload_n hx hb dX1_find_112 rfl (lv_at hl 4 rfl) ?_
      refine lv_icmp_gt (tgt := 162) hx hb dX1_find_113 (by decide) (fun _ => ?_) (fun c => absurd (d_lt bd1855 bc_1 (by decide)) c)
      refine lv_aload_n hx hb dX1_find_162 rfl (lv_at hl 2 rfl) ?_
      obtain ⟨qa1923, eq1922, kd1924⟩ := rd_2005 ok1897 kd1905
      refine p_get (ci := 1) (v := .ref qa1923) (C := RX1) (T := TX1) (N := 8) hx hb hT iw_X1 hown hK hw hW kd1905 (by decide) rfl rfl 5 (by decide) eq1922 (hT _ tb_634) (fun _ h9 => h9) dX1_find_163 ?_
      refine lv_iload_n hx hb dX1_find_166 rfl (lv_at hl 4 rfl) ?_
      obtain ⟨wl1926, eq1925⟩ := rd_23000 ok1897 kd1924 ((zi902 : Int32).toNatClampNeg)
      refine p_lald (v := wl1926) hx hb hK hw hW kd1924 (by decide) rfl (hW.len kd1924 (n := 6) rfl (by decide)) (vp_b bd1855 (by decide) (by decide)) eq1925 dX1_find_167 ?_
      refine lv_lconst (v := 0) hx hb dX1_find_168 (by decide) ?_
      refine W.lcmp hx hb dX1_find_169 (lv_topi (fun zi1927 ea1928 => ?_))
      refine lv_if_ne (tgt := 187) hx hb dX1_find_170 (by decide) (fun cn1929 => ?_) (fun cn1929 => ?_)
      · skip
        have tf1930 : (zi1927 : Int32).toInt ≠ (0 : Int32).toInt := fun e => cn1929 (Int32.toInt_inj.mp e)
        have := toi bc_0
        rw [hQ]
        exact kgz_v (n := g0) hx hb hr hlocks hS (((K, ln, Ls, hp1896), gn) : GU × Nat) hw ⟨gex, hW, ok1897, gfx, pd1900, (by omega)⟩ (show (gn - g0) ≤ gn - g0 from by omega) (show (14 * (gn - g0)) ≤ 14 * (gn - g0) from by omega) (show (gn - g0) ≤ 327680 from by omega) (show (14 * (gn - g0)) ≤ 4580352 from by omega) dX1_find_187
      · skip
        have bd1931 : (0 : Int) ≤ zi1927.toInt ∧ zi1927.toInt ≤ 0 := r_eq_x cn1929 (b_all zi1927) bc_0 (by decide) (by decide)
        refine lv_aload_n hx hb dX1_find_173 rfl (lv_at hl 2 rfl) ?_
        obtain ⟨qa1933, eq1932, kd1934⟩ := rd_2006 ok1897 kd1905
        refine p_get (ci := 1) (v := .ref qa1933) (C := RX1) (T := TX1) (N := 8) hx hb hT iw_X1 hown hK hw hW kd1905 (by decide) rfl rfl 6 (by decide) eq1932 (hT _ tb_636) (fun _ h9 => h9) dX1_find_174 ?_
        refine lv_iload_n hx hb dX1_find_177 rfl (lv_at hl 4 rfl) ?_
        refine lv_iconst (v := 0) hx hb dX1_find_178 (by decide) ?_
        refine p_iast (x := 0) hx hb hK hw hS hW kd1934 (by decide) rfl (hW.len kd1934 (n := 6) rfl (by decide)) (vp_b bd1855 (by decide) (by decide)) dX1_find_179 (fun hp1935 eh1936 H locs hw hS => ?_)
        have ok1937 := wr_24000 ok1897 kd1934 eh1936
        refine lv_aload_n hx hb dX1_find_180 rfl (lv_at hl 2 rfl) ?_
        obtain ⟨qa1939, eq1938, kd1940⟩ := rd_2007 ok1937 kd1905
        refine p_get (ci := 1) (v := .ref qa1939) (C := RX1) (T := TX1) (N := 8) hx hb hT iw_X1 hown hK hw hW kd1905 (by decide) rfl rfl 7 (by decide) eq1938 (hT _ tb_638) (fun _ h9 => h9) dX1_find_181 ?_
        refine lv_iload_n hx hb dX1_find_184 rfl (lv_at hl 4 rfl) ?_
        refine lv_iconst (v := 0) hx hb dX1_find_185 (by decide) ?_
        refine p_iast (x := 0) hx hb hK hw hS hW kd1940 (by decide) rfl (hW.len kd1940 (n := 6) rfl (by decide)) (vp_b bd1855 (by decide) (by decide)) dX1_find_186 (fun hp1941 eh1942 H locs hw hS => ?_)
        have ok1943 := wr_25000 ok1937 kd1940 eh1942
        rw [hQ]
        have pd1944 : NSx K ln hp1941 gn := NSx_fr ok1897  (show Fr [24000, 25000] K hp1896 hp1941 from (Fr.put (cq := 25000) (Fr.put (cq := 24000) (Fr.rf) eh1936 kd1934 (cd_a (by decide)) (by decide)) eh1942 kd1940 (cd_a (by decide)) (by decide))) (by decide) pd1900
        exact kgz_v (n := g0) hx hb hr hlocks hS (((K, ln, Ls, hp1941), gn) : GU × Nat) hw ⟨gex, hW, ok1943, (FrX.tr gfx gex (FrX.of (show Fr [24000, 25000] K hp1896 hp1941 from (Fr.put (cq := 25000) (Fr.put (cq := 24000) (Fr.rf) eh1936 kd1934 (cd_a (by decide)) (by decide)) eh1942 kd1940 (cd_a (by decide)) (by decide)))) (by decide +kernel)), pd1944, (by omega)⟩ (show (gn - g0) ≤ gn - g0 from by omega) (show (14 * (gn - g0)) ≤ 14 * (gn - g0) from by omega) (show (gn - g0) ≤ 327680 from by omega) (show (14 * (gn - g0)) ≤ 4580352 from by omega) dX1_find_187
  · skip
    have tf1945 : (zi5 : Int32).toInt ≠ (0 : Int32).toInt := fun e => cn7 (Int32.toInt_inj.mp e)
    have := toi bc_0
    have bd1946 : (1 : Int) ≤ zi5.toInt ∧ zi5.toInt ≤ 1 := r_ne_lo cn7 bd6 (toi bc_0) (by decide) (by decide)
    rw [hQ]
    exact kgz_v (n := g0) hx hb hr hlocks hS (((K, ln, Ls, hp0), gn) : GU × Nat) hw ⟨gex, hW, ok1, gfx, pdNS, (by omega)⟩ (show (gn - g0) ≤ gn - g0 from by omega) (show (14 * (gn - g0)) ≤ 14 * (gn - g0) from by omega) (show (gn - g0) ≤ 327680 from by omega) (show (14 * (gn - g0)) ≤ 4580352 from by omega) dX1_find_9
