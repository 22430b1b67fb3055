set_option maxRecDepth 100000 in
set_option maxHeartbeats 4000000 in
theorem cX11_aheadAt_0 (l : Launch) (G : va_G) (cy : Nat → ClassId) (ev : Ew) (K0 ln0 : Nat → Nat) (Ls0 : List Nat) (hW0 : SW K0 ln0 Ls0) (sz : Nat) (hp0 : Nat → Nat → Value) (ok0 : Ok K0 hp0) (qa900 : Nat) (zi901 : Int32) (zi902 : Int32) (zi903 : Int32) (g0 : Nat) (kd900 : K0 qa900 = 12) (pdNS : NSx K0 ln0 hp0 g0) : Met l yX11_aheadAt (WS yX11_aheadAt cX11_aheadAt 4 (some .int)) { frames := 7, cells := 327680, slots := 4580352, locals := 178 } (PB2 [.ref qa900, .int zi901, .int zi902, .int zi903] sz G cy ev (va_pl Ls0 (cellOf cy K0 ln0 hp0))) (QGi (fun (r : Int32) (u : GU × Nat) => GPx wsC K0 ln0 hp0 g0 u.1 u.2) G cy g0 (va_A (va_pl Ls0 (cellOf cy K0 ln0 hp0)) sz)) 327680 4580352 (va_A (va_pl Ls0 (cellOf cy K0 ln0 hp0)) sz) := by
  refine met_of2 (y := yX11_aheadAt) (L := 4) (av := [.ref qa900, .int zi901, .int zi902, .int zi903]) (Qc := fun A => QGi (fun (r : Int32) (u : GU × Nat) => GPx wsC K0 ln0 hp0 g0 u.1 u.2) G cy g0 A) (plainFor_of_name (by decide)) (Nat.le_of_ble_eq_true rfl) ?_
  intro p e s m below meth c hsz hx hb hr hml hown hT hlocks hin hK A hA hE hw hS ls hl
  have hw : PW G cy K0 ln0 Ls0 A hp0 s.heap := hw
  have hown : s.vm.findClass "LieClock" = some m.cls := hown
  have hl : lv_has ls 4 [(0, .ref qa900), (1, .int zi901), (2, .int zi902), (3, .int zi903)] := hl
  obtain ⟨Q, hQ⟩ : ∃ Q : State → Prop, Q = MQ below (QGi (fun (r : Int32) (u : GU × Nat) => GPx wsC K0 ln0 hp0 g0 u.1 u.2) G cy g0 A) ([.ref qa900, .int zi901, .int zi902, .int zi903] : List Value).toArray s 327680 4580352 A := ⟨_, rfl⟩
  rw [← hQ]
  obtain ⟨K, ln, Ls, gn, hW, gex, gfx, ok1, hKe, hga, hge, kd900, pdNS, hw⟩ : ∃ (K ln : Nat → Nat) (Ls : List Nat) (gn : Nat), SW K ln Ls ∧ EXx K0 ln0 K ln ∧ FrX wsC K0 hp0 hp0 ∧ Ok K hp0 ∧ K = K0 ∧ g0 ≤ gn ∧ gn = g0 ∧ (K qa900 = 12) ∧ (NSx K ln hp0 gn) ∧ PW G cy K ln Ls A hp0 s.heap := ⟨K0, ln0, Ls0, g0, hW0, EXx.rf, FrX.rf, ok0, rfl, Nat.le_refl _, rfl, kd900, pdNS, hw⟩
  have hg0 : 256 ≤ g0 ∧ g0 ≤ 131072 := by have := NSx.bd pdNS; omega
  refine W.widen (k := gn - g0) (n := 14 * (gn - g0)) (Nat.zero_le _) (Nat.zero_le _) ?_
  have hgn := NSx.bd pdNS
  refine lv_aload_n hx hb dX11_aheadAt_0 rfl (lv_at hl 0 rfl) ?_
  refine lv_iload_n hx hb dX11_aheadAt_1 rfl (lv_at hl 1 rfl) ?_
  refine lv_iload_n hx hb dX11_aheadAt_2 rfl (lv_at hl 2 rfl) ?_
  refine kq_i hw hS hA (va_runV (As := [.int zi901, .int zi902]) (rest := []) ⟨hx, hb, hml, hown, hT⟩ (cX11_areTwoCases_0 l G cy ev K ln Ls hW _ hp0 ok1 qa900 zi901 zi902 kd900) (cwV 2 hT (good_V tb_1128 tb_1125 tb_1127 tb_32 tb_105) rfl rfl rfl (by decide +kernel) ⟨Nat.le_of_ble_eq_true rfl, Nat.le_of_ble_eq_true rfl⟩) (pool_preV (ci := 11) hK hE hS hA hw hW kd900 (by decide) rfl) rfl rfl hl.1 rfl (lv_room (Nat.le_of_ble_eq_true rfl)) dX11_aheadAt_3 ⟨(show (gn - g0) + 0 ≤ 327680 from by omega), (show (14 * (gn - g0)) + 0 ≤ 4580352 from by omega)⟩) (fun zi5 hp1 H locs hq4 hw hS => ?_)
  obtain ⟨ok2, F3, bd6, hc7, hc8⟩ := hq4
  obtain rfl : hp0 = hp1 := (Fr.nil F3).symm
  have hw : PW G cy K ln Ls A hp0 H := hw
  rcases b01 bd6 with cn9 | cn9
  · skip
    subst cn9
    refine lv_if_eq (tgt := 13) hx hb dX11_aheadAt_6 (by decide) (fun _ => ?_) (fun c => absurd (d_eq bc_0 bc_0) c)
    refine lv_iconst (v := (-1)) hx hb dX11_aheadAt_13 (by decide) ?_
    rw [hQ]
    exact kgz_i (n := g0) hx hb hr hlocks hS rfl (((K, ln, Ls, hp0), gn) : GU × Nat) hw ⟨gex, hW, ok1, gfx, pdNS, (by omega)⟩ (show (gn - g0) ≤ gn - g0 from by omega) (show (14 * (gn - g0)) ≤ 14 * (gn - g0) from by omega) (show (gn - g0) ≤ 327680 from by omega) (show (14 * (gn - g0)) ≤ 4580352 from by omega) dX11_aheadAt_14
  · skip
    subst cn9
    have bd10 : (0 : Int) ≤ zi901.toInt ∧ zi901.toInt ≤ 7 := b_meet (b_all zi901) (hc7 rfl) (by decide) (by decide)
    have bd11 : (0 : Int) ≤ zi902.toInt ∧ zi902.toInt ≤ 7 := b_meet (b_all zi902) (hc8 rfl) (by decide) (by decide)
    refine lv_if_eq (tgt := 13) hx hb dX11_aheadAt_6 (by decide) (fun c => absurd c (d_ne bc_1 bc_0 (by decide))) (fun _ => ?_)
    refine lv_iload_n hx hb dX11_aheadAt_9 rfl (lv_at hl 3 rfl) ?_
    refine lv_if_ge (tgt := 15) hx hb dX11_aheadAt_10 (by decide) (fun cn12 => ?_) (fun cn12 => ?_)
    · skip
      have bd13 : (0 : Int) ≤ zi903.toInt ∧ zi903.toInt ≤ 2147483647 := r_le_y cn12 bc_0 (b_all zi903) (by decide) (by decide)
      refine lv_aload_n hx hb dX11_aheadAt_15 rfl (lv_at hl 0 rfl) ?_
      obtain ⟨qa15, eq14, kd16⟩ := rd_12015 ok1 kd900
      refine p_get (ci := 11) (v := .ref qa15) (C := RX11) (T := TX11) (N := 17) hx hb hT iw_X11 hown hK hw hW kd900 (by decide) rfl rfl 15 (by decide) eq14 (hT _ tb_672) (fun _ h9 => h9) dX11_aheadAt_16 ?_
      refine lv_aload_n hx hb dX11_aheadAt_19 rfl (lv_at hl 0 rfl) ?_
      obtain ⟨qa18, eq17, kd19⟩ := rd_12003 ok1 kd900
      refine p_get (ci := 11) (v := .ref qa18) (C := RX11) (T := TX11) (N := 17) hx hb hT iw_X11 hown hK hw hW kd900 (by decide) rfl rfl 3 (by decide) eq17 (hT _ tb_660) (fun _ h9 => h9) dX11_aheadAt_20 ?_
      refine lv_aload_n hx hb dX11_aheadAt_23 rfl (lv_at hl 0 rfl) ?_
      obtain ⟨qa21, eq20, kd22⟩ := rd_12005 ok1 kd900
      refine p_get (ci := 11) (v := .ref qa21) (C := RX11) (T := TX11) (N := 17) hx hb hT iw_X11 hown hK hw hW kd900 (by decide) rfl rfl 5 (by decide) eq20 (hT _ tb_662) (fun _ h9 => h9) dX11_aheadAt_24 ?_
      refine lv_iload_n hx hb dX11_aheadAt_27 rfl (lv_at hl 1 rfl) ?_
      refine lv_iload_n hx hb dX11_aheadAt_28 rfl (lv_at hl 2 rfl) ?_
      have gf30 : FrX wsC K0 hp0 hp0 := gfx
      refine kg_v hw hS hA (va_runV (As := [.ref qa18, .ref qa21, .int zi901, .int zi902]) (rest := []) ⟨hx, hb, hml, hown, hT⟩ (Met.szx (cX0_find_0 l G cy ev K ln Ls hW _ hp0 ok1 qa15 qa18 qa21 zi901 zi902 gn kd16 kd19 kd22 (b_wid2 bd10 (by decide) (by decide)) (b_wid2 bd11 (by decide) (by decide)) pdNS)) (cwV 4 hT (good_V tb_1132 tb_1129 tb_1130 tb_1131 tb_120) rfl rfl rfl (by decide +kernel) ⟨Nat.le_of_ble_eq_true rfl, Nat.le_of_ble_eq_true rfl⟩) (pool_preV (ci := 0) hK hE hS hA hw hW kd16 (by decide) rfl) rfl rfl hl.1 rfl (lv_room (Nat.le_of_ble_eq_true rfl)) dX11_aheadAt_29 ⟨(show (gn - g0) + 327680 ≤ 327680 from by omega), (show (14 * (gn - g0)) + 4580352 ≤ 4580352 from by omega)⟩) (fun u gn H locs hq23 hw hS => ?_)
      obtain ⟨K, ln, Ls, hp24⟩ := u
      obtain ⟨ex26, hW, ok25, fx27, pd28, hle29⟩ := hq23
      have ex26 : EXx _ _ K ln := ex26
      have hW : SW K ln Ls := hW
      have ok25 : Ok K hp24 := ok25
      have fx27 : FrX _ _ _ hp24 := fx27
      have pd28 : NSx K ln hp24 gn := pd28
      have hle29 : _ ≤ gn := hle29
      have hw : PW G cy K ln Ls A hp24 H := hw
      have gfx : FrX wsC K0 hp0 hp24 := FrX.tr gf30 gex fx27 (by decide +kernel)
      have gex := EXx.tr gex ex26
      have kd33 := EXx.kd ex26 kd900 (by decide)
      (try clear kd900); (try clear kd16); (try clear kd19); (try clear kd22)
      have hgn := NSx.bd pd28
      refine W.widen (k := gn - g0) (n := 14 * (gn - g0)) (by omega) (by omega) ?_
      have hga : g0 ≤ gn := by omega
      refine lv_aload_n hx hb dX11_aheadAt_32 rfl (lv_at hl 0 rfl) ?_
      obtain ⟨qa35, eq34, kd36⟩ := rd_12015 ok25 kd33
      refine p_get (ci := 11) (v := .ref qa35) (C := RX11) (T := TX11) (N := 17) hx hb hT iw_X11 hown hK hw hW kd33 (by decide) rfl rfl 15 (by decide) eq34 (hT _ tb_672) (fun _ h9 => h9) dX11_aheadAt_33 ?_
      obtain ⟨zi38, eq37, bd39⟩ := rd_1003 ok25 kd36
      refine p_getN (ci := 0) (v := .int zi38) (C := RX0) (T := TX0) (N := 8) hx hb hT iw_X0 hown hK hw hW kd36 (by decide) rfl rfl 3 (by decide) eq37 (hK.fl nw_492) (fun _ h9 => h9) dX11_aheadAt_36 ?_
      refine lv_if_ne (tgt := 45) hx hb dX11_aheadAt_39 (by decide) (fun cn40 => ?_) (fun cn40 => ?_)
      · skip
        have tf41 : (zi38 : Int32).toInt ≠ (0 : Int32).toInt := fun e => cn40 (Int32.toInt_inj.mp e)
        have := toi bc_0
        have bd42 : (1 : Int) ≤ zi38.toInt ∧ zi38.toInt ≤ 4 := r_ne_lo cn40 bd39 (toi bc_0) (by decide) (by decide)
        refine lv_iload_n hx hb dX11_aheadAt_45 rfl (lv_at hl 3 rfl) ?_
        refine lv_aload_n hx hb dX11_aheadAt_46 rfl (lv_at hl 0 rfl) ?_
        refine p_get (ci := 11) (v := .ref qa35) (C := RX11) (T := TX11) (N := 17) hx hb hT iw_X11 hown hK hw hW kd33 (by decide) rfl rfl 15 (by decide) eq34 (hT _ tb_672) (fun _ h9 => h9) dX11_aheadAt_47 ?_
        refine p_getN (ci := 0) (v := .int zi38) (C := RX0) (T := TX0) (N := 8) hx hb hT iw_X0 hown hK hw hW kd36 (by decide) rfl rfl 3 (by decide) eq37 (hK.fl nw_492) (fun _ h9 => h9) dX11_aheadAt_50 ?_
        refine lv_icmp_ge (tgt := 68) hx hb dX11_aheadAt_53 (by decide) (fun cn43 => ?_) (fun cn43 => ?_)
        · skip
          have tf44 : zi38.toInt ≤ zi903.toInt := (fa_le _ _).mp cn43
          have bd45 : (1 : Int) ≤ zi903.toInt ∧ zi903.toInt ≤ 2147483647 := r_le_y cn43 bd42 bd13 (by decide) (by decide)
          refine lv_iconst (v := (-1)) hx hb dX11_aheadAt_68 (by decide) ?_
          rw [hQ]
          exact kgz_i (n := g0) hx hb hr hlocks hS rfl (((K, ln, Ls, hp24), gn) : GU × Nat) hw ⟨gex, hW, ok25, gfx, pd28, (by omega)⟩ (show (gn - g0) ≤ gn - g0 from by omega) (show (14 * (gn - g0)) ≤ 14 * (gn - g0) from by omega) (show (gn - g0) ≤ 327680 from by omega) (show (14 * (gn - g0)) ≤ 4580352 from by omega) dX11_aheadAt_69
        · skip
          have tf46 : zi903.toInt < zi38.toInt := (fa_lt _ _).mp (Int32.not_le.mp cn43)
          have bd47 : (0 : Int) ≤ zi903.toInt ∧ zi903.toInt ≤ 3 := r_lt_x (Int32.not_le.mp cn43) bd13 bd42 (by decide) (by decide)
          refine lv_aload_n hx hb dX11_aheadAt_56 rfl (lv_at hl 0 rfl) ?_
          refine p_get (ci := 11) (v := .ref qa35) (C := RX11) (T := TX11) (N := 17) hx hb hT iw_X11 hown hK hw hW kd33 (by decide) rfl rfl 15 (by decide) eq34 (hT _ tb_672) (fun _ h9 => h9) dX11_aheadAt_57 ?_
          obtain ⟨qa49, eq48, kd50⟩ := rd_1002 ok25 kd36
          refine p_getN (ci := 0) (v := .ref qa49) (C := RX0) (T := TX0) (N := 8) hx hb hT iw_X0 hown hK hw hW kd36 (by decide) rfl rfl 2 (by decide) eq48 (hK.fl nw_490) (fun _ h9 => h9) dX11_aheadAt_60 ?_
          refine lv_iload_n hx hb dX11_aheadAt_63 rfl (lv_at hl 3 rfl) ?_
          obtain ⟨zi52, eq51⟩ := rd_20000 ok25 kd50 ((zi903 : Int32).toNatClampNeg)
          refine p_iald (v := zi52) hx hb hK hw hW kd50 (by decide) rfl (hW.len kd50 (n := 4) rfl (by decide)) (vp_b bd47 (by decide) (by decide)) eq51 dX11_aheadAt_64 ?_
          refine lv_goto (tgt := 69) hx hb dX11_aheadAt_65 (by decide) ?_
          rw [hQ]
          exact kgz_i (n := g0) hx hb hr hlocks hS rfl (((K, ln, Ls, hp24), gn) : GU × Nat) hw ⟨gex, hW, ok25, gfx, pd28, (by omega)⟩ (show (gn - g0) ≤ gn - g0 from by omega) (show (14 * (gn - g0)) ≤ 14 * (gn - g0) from by omega) (show (gn - g0) ≤ 327680 from by omega) (show (14 * (gn - g0)) ≤ 4580352 from by omega) dX11_aheadAt_69
      · skip
        have bd53 : (0 : Int) ≤ zi38.toInt ∧ zi38.toInt ≤ 0 := r_eq_x cn40 bd39 bc_0 (by decide) (by decide)
        refine lv_bipush (v := (-2)) hx hb dX11_aheadAt_42 (by decide) ?_
        rw [hQ]
        exact kgz_i (n := g0) hx hb hr hlocks hS rfl (((K, ln, Ls, hp24), gn) : GU × Nat) hw ⟨gex, hW, ok25, gfx, pd28, (by omega)⟩ (show (gn - g0) ≤ gn - g0 from by omega) (show (14 * (gn - g0)) ≤ 14 * (gn - g0) from by omega) (show (gn - g0) ≤ 327680 from by omega) (show (14 * (gn - g0)) ≤ 4580352 from by omega) dX11_aheadAt_44
    · skip
      have bd54 : (-2147483648 : Int) ≤ zi903.toInt ∧ zi903.toInt ≤ -1 := r_lt_x (Int32.not_le.mp cn12) (b_all zi903) bc_0 (by decide) (by decide)
      refine lv_iconst (v := (-1)) hx hb dX11_aheadAt_13 (by decide) ?_
      rw [hQ]
      exact kgz_i (n := g0) hx hb hr hlocks hS rfl (((K, ln, Ls, hp0), gn) : GU × Nat) hw ⟨gex, hW, ok1, gfx, pdNS, (by omega)⟩ (show (gn - g0) ≤ gn - g0 from by omega) (show (14 * (gn - g0)) ≤ 14 * (gn - g0) from by omega) (show (gn - g0) ≤ 327680 from by omega) (show (14 * (gn - g0)) ≤ 4580352 from by omega) dX11_aheadAt_14
