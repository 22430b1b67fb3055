set_option maxRecDepth 100000 in
set_option maxHeartbeats 4000000 in
theorem cX11_ahead_0 (l : Launch) (G : va_G) (cy : Nat → ClassId) (ev : Ew) (K0 ln0 : Nat → Nat) (Ls0 : List Nat) (hW0 : SW K0 ln0 Ls0) (sz : Nat) (hp0 : Nat → Nat → Value) (ok0 : Ok K0 hp0) (qa900 : Nat) (zi901 : Int32) (zi902 : Int32) (zi903 : Int32) (g0 : Nat) (kd900 : K0 qa900 = 12) (pdNS : NSx K0 ln0 hp0 g0) : Met l yX11_ahead (WS yX11_ahead cX11_ahead 4 (some .int)) { frames := 7, cells := 327680, slots := 4580352, locals := 178 } (PB2 [.ref qa900, .int zi901, .int zi902, .int zi903] sz G cy ev (va_pl Ls0 (cellOf cy K0 ln0 hp0))) (QGi (fun (r : Int32) (u : GU × Nat) => GPx wsC K0 ln0 hp0 g0 u.1 u.2) G cy g0 (va_A (va_pl Ls0 (cellOf cy K0 ln0 hp0)) sz)) 327680 4580352 (va_A (va_pl Ls0 (cellOf cy K0 ln0 hp0)) sz) := by
  refine met_of2 (y := yX11_ahead) (L := 4) (av := [.ref qa900, .int zi901, .int zi902, .int zi903]) (Qc := fun A => QGi (fun (r : Int32) (u : GU × Nat) => GPx wsC K0 ln0 hp0 g0 u.1 u.2) G cy g0 A) (plainFor_of_name (by decide)) (Nat.le_of_ble_eq_true rfl) ?_
  intro p e s m below meth c hsz hx hb hr hml hown hT hlocks hin hK A hA hE hw hS ls hl
  have hw : PW G cy K0 ln0 Ls0 A hp0 s.heap := hw
  have hown : s.vm.findClass "LieClock" = some m.cls := hown
  have hl : lv_has ls 4 [(0, .ref qa900), (1, .int zi901), (2, .int zi902), (3, .int zi903)] := hl
  obtain ⟨Q, hQ⟩ : ∃ Q : State → Prop, Q = MQ below (QGi (fun (r : Int32) (u : GU × Nat) => GPx wsC K0 ln0 hp0 g0 u.1 u.2) G cy g0 A) ([.ref qa900, .int zi901, .int zi902, .int zi903] : List Value).toArray s 327680 4580352 A := ⟨_, rfl⟩
  rw [← hQ]
  obtain ⟨K, ln, Ls, gn, hW, gex, gfx, ok1, hKe, hga, hge, kd900, pdNS, hw⟩ : ∃ (K ln : Nat → Nat) (Ls : List Nat) (gn : Nat), SW K ln Ls ∧ EXx K0 ln0 K ln ∧ FrX wsC K0 hp0 hp0 ∧ Ok K hp0 ∧ K = K0 ∧ g0 ≤ gn ∧ gn = g0 ∧ (K qa900 = 12) ∧ (NSx K ln hp0 gn) ∧ PW G cy K ln Ls A hp0 s.heap := ⟨K0, ln0, Ls0, g0, hW0, EXx.rf, FrX.rf, ok0, rfl, Nat.le_refl _, rfl, kd900, pdNS, hw⟩
  have hg0 : 256 ≤ g0 ∧ g0 ≤ 131072 := by have := NSx.bd pdNS; omega
  refine W.widen (k := gn - g0) (n := 14 * (gn - g0)) (Nat.zero_le _) (Nat.zero_le _) ?_
  have hgn := NSx.bd pdNS
  refine lv_aload_n hx hb dX11_ahead_0 rfl (lv_at hl 0 rfl) ?_
  refine lv_iload_n hx hb dX11_ahead_1 rfl (lv_at hl 1 rfl) ?_
  refine lv_iload_n hx hb dX11_ahead_2 rfl (lv_at hl 2 rfl) ?_
  refine kq_i hw hS hA (va_runV (As := [.int zi901, .int zi902]) (rest := []) ⟨hx, hb, hml, hown, hT⟩ (cX11_areTwoCases_0 l G cy ev K ln Ls hW _ hp0 ok1 qa900 zi901 zi902 kd900) (cwV 2 hT (good_V tb_1128 tb_1125 tb_1127 tb_32 tb_105) rfl rfl rfl (by decide +kernel) ⟨Nat.le_of_ble_eq_true rfl, Nat.le_of_ble_eq_true rfl⟩) (pool_preV (ci := 11) hK hE hS hA hw hW kd900 (by decide) rfl) rfl rfl hl.1 rfl (lv_room (Nat.le_of_ble_eq_true rfl)) dX11_ahead_3 ⟨(show (gn - g0) + 0 ≤ 327680 from by omega), (show (14 * (gn - g0)) + 0 ≤ 4580352 from by omega)⟩) (fun zi5 hp1 H locs hq4 hw hS => ?_)
  obtain ⟨ok2, F3, bd6, hc7, hc8⟩ := hq4
  obtain rfl : hp0 = hp1 := (Fr.nil F3).symm
  have hw : PW G cy K ln Ls A hp0 H := hw
  rcases b01 bd6 with cn9 | cn9
  · skip
    subst cn9
    refine lv_if_eq (tgt := 18) hx hb dX11_ahead_6 (by decide) (fun _ => ?_) (fun c => absurd (d_eq bc_0 bc_0) c)
    refine lv_iconst (v := (-1)) hx hb dX11_ahead_18 (by decide) ?_
    rw [hQ]
    exact kgz_i (n := g0) hx hb hr hlocks hS rfl (((K, ln, Ls, hp0), gn) : GU × Nat) hw ⟨gex, hW, ok1, gfx, pdNS, (by omega)⟩ (show (gn - g0) ≤ gn - g0 from by omega) (show (14 * (gn - g0)) ≤ 14 * (gn - g0) from by omega) (show (gn - g0) ≤ 327680 from by omega) (show (14 * (gn - g0)) ≤ 4580352 from by omega) dX11_ahead_19
  · skip
    subst cn9
    have bd10 : (0 : Int) ≤ zi901.toInt ∧ zi901.toInt ≤ 7 := b_meet (b_all zi901) (hc7 rfl) (by decide) (by decide)
    have bd11 : (0 : Int) ≤ zi902.toInt ∧ zi902.toInt ≤ 7 := b_meet (b_all zi902) (hc8 rfl) (by decide) (by decide)
    refine lv_if_eq (tgt := 18) hx hb dX11_ahead_6 (by decide) (fun c => absurd c (d_ne bc_1 bc_0 (by decide))) (fun _ => ?_)
    refine lv_iload_n hx hb dX11_ahead_9 rfl (lv_at hl 3 rfl) ?_
    refine lv_if_lt (tgt := 18) hx hb dX11_ahead_10 (by decide) (fun cn12 => ?_) (fun cn12 => ?_)
    · skip
      have bd13 : (-2147483648 : Int) ≤ zi903.toInt ∧ zi903.toInt ≤ -1 := r_lt_x cn12 (b_all zi903) bc_0 (by decide) (by decide)
      refine lv_iconst (v := (-1)) hx hb dX11_ahead_18 (by decide) ?_
      rw [hQ]
      exact kgz_i (n := g0) hx hb hr hlocks hS rfl (((K, ln, Ls, hp0), gn) : GU × Nat) hw ⟨gex, hW, ok1, gfx, pdNS, (by omega)⟩ (show (gn - g0) ≤ gn - g0 from by omega) (show (14 * (gn - g0)) ≤ 14 * (gn - g0) from by omega) (show (gn - g0) ≤ 327680 from by omega) (show (14 * (gn - g0)) ≤ 4580352 from by omega) dX11_ahead_19
    · skip
      have bd14 : (0 : Int) ≤ zi903.toInt ∧ zi903.toInt ≤ 2147483647 := r_le_y (Int32.not_lt.mp cn12) bc_0 (b_all zi903) (by decide) (by decide)
      refine lv_iload_n hx hb dX11_ahead_13 rfl (lv_at hl 3 rfl) ?_
      refine lv_iconst (v := 1) hx hb dX11_ahead_14 (by decide) ?_
      refine lv_icmp_le (tgt := 20) hx hb dX11_ahead_15 (by decide) (fun cn15 => ?_) (fun cn15 => ?_)
      · skip
        have bd16 : (0 : Int) ≤ zi903.toInt ∧ zi903.toInt ≤ 1 := r_le_x cn15 bd14 bc_1 (by decide) (by decide)
        refine lv_aload_n hx hb dX11_ahead_20 rfl (lv_at hl 0 rfl) ?_
        obtain ⟨qa18, eq17, kd19⟩ := rd_12015 ok1 kd900
        refine p_get (ci := 11) (v := .ref qa18) (C := RX11) (T := TX11) (N := 17) hx hb hT iw_X11 hown hK hw hW kd900 (by decide) rfl rfl 15 (by decide) eq17 (hT _ tb_672) (fun _ h9 => h9) dX11_ahead_21 ?_
        refine lv_aload_n hx hb dX11_ahead_24 rfl (lv_at hl 0 rfl) ?_
        obtain ⟨qa21, eq20, kd22⟩ := rd_12003 ok1 kd900
        refine p_get (ci := 11) (v := .ref qa21) (C := RX11) (T := TX11) (N := 17) hx hb hT iw_X11 hown hK hw hW kd900 (by decide) rfl rfl 3 (by decide) eq20 (hT _ tb_660) (fun _ h9 => h9) dX11_ahead_25 ?_
        refine lv_aload_n hx hb dX11_ahead_28 rfl (lv_at hl 0 rfl) ?_
        obtain ⟨qa24, eq23, kd25⟩ := rd_12005 ok1 kd900
        refine p_get (ci := 11) (v := .ref qa24) (C := RX11) (T := TX11) (N := 17) hx hb hT iw_X11 hown hK hw hW kd900 (by decide) rfl rfl 5 (by decide) eq23 (hT _ tb_662) (fun _ h9 => h9) dX11_ahead_29 ?_
        refine lv_iload_n hx hb dX11_ahead_32 rfl (lv_at hl 1 rfl) ?_
        refine lv_iload_n hx hb dX11_ahead_33 rfl (lv_at hl 2 rfl) ?_
        have gf33 : FrX wsC K0 hp0 hp0 := gfx
        refine kg_v hw hS hA (va_runV (As := [.ref qa21, .ref qa24, .int zi901, .int zi902]) (rest := []) ⟨hx, hb, hml, hown, hT⟩ (Met.szx (cX0_find_0 l G cy ev K ln Ls hW _ hp0 ok1 qa18 qa21 qa24 zi901 zi902 gn kd19 kd22 kd25 (b_wid2 bd10 (by decide) (by decide)) (b_wid2 bd11 (by decide) (by decide)) pdNS)) (cwV 4 hT (good_V tb_1132 tb_1129 tb_1130 tb_1131 tb_120) rfl rfl rfl (by decide +kernel) ⟨Nat.le_of_ble_eq_true rfl, Nat.le_of_ble_eq_true rfl⟩) (pool_preV (ci := 0) hK hE hS hA hw hW kd19 (by decide) rfl) rfl rfl hl.1 rfl (lv_room (Nat.le_of_ble_eq_true rfl)) dX11_ahead_34 ⟨(show (gn - g0) + 327680 ≤ 327680 from by omega), (show (14 * (gn - g0)) + 4580352 ≤ 4580352 from by omega)⟩) (fun u gn H locs hq26 hw hS => ?_)
        obtain ⟨K, ln, Ls, hp27⟩ := u
        obtain ⟨ex29, hW, ok28, fx30, pd31, hle32⟩ := hq26
        have ex29 : EXx _ _ K ln := ex29
        have hW : SW K ln Ls := hW
        have ok28 : Ok K hp27 := ok28
        have fx30 : FrX _ _ _ hp27 := fx30
        have pd31 : NSx K ln hp27 gn := pd31
        have hle32 : _ ≤ gn := hle32
        have hw : PW G cy K ln Ls A hp27 H := hw
        have gfx : FrX wsC K0 hp0 hp27 := FrX.tr gf33 gex fx30 (by decide +kernel)
        have gex := EXx.tr gex ex29
        have kd36 := EXx.kd ex29 kd900 (by decide)
        (try clear kd900); (try clear kd19); (try clear kd22); (try clear kd25)
        have hgn := NSx.bd pd31
        refine W.widen (k := gn - g0) (n := 14 * (gn - g0)) (by omega) (by omega) ?_
        have hga : g0 ≤ gn := by omega
        refine lv_aload_n hx hb dX11_ahead_37 rfl (lv_at hl 0 rfl) ?_
        obtain ⟨qa38, eq37, kd39⟩ := rd_12015 ok28 kd36
        refine p_get (ci := 11) (v := .ref qa38) (C := RX11) (T := TX11) (N := 17) hx hb hT iw_X11 hown hK hw hW kd36 (by decide) rfl rfl 15 (by decide) eq37 (hT _ tb_672) (fun _ h9 => h9) dX11_ahead_38 ?_
        obtain ⟨zi41, eq40, bd42⟩ := rd_1003 ok28 kd39
        refine p_getN (ci := 0) (v := .int zi41) (C := RX0) (T := TX0) (N := 8) hx hb hT iw_X0 hown hK hw hW kd39 (by decide) rfl rfl 3 (by decide) eq40 (hK.fl nw_492) (fun _ h9 => h9) dX11_ahead_41 ?_
        refine lv_if_ne (tgt := 50) hx hb dX11_ahead_44 (by decide) (fun cn43 => ?_) (fun cn43 => ?_)
        · skip
          have tf44 : (zi41 : Int32).toInt ≠ (0 : Int32).toInt := fun e => cn43 (Int32.toInt_inj.mp e)
          have := toi bc_0
          have bd45 : (1 : Int) ≤ zi41.toInt ∧ zi41.toInt ≤ 4 := r_ne_lo cn43 bd42 (toi bc_0) (by decide) (by decide)
          refine lv_iload_n hx hb dX11_ahead_50 rfl (lv_at hl 3 rfl) ?_
          refine lv_if_ne (tgt := 64) hx hb dX11_ahead_51 (by decide) (fun cn46 => ?_) (fun cn46 => ?_)
          · skip
            have tf47 : (zi903 : Int32).toInt ≠ (0 : Int32).toInt := fun e => cn46 (Int32.toInt_inj.mp e)
            have := toi bc_0
            have bd48 : (1 : Int) ≤ zi903.toInt ∧ zi903.toInt ≤ 1 := r_ne_lo cn46 bd16 (toi bc_0) (by decide) (by decide)
            refine lv_aload_n hx hb dX11_ahead_64 rfl (lv_at hl 0 rfl) ?_
            refine p_get (ci := 11) (v := .ref qa38) (C := RX11) (T := TX11) (N := 17) hx hb hT iw_X11 hown hK hw hW kd36 (by decide) rfl rfl 15 (by decide) eq37 (hT _ tb_672) (fun _ h9 => h9) dX11_ahead_65 ?_
            obtain ⟨zi50, eq49⟩ := rd_1004 ok28 kd39
            refine p_getN (ci := 0) (v := .int zi50) (C := RX0) (T := TX0) (N := 8) hx hb hT iw_X0 hown hK hw hW kd39 (by decide) rfl rfl 4 (by decide) eq49 (hK.fl nw_494) (fun _ h9 => h9) dX11_ahead_68 ?_
            rw [hQ]
            exact kgz_i (n := g0) hx hb hr hlocks hS rfl (((K, ln, Ls, hp27), gn) : GU × Nat) hw ⟨gex, hW, ok28, gfx, pd31, (by omega)⟩ (show (gn - g0) ≤ gn - g0 from by omega) (show (14 * (gn - g0)) ≤ 14 * (gn - g0) from by omega) (show (gn - g0) ≤ 327680 from by omega) (show (14 * (gn - g0)) ≤ 4580352 from by omega) dX11_ahead_71
          · skip
            have bd51 : (0 : Int) ≤ zi903.toInt ∧ zi903.toInt ≤ 0 := r_eq_x cn46 bd16 bc_0 (by decide) (by decide)
            refine lv_aload_n hx hb dX11_ahead_54 rfl (lv_at hl 0 rfl) ?_
            refine p_get (ci := 11) (v := .ref qa38) (C := RX11) (T := TX11) (N := 17) hx hb hT iw_X11 hown hK hw hW kd36 (by decide) rfl rfl 15 (by decide) eq37 (hT _ tb_672) (fun _ h9 => h9) dX11_ahead_55 ?_
            refine p_getN (ci := 0) (v := .int zi41) (C := RX0) (T := TX0) (N := 8) hx hb hT iw_X0 hown hK hw hW kd39 (by decide) rfl rfl 3 (by decide) eq40 (hK.fl nw_492) (fun _ h9 => h9) dX11_ahead_58 ?_
            refine lv_goto (tgt := 71) hx hb dX11_ahead_61 (by decide) ?_
            rw [hQ]
            exact kgz_i (n := g0) hx hb hr hlocks hS rfl (((K, ln, Ls, hp27), gn) : GU × Nat) hw ⟨gex, hW, ok28, gfx, pd31, (by omega)⟩ (show (gn - g0) ≤ gn - g0 from by omega) (show (14 * (gn - g0)) ≤ 14 * (gn - g0) from by omega) (show (gn - g0) ≤ 327680 from by omega) (show (14 * (gn - g0)) ≤ 4580352 from by omega) dX11_ahead_71
        · skip
          have bd52 : (0 : Int) ≤ zi41.toInt ∧ zi41.toInt ≤ 0 := r_eq_x cn43 bd42 bc_0 (by decide) (by decide)
          refine lv_bipush (v := (-2)) hx hb dX11_ahead_47 (by decide) ?_
          rw [hQ]
          exact kgz_i (n := g0) hx hb hr hlocks hS rfl (((K, ln, Ls, hp27), gn) : GU × Nat) hw ⟨gex, hW, ok28, gfx, pd31, (by omega)⟩ (show (gn - g0) ≤ gn - g0 from by omega) (show (14 * (gn - g0)) ≤ 14 * (gn - g0) from by omega) (show (gn - g0) ≤ 327680 from by omega) (show (14 * (gn - g0)) ≤ 4580352 from by omega) dX11_ahead_49
      · skip
        have bd53 : (2 : Int) ≤ zi903.toInt ∧ zi903.toInt ≤ 2147483647 := r_lt_y (Int32.not_le.mp cn15) bc_1 bd14 (by decide) (by decide)
        refine lv_iconst (v := (-1)) hx hb dX11_ahead_18 (by decide) ?_
        rw [hQ]
        exact kgz_i (n := g0) hx hb hr hlocks hS rfl (((K, ln, Ls, hp0), gn) : GU × Nat) hw ⟨gex, hW, ok1, gfx, pdNS, (by omega)⟩ (show (gn - g0) ≤ gn - g0 from by omega) (show (14 * (gn - g0)) ≤ 14 * (gn - g0) from by omega) (show (gn - g0) ≤ 327680 from by omega) (show (14 * (gn - g0)) ≤ 4580352 from by omega) dX11_ahead_19
