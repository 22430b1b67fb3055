set_option maxRecDepth 100000 in
set_option maxHeartbeats 4000000 in
theorem cX11_surely_0 (l : Launch) (G : va_G) (cy : Nat → ClassId) (ev : Ew) (K0 ln0 : Nat → Nat) (Ls0 : List Nat) (hW0 : SW K0 ln0 Ls0) (sz : Nat) (hp0 : Nat → Nat → Value) (ok0 : Ok K0 hp0) (qa900 : Nat) (zi901 : Int32) (g0 : Nat) (kd900 : K0 qa900 = 12) (pdNS : NSx K0 ln0 hp0 g0) : Met l yX11_surely (WS yX11_surely cX11_surely 2 (some .int)) { frames := 7, cells := 327680, slots := 4580352, locals := 183 } (PB2 [.ref qa900, .int zi901] sz G cy ev (va_pl Ls0 (cellOf cy K0 ln0 hp0))) (QGi (fun (r : Int32) (u : GU × Nat) => GPx wsC K0 ln0 hp0 g0 u.1 u.2) G cy g0 (va_A (va_pl Ls0 (cellOf cy K0 ln0 hp0)) sz)) 327680 4580352 (va_A (va_pl Ls0 (cellOf cy K0 ln0 hp0)) sz) := by
  refine met_of2 (y := yX11_surely) (L := 2) (av := [.ref qa900, .int zi901]) (Qc := fun A => QGi (fun (r : Int32) (u : GU × Nat) => GPx wsC K0 ln0 hp0 g0 u.1 u.2) G cy g0 A) (plainFor_of_name (by decide)) (Nat.le_of_ble_eq_true rfl) ?_
  intro p e s m below meth c hsz hx hb hr hml hown hT hlocks hin hK A hA hE hw hS ls hl
  have hw : PW G cy K0 ln0 Ls0 A hp0 s.heap := hw
  have hown : s.vm.findClass "LieClock" = some m.cls := hown
  have hl : lv_has ls 2 [(0, .ref qa900), (1, .int zi901)] := hl
  obtain ⟨Q, hQ⟩ : ∃ Q : State → Prop, Q = MQ below (QGi (fun (r : Int32) (u : GU × Nat) => GPx wsC K0 ln0 hp0 g0 u.1 u.2) G cy g0 A) ([.ref qa900, .int zi901] : List Value).toArray s 327680 4580352 A := ⟨_, rfl⟩
  rw [← hQ]
  obtain ⟨K, ln, Ls, gn, hW, gex, gfx, ok1, hKe, hga, hge, kd900, pdNS, hw⟩ : ∃ (K ln : Nat → Nat) (Ls : List Nat) (gn : Nat), SW K ln Ls ∧ EXx K0 ln0 K ln ∧ FrX wsC K0 hp0 hp0 ∧ Ok K hp0 ∧ K = K0 ∧ g0 ≤ gn ∧ gn = g0 ∧ (K qa900 = 12) ∧ (NSx K ln hp0 gn) ∧ PW G cy K ln Ls A hp0 s.heap := ⟨K0, ln0, Ls0, g0, hW0, EXx.rf, FrX.rf, ok0, rfl, Nat.le_refl _, rfl, kd900, pdNS, hw⟩
  have hg0 : 256 ≤ g0 ∧ g0 ≤ 131072 := by have := NSx.bd pdNS; omega
  refine W.widen (k := gn - g0) (n := 14 * (gn - g0)) (Nat.zero_le _) (Nat.zero_le _) ?_
  have hgn := NSx.bd pdNS
  refine lv_iload_n hx hb dX11_surely_0 rfl (lv_at hl 1 rfl) ?_
  refine lv_if_lt (tgt := 15) hx hb dX11_surely_1 (by decide) (fun cn1 => ?_) (fun cn1 => ?_)
  · skip
    have bd2 : (-2147483648 : Int) ≤ zi901.toInt ∧ zi901.toInt ≤ -1 := r_lt_x cn1 (b_all zi901) bc_0 (by decide) (by decide)
    refine lv_iconst (v := (-1)) hx hb dX11_surely_15 (by decide) ?_
    rw [hQ]
    exact kgz_i (n := g0) hx hb hr hlocks hS rfl (((K, ln, Ls, hp0), gn) : GU × Nat) hw ⟨gex, hW, ok1, gfx, pdNS, (by omega)⟩ (show (gn - g0) ≤ gn - g0 from by omega) (show (14 * (gn - g0)) ≤ 14 * (gn - g0) from by omega) (show (gn - g0) ≤ 327680 from by omega) (show (14 * (gn - g0)) ≤ 4580352 from by omega) dX11_surely_16
  · skip
    have bd3 : (0 : Int) ≤ zi901.toInt ∧ zi901.toInt ≤ 2147483647 := r_le_y (Int32.not_lt.mp cn1) bc_0 (b_all zi901) (by decide) (by decide)
    refine lv_iload_n hx hb dX11_surely_4 rfl (lv_at hl 1 rfl) ?_
    refine lv_aload_n hx hb dX11_surely_5 rfl (lv_at hl 0 rfl) ?_
    obtain ⟨qa5, eq4, kd6⟩ := rd_12016 ok1 kd900
    refine p_get (ci := 11) (v := .ref qa5) (C := RX11) (T := TX11) (N := 17) hx hb hT iw_X11 hown hK hw hW kd900 (by decide) rfl rfl 16 (by decide) eq4 (hT _ tb_673) (fun _ h9 => h9) dX11_surely_6 ?_
    obtain ⟨zi8, eq7, bd9⟩ := rd_2003 ok1 kd6
    refine p_getN (ci := 1) (v := .int zi8) (C := RX1) (T := TX1) (N := 8) hx hb hT iw_X1 hown hK hw hW kd6 (by decide) rfl rfl 3 (by decide) eq7 (hK.fl nw_528) (fun _ h9 => h9) dX11_surely_9 ?_
    refine lv_icmp_le (tgt := 17) hx hb dX11_surely_12 (by decide) (fun cn10 => ?_) (fun cn10 => ?_)
    · skip
      have tf11 : zi901.toInt ≤ zi8.toInt := (fa_le _ _).mp cn10
      have bd12 : (0 : Int) ≤ zi901.toInt ∧ zi901.toInt ≤ 5 := r_le_x cn10 bd3 bd9 (by decide) (by decide)
      refine lv_aload_n hx hb dX11_surely_17 rfl (lv_at hl 0 rfl) ?_
      refine p_get (ci := 11) (v := .ref qa5) (C := RX11) (T := TX11) (N := 17) hx hb hT iw_X11 hown hK hw hW kd900 (by decide) rfl rfl 16 (by decide) eq4 (hT _ tb_673) (fun _ h9 => h9) dX11_surely_18 ?_
      refine lv_aload_n hx hb dX11_surely_21 rfl (lv_at hl 0 rfl) ?_
      obtain ⟨qa14, eq13, kd15⟩ := rd_12003 ok1 kd900
      refine p_get (ci := 11) (v := .ref qa14) (C := RX11) (T := TX11) (N := 17) hx hb hT iw_X11 hown hK hw hW kd900 (by decide) rfl rfl 3 (by decide) eq13 (hT _ tb_660) (fun _ h9 => h9) dX11_surely_22 ?_
      refine lv_iload_n hx hb dX11_surely_25 rfl (lv_at hl 1 rfl) ?_
      have gf23 : FrX wsC K0 hp0 hp0 := gfx
      refine kg_v hw hS hA (va_runV (As := [.ref qa14, .int zi901]) (rest := []) ⟨hx, hb, hml, hown, hT⟩ (Met.szx (cX1_find_0 l G cy ev K ln Ls hW _ hp0 ok1 qa5 qa14 zi901 gn kd6 kd15 (b_wid2 bd12 (by decide) (by decide)) pdNS)) (cwV 2 hT (good_V tb_1316 tb_1313 tb_1314 tb_1315 tb_121) rfl rfl rfl (by decide +kernel) ⟨Nat.le_of_ble_eq_true rfl, Nat.le_of_ble_eq_true rfl⟩) (pool_preV (ci := 1) hK hE hS hA hw hW kd6 (by decide) rfl) rfl rfl hl.1 rfl (lv_room (Nat.le_of_ble_eq_true rfl)) dX11_surely_26 ⟨(show (gn - g0) + 327680 ≤ 327680 from by omega), (show (14 * (gn - g0)) + 4580352 ≤ 4580352 from by omega)⟩) (fun u gn H locs hq16 hw hS => ?_)
      obtain ⟨K, ln, Ls, hp17⟩ := u
      obtain ⟨ex19, hW, ok18, fx20, pd21, hle22⟩ := hq16
      have ex19 : EXx _ _ K ln := ex19
      have hW : SW K ln Ls := hW
      have ok18 : Ok K hp17 := ok18
      have fx20 : FrX _ _ _ hp17 := fx20
      have pd21 : NSx K ln hp17 gn := pd21
      have hle22 : _ ≤ gn := hle22
      have hw : PW G cy K ln Ls A hp17 H := hw
      have gfx : FrX wsC K0 hp0 hp17 := FrX.tr gf23 gex fx20 (by decide +kernel)
      have gex := EXx.tr gex ex19
      have kd26 := EXx.kd ex19 kd900 (by decide)
      (try clear kd900); (try clear kd6); (try clear kd15)
      have hgn := NSx.bd pd21
      refine W.widen (k := gn - g0) (n := 14 * (gn - g0)) (by omega) (by omega) ?_
      have hga : g0 ≤ gn := by omega
      refine lv_aload_n hx hb dX11_surely_29 rfl (lv_at hl 0 rfl) ?_
      obtain ⟨qa28, eq27, kd29⟩ := rd_12016 ok18 kd26
      refine p_get (ci := 11) (v := .ref qa28) (C := RX11) (T := TX11) (N := 17) hx hb hT iw_X11 hown hK hw hW kd26 (by decide) rfl rfl 16 (by decide) eq27 (hT _ tb_673) (fun _ h9 => h9) dX11_surely_30 ?_
      obtain ⟨qa31, eq30, kd32⟩ := rd_2006 ok18 kd29
      refine p_getN (ci := 1) (v := .ref qa31) (C := RX1) (T := TX1) (N := 8) hx hb hT iw_X1 hown hK hw hW kd29 (by decide) rfl rfl 6 (by decide) eq30 (hK.fl nw_533) (fun _ h9 => h9) dX11_surely_33 ?_
      refine lv_iload_n hx hb dX11_surely_36 rfl (lv_at hl 1 rfl) ?_
      obtain ⟨zi34, eq33⟩ := rd_24000 ok18 kd32 ((zi901 : Int32).toNatClampNeg)
      refine p_iald (v := zi34) hx hb hK hw hW kd32 (by decide) rfl (hW.len kd32 (n := 6) rfl (by decide)) (vp_b bd12 (by decide) (by decide)) eq33 dX11_surely_37 ?_
      rw [hQ]
      exact kgz_i (n := g0) hx hb hr hlocks hS rfl (((K, ln, Ls, hp17), gn) : GU × Nat) hw ⟨gex, hW, ok18, gfx, pd21, (by omega)⟩ (show (gn - g0) ≤ gn - g0 from by omega) (show (14 * (gn - g0)) ≤ 14 * (gn - g0) from by omega) (show (gn - g0) ≤ 327680 from by omega) (show (14 * (gn - g0)) ≤ 4580352 from by omega) dX11_surely_38
    · skip
      have tf35 : zi8.toInt < zi901.toInt := (fa_lt _ _).mp (Int32.not_le.mp cn10)
      have bd36 : (1 : Int) ≤ zi901.toInt ∧ zi901.toInt ≤ 2147483647 := r_lt_y (Int32.not_le.mp cn10) bd9 bd3 (by decide) (by decide)
      refine lv_iconst (v := (-1)) hx hb dX11_surely_15 (by decide) ?_
      rw [hQ]
      exact kgz_i (n := g0) hx hb hr hlocks hS rfl (((K, ln, Ls, hp0), gn) : GU × Nat) hw ⟨gex, hW, ok1, gfx, pdNS, (by omega)⟩ (show (gn - g0) ≤ gn - g0 from by omega) (show (14 * (gn - g0)) ≤ 14 * (gn - g0) from by omega) (show (gn - g0) ≤ 327680 from by omega) (show (14 * (gn - g0)) ≤ 4580352 from by omega) dX11_surely_16
