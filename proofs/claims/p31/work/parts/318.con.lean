set_option maxRecDepth 100000 in
set_option maxHeartbeats 4000000 in
theorem cJ7_copyOf_c38d5_0 (l : Launch) (G : va_G) (cy : Nat → ClassId) (ev : Ew) (K0 ln0 : Nat → Nat) (Ls0 : List Nat) (hW0 : SW K0 ln0 Ls0) (sz : Nat) (hp0 : Nat → Nat → Value) (ok0 : Ok K0 hp0) (qa900 : Nat) (zi901 : Int32) (gN : Nat) (kd900 : K0 qa900 = 32) (bd901 : ((0 : Int) ≤ zi901.toInt ∧ zi901.toInt ≤ 131072)) (xp0 : zi901.toInt = (gN : Nat)) (xp1 : ((ln0 qa900 : Nat) : Int) < (gN : Nat)) (xp2 : gN ≤ 131072) : Met l yJ7_copyOf_c38d5 (WS yJ7_copyOf_c38d5 cJ7_copyOf_c38d5 3 (some (.array .long))) { frames := 1, cells := 1, slots := gN, locals := 40 } (PB2 [.ref qa900, .int zi901] sz G cy ev (va_pl Ls0 (cellOf cy K0 ln0 hp0))) (va_Qr (fun _ : GU => True) (fun u a t => (fun (u : GU) (a : Nat) => NEWy [32000] K0 ln0 hp0 a 32 gN u.1 u.2.1 u.2.2.1 u.2.2.2) u a ∧ va_P G vwCl (GWx cy u) t.heap ∧ va_D (va_A (va_pl Ls0 (cellOf cy K0 ln0 hp0)) sz) (GWx cy u)) (va_A (va_pl Ls0 (cellOf cy K0 ln0 hp0)) sz)) 1 gN (va_A (va_pl Ls0 (cellOf cy K0 ln0 hp0)) sz) := by
  refine met_of2 (y := yJ7_copyOf_c38d5) (L := 3) (av := [.ref qa900, .int zi901]) (Qc := fun A => va_Qr (fun _ : GU => True) (fun u a t => (fun (u : GU) (a : Nat) => NEWy [32000] K0 ln0 hp0 a 32 gN u.1 u.2.1 u.2.2.1 u.2.2.2) u a ∧ va_P G vwCl (GWx cy u) t.heap ∧ va_D A (GWx cy u)) A) (plainFor_of_name (by decide)) (Nat.le_of_ble_eq_true rfl) ?_
  intro p e s m below meth c hsz hx hb hr hml hown hT hlocks hin hK A hA hE hw hS ls hl
  have hw : PW G cy K0 ln0 Ls0 A hp0 s.heap := hw
  have hown : s.vm.findClass "java/util/Arrays" = some m.cls := hown
  have hl : lv_has ls 3 [(0, .ref qa900), (1, .int zi901)] := hl
  obtain ⟨Q, hQ⟩ : ∃ Q : State → Prop, Q = MQ below (va_Qr (fun _ : GU => True) (fun u a t => (fun (u : GU) (a : Nat) => NEWy [32000] K0 ln0 hp0 a 32 gN u.1 u.2.1 u.2.2.1 u.2.2.2) u a ∧ va_P G vwCl (GWx cy u) t.heap ∧ va_D A (GWx cy u)) A) ([.ref qa900, .int zi901] : List Value).toArray s 1 gN A := ⟨_, rfl⟩
  rw [← hQ]
  obtain ⟨K, ln, Ls, hW, gex, gfx, ok1, hKe, kd900, xp1, hw⟩ : ∃ (K ln : Nat → Nat) (Ls : List Nat), SW K ln Ls ∧ EXx K0 ln0 K ln ∧ FrX wsC K0 hp0 hp0 ∧ Ok K hp0 ∧ K = K0 ∧ (K qa900 = 32) ∧ (((ln qa900 : Nat) : Int) < (gN : Nat)) ∧ PW G cy K ln Ls A hp0 s.heap := ⟨K0, ln0, Ls0, hW0, EXx.rf, FrX.rf, ok0, rfl, kd900, xp1, hw⟩
  refine lv_iload_n hx hb dJ7_copyOf_c38d5_0 rfl (lv_at hl 1 rfl) ?_
  refine lv_aload_n hx hb dJ7_copyOf_c38d5_1 rfl (lv_at hl 0 rfl) ?_
  obtain ⟨zi1, ez2⟩ : ∃ z : Int32, Int32.ofNat (ln qa900) = z := ⟨_, rfl⟩
  refine p_alen (v := zi1) hx hb hK hw hW kd900 (by decide) rfl rfl ez2 dJ7_copyOf_c38d5_2 ?_
  have hl3 : zi1.toInt = (ln qa900 : Nat) := ofNat_len ez2 (by omega)
  have bd4 : (0 : Int) ≤ zi1.toInt ∧ zi1.toInt ≤ 262144 := (by omega)
  refine lv_icmp_ne (tgt := 14) hx hb dJ7_copyOf_c38d5_3 (by decide) (fun cn5 => ?_) (fun cn5 => ?_)
  · skip
    have tf6 : (zi901 : Int32).toInt ≠ (zi1 : Int32).toInt := fun e => cn5 (Int32.toInt_inj.mp e)
    refine lv_iload_n hx hb dJ7_copyOf_c38d5_14 rfl (lv_at hl 1 rfl) ?_
    have gf17 : FrX wsC K0 hp0 hp0 := gfx
    have gexo := gex
    refine p_newL hx hb (hT _ tb_181) hK hw hS hA hW ok1 32 (by decide) rfl rfl (by decide) (Int32.not_lt.mpr (by rw [fa_le]; have := toi bc_0; omega)) (show (zi901 : Int32).toNatClampNeg = gN from by have := clampN (x := zi901) (by omega); omega) (by omega) (show 0 + 1 ≤ 1 from by omega) (show 0 + (gN) ≤ gN from by omega) dJ7_copyOf_c38d5_15 (fun qa7 K ln Ls hp8 H hq9 hw hS => ?_)
    obtain ⟨ex12, hW, ok11, fx13, kd14, ln15, nw16⟩ := hq9
    have gfx : FrX wsC K0 hp0 hp8 := FrX.tr gf17 gex fx13 (by decide +kernel)
    have gex := EXx.tr gex ex12
    have kd18 := EXx.kd ex12 kd900 (by decide)
    have ln19 := EXx.le ex12 kd900 (by decide) rfl
    (try clear kd900)
    refine lv_astore_n (lv' := [(2, .ref qa7), (0, .ref qa900), (1, .int zi901)]) hx hb dJ7_copyOf_c38d5_17 rfl hl (by decide) rfl (fun ls hl => ?_)
    refine lv_aload_n hx hb dJ7_copyOf_c38d5_18 rfl (lv_at hl 1 rfl) ?_
    refine lv_iconst (v := 0) hx hb dJ7_copyOf_c38d5_19 (by decide) ?_
    refine lv_aload_n hx hb dJ7_copyOf_c38d5_20 rfl (lv_at hl 0 rfl) ?_
    refine lv_iconst (v := 0) hx hb dJ7_copyOf_c38d5_21 (by decide) ?_
    refine lv_aload_n hx hb dJ7_copyOf_c38d5_22 rfl (lv_at hl 1 rfl) ?_
    obtain ⟨zi20, ez21⟩ : ∃ z : Int32, Int32.ofNat (ln qa900) = z := ⟨_, rfl⟩
    refine p_alen (v := zi20) hx hb hK hw hW kd18 (by decide) rfl rfl ez21 dJ7_copyOf_c38d5_23 ?_
    have hl22 : zi20.toInt = (ln qa900 : Nat) := ofNat_len ez21 (by omega)
    have bd23 : (0 : Int) ≤ zi20.toInt ∧ zi20.toInt ≤ 262144 := (by omega)
    refine lv_iload_n hx hb dJ7_copyOf_c38d5_24 rfl (lv_at hl 2 rfl) ?_
    refine va_mmin hx hb (hml.trans hl.1.symm) hown (hT _ tb_1171) (hT _ tb_791) (hT _ tb_123) (hT _ tb_792) (Nat.le_of_ble_eq_true rfl) (Nat.le_of_ble_eq_true rfl) (show (0 + 1) ≤ 1 from by omega) (show (0 + (gN)) ≤ gN from by omega) dJ7_copyOf_c38d5_25 (lv_topi (fun zi24 ea25 => ?_))
    have mn26 := min_le2 ea25
    have bd27 : (0 : Int) ≤ zi24.toInt ∧ zi24.toInt ≤ 131072 := b_min ea25 bd23 bd901 (by decide) (by decide) (by decide)
    refine p_copyL (k0 := 32) (k1 := 32) (cq := 32000) (x0 := 0) (x1 := 0) (y0 := 0) (y1 := 0) (z0 := 0) (z1 := (ln qa900 : Nat)) hx hb (hml.trans hl.1.symm) hown (hT _ tb_1172) (hT _ tb_1054) (hT _ tb_1053) (hT _ tb_127) hK hw hS hW ok11 kd18 kd14 (by decide) (by decide) rfl rfl rfl ln15 (fun _ h9 => h9) bc_0 bc_0 (by omega) (by decide) (by decide) (by decide) (by omega) (by omega) (Nat.le_of_ble_eq_true rfl) (Nat.le_of_ble_eq_true rfl) dJ7_copyOf_c38d5_28 rfl (fun hp28 ok30 F29 H locs hw hS => ?_)
    refine lv_aload_n hx hb dJ7_copyOf_c38d5_31 rfl (lv_at hl 0 rfl) ?_
    rw [hQ]
    exact kgz_r hx hb hr hlocks hS ((K, ln, Ls, hp28) : GU) hw ⟨gex, hW, ok30, FrX.tr (FrX.tr (FrX.rf (ws := [32000])) gexo fx13 (by decide)) gex (FrX.of (show Fr [32000] K hp8 hp28 from F29)) (by decide), kd14, ln15, by rw [hKe] at nw16; exact nw16⟩ (show (0 + 1) ≤ 1 from by omega) (show (0 + (gN)) ≤ gN from by omega) dJ7_copyOf_c38d5_32
  · skip
    have tf31 : zi901.toInt = zi1.toInt := congrArg Int32.toInt cn5
    have bd32 : (0 : Int) ≤ zi1.toInt ∧ zi1.toInt ≤ 131072 := r_eq_x (cn5).symm bd4 bd901 (by decide) (by decide)
    exact False.elim (by omega)

set_option maxRecDepth 100000 in
set_option maxHeartbeats 4000000 in
theorem cX3_grow_vGG_0 (l : Launch) (G : va_G) (cy : Nat → ClassId) (ev : Ew) (K0 ln0 : Nat → Nat) (Ls0 : List Nat) (hW0 : SW K0 ln0 Ls0) (sz : Nat) (hp0 : Nat → Nat → Value) (ok0 : Ok K0 hp0) (qa900 : Nat) (g0 : Nat) (kd900 : K0 qa900 = 4) (pdNS : NSx K0 ln0 hp0 g0) (xp0 : 2 * g0 ≤ 131072) : Met l yX3_grow (WS yX3_grow cX3_grow 3 none) { frames := 2, cells := 65536, slots := 917504, locals := 62 } (PB2 [.ref qa900] sz G cy ev (va_pl Ls0 (cellOf cy K0 ln0 hp0))) (QGv (fun u : GU × Nat => GPx wsC K0 ln0 hp0 g0 u.1 u.2 ∧ u.2 = 2 * g0) G cy g0 (va_A (va_pl Ls0 (cellOf cy K0 ln0 hp0)) sz)) 65536 917504 (va_A (va_pl Ls0 (cellOf cy K0 ln0 hp0)) sz) := by
  refine met_of2 (y := yX3_grow) (L := 3) (av := [.ref qa900]) (Qc := fun A => QGv (fun u : GU × Nat => GPx wsC K0 ln0 hp0 g0 u.1 u.2 ∧ u.2 = 2 * g0) G cy g0 A) (plainFor_of_name (by decide)) (Nat.le_of_ble_eq_true rfl) ?_
  intro p e s m below meth c hsz hx hb hr hml hown hT hlocks hin hK A hA hE hw hS ls hl
  have hw : PW G cy K0 ln0 Ls0 A hp0 s.heap := hw
  have hown : s.vm.findClass "LieClock$Nodes" = some m.cls := hown
  have hl : lv_has ls 3 [(0, .ref qa900)] := hl
  obtain ⟨Q, hQ⟩ : ∃ Q : State → Prop, Q = MQ below (QGv (fun u : GU × Nat => GPx wsC K0 ln0 hp0 g0 u.1 u.2 ∧ u.2 = 2 * g0) G cy g0 A) ([.ref qa900] : List Value).toArray s 65536 917504 A := ⟨_, rfl⟩
  rw [← hQ]
  obtain ⟨K, ln, Ls, gn, hW, gex, gfx, ok1, hKe, hga, hge, kd900, pdNS, xp0, hw⟩ : ∃ (K ln : Nat → Nat) (Ls : List Nat) (gn : Nat), SW K ln Ls ∧ EXx K0 ln0 K ln ∧ FrX wsC K0 hp0 hp0 ∧ Ok K hp0 ∧ K = K0 ∧ g0 ≤ gn ∧ gn = g0 ∧ (K qa900 = 4) ∧ (NSx K ln hp0 gn) ∧ (2 * gn ≤ 131072) ∧ PW G cy K ln Ls A hp0 s.heap := ⟨K0, ln0, Ls0, g0, hW0, EXx.rf, FrX.rf, ok0, rfl, Nat.le_refl _, rfl, kd900, pdNS, xp0, hw⟩
  have hg0 : 256 ≤ g0 ∧ g0 ≤ 131072 := by have := NSx.bd pdNS; omega
  have hgn := NSx.bd pdNS
  refine lv_iconst (v := 2) hx hb dX3_grow_0 (by decide) ?_
  refine lv_aload_n hx hb dX3_grow_1 rfl (lv_at hl 0 rfl) ?_
  obtain ⟨qa2, eq1, kd3⟩ := rd_4000 ok1 kd900
  have ln4 := (pdNS).ref kd900 (by decide) eq1
  refine p_get (ci := 3) (v := .ref qa2) (C := RX3) (T := TX3) (N := 7) hx hb hT iw_X3 hown hK hw hW kd900 (by decide) rfl rfl 0 (by decide) eq1 (hT _ tb_492) (fun _ h9 => h9) dX3_grow_2 ?_
  obtain ⟨zi5, ez6⟩ : ∃ z : Int32, Int32.ofNat (ln qa2) = z := ⟨_, rfl⟩
  refine p_alen (v := zi5) hx hb hK hw hW kd3 (by decide) rfl rfl ez6 dX3_grow_5 ?_
  have hl7 : zi5.toInt = (gn : Nat) := by have h9 := ofNat_len ez6 (by rw [ln4]; omega); rw [ln4] at h9; exact h9
  have bd8 : (256 : Int) ≤ zi5.toInt ∧ zi5.toInt ≤ 131072 := (by omega)
  refine lv_imul hx hb dX3_grow_6 (lv_topi (fun zi9 ea10 => ?_))
  have bd11 : (512 : Int) ≤ zi9.toInt ∧ zi9.toInt ≤ 262144 := b_imul ea10 bc_2 bd8 (by decide) (by decide) (by decide) (by decide) (by decide)
  have qe12 : zi9.toInt = (2 : Int32).toInt * (zi5 : Int32).toInt := e_imul (b := 2) (d := 131072) ea10 (b_wid2 bc_2 (by decide) (by decide)) (b_wid2 bd8 (by decide) (by decide)) (by decide)
  have qe13 : zi9.toInt = 2 * zi5.toInt := by have ha : (2 : Int32).toInt = 2 := (by decide); rw [ha] at qe12; exact qe12
  refine lv_istore_n (lv' := [(1, .int zi9), (0, .ref qa900)]) hx hb dX3_grow_7 rfl hl (by decide) rfl (fun ls hl => ?_)
  refine lv_iload_n hx hb dX3_grow_8 rfl (lv_at hl 0 rfl) ?_
  refine lv_ldc (v := 131072) hx hb hown (hT _ tb_1160) dX3_grow_9 ?_
  refine lv_icmp_le (tgt := 15) hx hb dX3_grow_11 (by decide) (fun cn14 => ?_) (fun cn14 => ?_)
  · skip
    have bd15 : (512 : Int) ≤ zi9.toInt ∧ zi9.toInt ≤ 131072 := r_le_x cn14 bd11 bc_131072 (by decide) (by decide)
    obtain ⟨qa17, eq16, kd18⟩ := rd_4001 ok1 kd900
    have ln19 := (pdNS).ref kd900 (by decide) eq16
    obtain ⟨qa21, eq20, kd22⟩ := rd_4002 ok1 kd900
    have ln23 := (pdNS).ref kd900 (by decide) eq20
    obtain ⟨qa25, eq24, kd26⟩ := rd_4003 ok1 kd900
    have ln27 := (pdNS).ref kd900 (by decide) eq24
    obtain ⟨qa29, eq28, kd30⟩ := rd_4004 ok1 kd900
    have ln31 := (pdNS).ref kd900 (by decide) eq28
    obtain ⟨qa33, eq32, kd34⟩ := rd_4005 ok1 kd900
    have ln35 := (pdNS).tab kd900 eq32
    obtain ⟨zi37, eq36, bd38⟩ := rd_4006 ok1 kd900
    have nz39 := (pdNS).sz kd900 eq36
    have uq := (pdNS).2.1
    refine lv_aload_n hx hb dX3_grow_15 rfl (lv_at hl 1 rfl) ?_
    refine lv_aload_n hx hb dX3_grow_16 rfl (lv_at hl 1 rfl) ?_
    refine p_get (ci := 3) (v := .ref qa2) (C := RX3) (T := TX3) (N := 7) hx hb hT iw_X3 hown hK hw hW kd900 (by decide) rfl rfl 0 (by decide) eq1 (hT _ tb_492) (fun _ h9 => h9) dX3_grow_17 ?_
    refine lv_iload_n hx hb dX3_grow_20 rfl (lv_at hl 0 rfl) ?_
    have gf47 : FrX wsC K0 hp0 hp0 := gfx
    refine kg_r hw hS hA (va_runS (As := [.ref qa2, .int zi9]) (rest := [.ref qa900]) ⟨hx, hb, hml, hown, hT⟩ (cJ7_copyOf_59c91_0 l G cy ev K ln Ls hW _ hp0 ok1 qa2 zi9 (2 * gn) kd3 (b_wid2 bd15 (by decide) (by decide)) (by omega) (by rw [ln4]; omega) (by omega)) (va_cwS 2 hT (good_S tb_1163 tb_1161 tb_1162 tb_116) rfl rfl rfl (by decide +kernel) ⟨Nat.le_of_ble_eq_true rfl, Nat.le_of_ble_eq_true rfl⟩) (PB2.preS hK hE hS hA hw) rfl rfl hl.1 rfl (lv_room (Nat.le_of_ble_eq_true rfl)) dX3_grow_21 ⟨(show 0 + 1 ≤ 65536 from by omega), (show 0 + (2 * gn) ≤ 917504 from by omega)⟩) (fun u qa48 H locs hq40 hw hS => ?_)
    obtain ⟨K, ln, Ls, hp41⟩ := u
    obtain ⟨ex43, hW, ok42, fx44, kd49, ln50, nw51⟩ := hq40
    have ex43 : EXx _ _ K ln := ex43
    have hW : SW K ln Ls := hW
    have ok42 : Ok K hp41 := ok42
    have fx44 : FrX _ _ _ hp41 := fx44
    have kd49 : K qa48 = 28 := kd49
    have ln50 : ln qa48 = 2 * gn := ln50
    have nw51 : ∀ a, K a ≠ 0 → a = qa48 ∨ K a = _ := nw51
    have hw : PW G cy K ln Ls A hp41 H := hw
    have gfx : FrX wsC K0 hp0 hp41 := FrX.tr gf47 gex fx44 (by decide +kernel)
    have gex := EXx.tr gex ex43
    have kd52 := EXx.kd ex43 kd22 (by decide)
    have kd53 := EXx.kd ex43 kd18 (by decide)
    have kd54 := EXx.kd ex43 kd26 (by decide)
    have kd55 := EXx.kd ex43 kd34 (by decide)
    have kd56 := EXx.kd ex43 kd30 (by decide)
    have kd57 := EXx.kd ex43 kd900 (by decide)
    have kd58 := EXx.kd ex43 kd3 (by decide)
    have eq59 : hp41 qa900 0 = .ref qa2 := Eq.trans (FrX.at (cq := 4000) fx44 kd900 (by decide) (cd_o (by decide)) (by decide)) eq1
    have eq60 : hp41 qa900 1 = .ref qa17 := Eq.trans (FrX.at (cq := 4001) fx44 kd900 (by decide) (cd_o (by decide)) (by decide)) eq16
    have eq61 : hp41 qa900 2 = .ref qa21 := Eq.trans (FrX.at (cq := 4002) fx44 kd900 (by decide) (cd_o (by decide)) (by decide)) eq20
    have eq62 : hp41 qa900 3 = .ref qa25 := Eq.trans (FrX.at (cq := 4003) fx44 kd900 (by decide) (cd_o (by decide)) (by decide)) eq24
    have eq63 : hp41 qa900 4 = .ref qa29 := Eq.trans (FrX.at (cq := 4004) fx44 kd900 (by decide) (cd_o (by decide)) (by decide)) eq28
    have eq64 : hp41 qa900 5 = .ref qa33 := Eq.trans (FrX.at (cq := 4005) fx44 kd900 (by decide) (cd_o (by decide)) (by decide)) eq32
    have eq65 : hp41 qa900 6 = .int zi37 := Eq.trans (FrX.at (cq := 4006) fx44 kd900 (by decide) (cd_o (by decide)) (by decide)) eq36
    have ln66 := EXx.le ex43 kd3 (by decide) ln4
    have ln67 := EXx.le ex43 kd18 (by decide) ln19
    have ln68 := EXx.le ex43 kd22 (by decide) ln23
    have ln69 := EXx.le ex43 kd26 (by decide) ln27
    have ln70 := EXx.le ex43 kd30 (by decide) ln31
    have ln71 := EXx.le ex43 kd34 (by decide) ln35
    (try clear kd900); (try clear kd3); (try clear kd18); (try clear kd22); (try clear kd26); (try clear kd30); (try clear kd34); (try clear ln4); (try clear ln19); (try clear ln23); (try clear ln27); (try clear ln31); (try clear ln35); (try clear eq1); (try clear eq16); (try clear eq20); (try clear eq24); (try clear eq28); (try clear eq32); (try clear eq36)
    have uq := uq_ext uq nw51 kd49 (by decide)
    refine p_put (ci := 3) (v := .ref qa48) (ty := .array .int) (C := RX3) (T := TX3) (N := 7) hx hb hT iw_X3 tyX3 tyX3_ok nmX3 hown hK hw hS hW kd57 (by decide) rfl rfl 0 (by decide) (hT _ tb_492) (fun _ h9 => h9) rfl (by decide +kernel) rfl rfl dX3_grow_24 (fun hp72 eh73 H locs hw hS => ?_)
    have ok74 := wr_4000 kd49 ok42 kd57 eh73
    refine lv_aload_n hx hb dX3_grow_27 rfl (lv_at hl 1 rfl) ?_
    refine lv_aload_n hx hb dX3_grow_28 rfl (lv_at hl 1 rfl) ?_
    have eq75 : hp72 qa900 1 = .ref qa17 := Eq.trans (up_at eh73 (Or.inr (by decide))) eq60
    refine p_get (ci := 3) (v := .ref qa17) (C := RX3) (T := TX3) (N := 7) hx hb hT iw_X3 hown hK hw hW kd57 (by decide) rfl rfl 1 (by decide) eq75 (hT _ tb_495) (fun _ h9 => h9) dX3_grow_29 ?_
    refine lv_iload_n hx hb dX3_grow_32 rfl (lv_at hl 0 rfl) ?_
    have gf83 : FrX wsC K0 hp0 hp72 := (FrX.tr gfx gex (FrX.of (show Fr [4000] K hp41 hp72 from (Fr.put (cq := 4000) (Fr.rf) eh73 kd57 (cd_o (by decide)) (by decide)))) (by decide +kernel))
    have eq84 : hp72 qa900 2 = .ref qa21 := Eq.trans (up_at eh73 (Or.inr (by decide))) eq61
    have eq85 : hp72 qa900 3 = .ref qa25 := Eq.trans (up_at eh73 (Or.inr (by decide))) eq62
    have eq86 : hp72 qa900 4 = .ref qa29 := Eq.trans (up_at eh73 (Or.inr (by decide))) eq63
    have eq87 : hp72 qa900 5 = .ref qa33 := Eq.trans (up_at eh73 (Or.inr (by decide))) eq64
    have eq88 : hp72 qa900 6 = .int zi37 := Eq.trans (up_at eh73 (Or.inr (by decide))) eq65
    refine kg_r hw hS hA (va_runS (As := [.ref qa17, .int zi9]) (rest := [.ref qa900]) ⟨hx, hb, hml, hown, hT⟩ (cJ7_copyOf_59c91_1 l G cy ev K ln Ls hW _ hp72 ok74 qa17 zi9 (2 * gn) kd53 (b_wid2 bd15 (by decide) (by decide)) (by omega) (by rw [ln67]; omega) (by omega)) (va_cwS 2 hT (good_S tb_1163 tb_1161 tb_1162 tb_116) rfl rfl rfl (by decide +kernel) ⟨Nat.le_of_ble_eq_true rfl, Nat.le_of_ble_eq_true rfl⟩) (PB2.preS hK hE hS hA hw) rfl rfl hl.1 rfl (lv_room (Nat.le_of_ble_eq_true rfl)) dX3_grow_33 ⟨(show (0 + 1) + 1 ≤ 65536 from by omega), (show (0 + (2 * gn)) + (2 * gn) ≤ 917504 from by omega)⟩) (fun u qa89 H locs hq76 hw hS => ?_)
    obtain ⟨K, ln, Ls, hp77⟩ := u
    obtain ⟨ex79, hW, ok78, fx80, kd90, ln91, nw92⟩ := hq76
    have ex79 : EXx _ _ K ln := ex79
    have hW : SW K ln Ls := hW
    have ok78 : Ok K hp77 := ok78
    have fx80 : FrX _ _ _ hp77 := fx80
    have kd90 : K qa89 = 29 := kd90
    have ln91 : ln qa89 = 2 * gn := ln91
    have nw92 : ∀ a, K a ≠ 0 → a = qa89 ∨ K a = _ := nw92
    have hw : PW G cy K ln Ls A hp77 H := hw
    have gfx : FrX wsC K0 hp0 hp77 := FrX.tr gf83 gex fx80 (by decide +kernel)
    have gex := EXx.tr gex ex79
    have kd93 := EXx.kd ex79 kd49 (by decide)
    have kd94 := EXx.kd ex79 kd52 (by decide)
    have kd95 := EXx.kd ex79 kd54 (by decide)
    have kd96 := EXx.kd ex79 kd53 (by decide)
    have kd97 := EXx.kd ex79 kd56 (by decide)
    have kd98 := EXx.kd ex79 kd57 (by decide)
    have kd99 := EXx.kd ex79 kd55 (by decide)
    have eq100 : hp77 qa900 0 = .ref qa48 := Eq.trans (FrX.at (cq := 4000) fx80 kd57 (by decide) (cd_o (by decide)) (by decide)) (hp_self eh73)
    have eq101 : hp77 qa900 1 = .ref qa17 := Eq.trans (FrX.at (cq := 4001) fx80 kd57 (by decide) (cd_o (by decide)) (by decide)) eq75
    have eq102 : hp77 qa900 2 = .ref qa21 := Eq.trans (FrX.at (cq := 4002) fx80 kd57 (by decide) (cd_o (by decide)) (by decide)) eq84
    have eq103 : hp77 qa900 3 = .ref qa25 := Eq.trans (FrX.at (cq := 4003) fx80 kd57 (by decide) (cd_o (by decide)) (by decide)) eq85
    have eq104 : hp77 qa900 4 = .ref qa29 := Eq.trans (FrX.at (cq := 4004) fx80 kd57 (by decide) (cd_o (by decide)) (by decide)) eq86
    have eq105 : hp77 qa900 5 = .ref qa33 := Eq.trans (FrX.at (cq := 4005) fx80 kd57 (by decide) (cd_o (by decide)) (by decide)) eq87
    have eq106 : hp77 qa900 6 = .int zi37 := Eq.trans (FrX.at (cq := 4006) fx80 kd57 (by decide) (cd_o (by decide)) (by decide)) eq88
    have ln107 := EXx.le ex79 kd58 (by decide) ln66
    have ln108 := EXx.le ex79 kd53 (by decide) ln67
    have ln109 := EXx.le ex79 kd52 (by decide) ln68
    have ln110 := EXx.le ex79 kd54 (by decide) ln69
    have ln111 := EXx.le ex79 kd56 (by decide) ln70
    have ln112 := EXx.le ex79 kd55 (by decide) ln71
    have ln113 := EXx.le ex79 kd49 (by decide) ln50
    (try clear kd52); (try clear kd53); (try clear kd54); (try clear kd55); (try clear kd56); (try clear kd57); (try clear kd58); (try clear kd49); (try clear ln66); (try clear ln67); (try clear ln68); (try clear ln69); (try clear ln70); (try clear ln71); (try clear ln50); (try clear eq75); (try clear eq84); (try clear eq85); (try clear eq86); (try clear eq87); (try clear eq88)
    have uq := uq_ext uq nw92 kd90 (by decide)
    refine p_put (ci := 3) (v := .ref qa89) (ty := .array .int) (C := RX3) (T := TX3) (N := 7) hx hb hT iw_X3 tyX3 tyX3_ok nmX3 hown hK hw hS hW kd98 (by decide) rfl rfl 1 (by decide) (hT _ tb_495) (fun _ h9 => h9) rfl (by decide +kernel) rfl rfl dX3_grow_36 (fun hp114 eh115 H locs hw hS => ?_)
    have ok116 := wr_4001 kd90 ok78 kd98 eh115
    refine lv_aload_n hx hb dX3_grow_39 rfl (lv_at hl 1 rfl) ?_
    refine lv_aload_n hx hb dX3_grow_40 rfl (lv_at hl 1 rfl) ?_
    have eq117 : hp114 qa900 2 = .ref qa21 := Eq.trans (up_at eh115 (Or.inr (by decide))) eq102
    refine p_get (ci := 3) (v := .ref qa21) (C := RX3) (T := TX3) (N := 7) hx hb hT iw_X3 hown hK hw hW kd98 (by decide) rfl rfl 2 (by decide) eq117 (hT _ tb_497) (fun _ h9 => h9) dX3_grow_41 ?_
    refine lv_iload_n hx hb dX3_grow_44 rfl (lv_at hl 0 rfl) ?_
    have gf125 : FrX wsC K0 hp0 hp114 := (FrX.tr gfx gex (FrX.of (show Fr [4001] K hp77 hp114 from (Fr.put (cq := 4001) (Fr.rf) eh115 kd98 (cd_o (by decide)) (by decide)))) (by decide +kernel))
    have eq126 : hp114 qa900 0 = .ref qa48 := Eq.trans (up_at eh115 (Or.inr (by decide))) eq100
    have eq127 : hp114 qa900 3 = .ref qa25 := Eq.trans (up_at eh115 (Or.inr (by decide))) eq103
    have eq128 : hp114 qa900 4 = .ref qa29 := Eq.trans (up_at eh115 (Or.inr (by decide))) eq104
    have eq129 : hp114 qa900 5 = .ref qa33 := Eq.trans (up_at eh115 (Or.inr (by decide))) eq105
    have eq130 : hp114 qa900 6 = .int zi37 := Eq.trans (up_at eh115 (Or.inr (by decide))) eq106
    refine kg_r hw hS hA (va_runS (As := [.ref qa21, .int zi9]) (rest := [.ref qa900]) ⟨hx, hb, hml, hown, hT⟩ (cJ7_copyOf_59c91_2 l G cy ev K ln Ls hW _ hp114 ok116 qa21 zi9 (2 * gn) kd94 (b_wid2 bd15 (by decide) (by decide)) (by omega) (by rw [ln109]; omega) (by omega)) (va_cwS 2 hT (good_S tb_1163 tb_1161 tb_1162 tb_116) rfl rfl rfl (by decide +kernel) ⟨Nat.le_of_ble_eq_true rfl, Nat.le_of_ble_eq_true rfl⟩) (PB2.preS hK hE hS hA hw) rfl rfl hl.1 rfl (lv_room (Nat.le_of_ble_eq_true rfl)) dX3_grow_45 ⟨(show ((0 + 1) + 1) + 1 ≤ 65536 from by omega), (show ((0 + (2 * gn)) + (2 * gn)) + (2 * gn) ≤ 917504 from by omega)⟩) (fun u qa131 H locs hq118 hw hS => ?_)
    obtain ⟨K, ln, Ls, hp119⟩ := u
    obtain ⟨ex121, hW, ok120, fx122, kd132, ln133, nw134⟩ := hq118
    have ex121 : EXx _ _ K ln := ex121
    have hW : SW K ln Ls := hW
    have ok120 : Ok K hp119 := ok120
    have fx122 : FrX _ _ _ hp119 := fx122
    have kd132 : K qa131 = 30 := kd132
    have ln133 : ln qa131 = 2 * gn := ln133
    have nw134 : ∀ a, K a ≠ 0 → a = qa131 ∨ K a = _ := nw134
    have hw : PW G cy K ln Ls A hp119 H := hw
    have gfx : FrX wsC K0 hp0 hp119 := FrX.tr gf125 gex fx122 (by decide +kernel)
    have gex := EXx.tr gex ex121
    have kd135 := EXx.kd ex121 kd93 (by decide)
    have kd136 := EXx.kd ex121 kd90 (by decide)
    have kd137 := EXx.kd ex121 kd94 (by decide)
    have kd138 := EXx.kd ex121 kd95 (by decide)
    have kd139 := EXx.kd ex121 kd97 (by decide)
    have kd140 := EXx.kd ex121 kd98 (by decide)
    have kd141 := EXx.kd ex121 kd99 (by decide)
    have eq142 : hp119 qa900 0 = .ref qa48 := Eq.trans (FrX.at (cq := 4000) fx122 kd98 (by decide) (cd_o (by decide)) (by decide)) eq126
    have eq143 : hp119 qa900 1 = .ref qa89 := Eq.trans (FrX.at (cq := 4001) fx122 kd98 (by decide) (cd_o (by decide)) (by decide)) (hp_self eh115)
    have eq144 : hp119 qa900 2 = .ref qa21 := Eq.trans (FrX.at (cq := 4002) fx122 kd98 (by decide) (cd_o (by decide)) (by decide)) eq117
    have eq145 : hp119 qa900 3 = .ref qa25 := Eq.trans (FrX.at (cq := 4003) fx122 kd98 (by decide) (cd_o (by decide)) (by decide)) eq127
    have eq146 : hp119 qa900 4 = .ref qa29 := Eq.trans (FrX.at (cq := 4004) fx122 kd98 (by decide) (cd_o (by decide)) (by decide)) eq128
    have eq147 : hp119 qa900 5 = .ref qa33 := Eq.trans (FrX.at (cq := 4005) fx122 kd98 (by decide) (cd_o (by decide)) (by decide)) eq129
    have eq148 : hp119 qa900 6 = .int zi37 := Eq.trans (FrX.at (cq := 4006) fx122 kd98 (by decide) (cd_o (by decide)) (by decide)) eq130
    have ln149 := EXx.le ex121 kd96 (by decide) ln108
    have ln150 := EXx.le ex121 kd94 (by decide) ln109
    have ln151 := EXx.le ex121 kd95 (by decide) ln110
    have ln152 := EXx.le ex121 kd97 (by decide) ln111
    have ln153 := EXx.le ex121 kd99 (by decide) ln112
    have ln154 := EXx.le ex121 kd93 (by decide) ln113
    have ln155 := EXx.le ex121 kd90 (by decide) ln91
    (try clear kd93); (try clear kd94); (try clear kd95); (try clear kd96); (try clear kd97); (try clear kd98); (try clear kd99); (try clear kd90); (try clear ln107); (try clear ln108); (try clear ln109); (try clear ln110); (try clear ln111); (try clear ln112); (try clear ln113); (try clear ln91); (try clear eq126); (try clear eq117); (try clear eq127); (try clear eq128); (try clear eq129); (try clear eq130)
    have uq := uq_ext uq nw134 kd132 (by decide)
    refine p_put (ci := 3) (v := .ref qa131) (ty := .array .int) (C := RX3) (T := TX3) (N := 7) hx hb hT iw_X3 tyX3 tyX3_ok nmX3 hown hK hw hS hW kd140 (by decide) rfl rfl 2 (by decide) (hT _ tb_497) (fun _ h9 => h9) rfl (by decide +kernel) rfl rfl dX3_grow_48 (fun hp156 eh157 H locs hw hS => ?_)
    have ok158 := wr_4002 kd132 ok120 kd140 eh157
    refine lv_aload_n hx hb dX3_grow_51 rfl (lv_at hl 1 rfl) ?_
    refine lv_aload_n hx hb dX3_grow_52 rfl (lv_at hl 1 rfl) ?_
    have eq159 : hp156 qa900 3 = .ref qa25 := Eq.trans (up_at eh157 (Or.inr (by decide))) eq145
    refine p_get (ci := 3) (v := .ref qa25) (C := RX3) (T := TX3) (N := 7) hx hb hT iw_X3 hown hK hw hW kd140 (by decide) rfl rfl 3 (by decide) eq159 (hT _ tb_498) (fun _ h9 => h9) dX3_grow_53 ?_
    refine lv_iload_n hx hb dX3_grow_56 rfl (lv_at hl 0 rfl) ?_
    have gf167 : FrX wsC K0 hp0 hp156 := (FrX.tr gfx gex (FrX.of (show Fr [4002] K hp119 hp156 from (Fr.put (cq := 4002) (Fr.rf) eh157 kd140 (cd_o (by decide)) (by decide)))) (by decide +kernel))
    have eq168 : hp156 qa900 0 = .ref qa48 := Eq.trans (up_at eh157 (Or.inr (by decide))) eq142
    have eq169 : hp156 qa900 1 = .ref qa89 := Eq.trans (up_at eh157 (Or.inr (by decide))) eq143
    have eq170 : hp156 qa900 4 = .ref qa29 := Eq.trans (up_at eh157 (Or.inr (by decide))) eq146
    have eq171 : hp156 qa900 5 = .ref qa33 := Eq.trans (up_at eh157 (Or.inr (by decide))) eq147
    have eq172 : hp156 qa900 6 = .int zi37 := Eq.trans (up_at eh157 (Or.inr (by decide))) eq148
    refine kg_r hw hS hA (va_runS (As := [.ref qa25, .int zi9]) (rest := [.ref qa900]) ⟨hx, hb, hml, hown, hT⟩ (cJ7_copyOf_59c91_3 l G cy ev K ln Ls hW _ hp156 ok158 qa25 zi9 (2 * gn) kd138 (b_wid2 bd15 (by decide) (by decide)) (by omega) (by rw [ln151]; omega) (by omega)) (va_cwS 2 hT (good_S tb_1163 tb_1161 tb_1162 tb_116) rfl rfl rfl (by decide +kernel) ⟨Nat.le_of_ble_eq_true rfl, Nat.le_of_ble_eq_true rfl⟩) (PB2.preS hK hE hS hA hw) rfl rfl hl.1 rfl (lv_room (Nat.le_of_ble_eq_true rfl)) dX3_grow_57 ⟨(show (((0 + 1) + 1) + 1) + 1 ≤ 65536 from by omega), (show (((0 + (2 * gn)) + (2 * gn)) + (2 * gn)) + (2 * gn) ≤ 917504 from by omega)⟩) (fun u qa173 H locs hq160 hw hS => ?_)
    obtain ⟨K, ln, Ls, hp161⟩ := u
    obtain ⟨ex163, hW, ok162, fx164, kd174, ln175, nw176⟩ := hq160
    have ex163 : EXx _ _ K ln := ex163
    have hW : SW K ln Ls := hW
    have ok162 : Ok K hp161 := ok162
    have fx164 : FrX _ _ _ hp161 := fx164
    have kd174 : K qa173 = 31 := kd174
    have ln175 : ln qa173 = 2 * gn := ln175
    have nw176 : ∀ a, K a ≠ 0 → a = qa173 ∨ K a = _ := nw176
    have hw : PW G cy K ln Ls A hp161 H := hw
    have gfx : FrX wsC K0 hp0 hp161 := FrX.tr gf167 gex fx164 (by decide +kernel)
    have gex := EXx.tr gex ex163
    have kd177 := EXx.kd ex163 kd135 (by decide)
    have kd178 := EXx.kd ex163 kd136 (by decide)
    have kd179 := EXx.kd ex163 kd132 (by decide)
    have kd180 := EXx.kd ex163 kd138 (by decide)
    have kd181 := EXx.kd ex163 kd139 (by decide)
    have kd182 := EXx.kd ex163 kd140 (by decide)
    have kd183 := EXx.kd ex163 kd141 (by decide)
    have eq184 : hp161 qa900 0 = .ref qa48 := Eq.trans (FrX.at (cq := 4000) fx164 kd140 (by decide) (cd_o (by decide)) (by decide)) eq168
    have eq185 : hp161 qa900 1 = .ref qa89 := Eq.trans (FrX.at (cq := 4001) fx164 kd140 (by decide) (cd_o (by decide)) (by decide)) eq169
    have eq186 : hp161 qa900 2 = .ref qa131 := Eq.trans (FrX.at (cq := 4002) fx164 kd140 (by decide) (cd_o (by decide)) (by decide)) (hp_self eh157)
    have eq187 : hp161 qa900 3 = .ref qa25 := Eq.trans (FrX.at (cq := 4003) fx164 kd140 (by decide) (cd_o (by decide)) (by decide)) eq159
    have eq188 : hp161 qa900 4 = .ref qa29 := Eq.trans (FrX.at (cq := 4004) fx164 kd140 (by decide) (cd_o (by decide)) (by decide)) eq170
    have eq189 : hp161 qa900 5 = .ref qa33 := Eq.trans (FrX.at (cq := 4005) fx164 kd140 (by decide) (cd_o (by decide)) (by decide)) eq171
    have eq190 : hp161 qa900 6 = .int zi37 := Eq.trans (FrX.at (cq := 4006) fx164 kd140 (by decide) (cd_o (by decide)) (by decide)) eq172
    have ln191 := EXx.le ex163 kd137 (by decide) ln150
    have ln192 := EXx.le ex163 kd138 (by decide) ln151
    have ln193 := EXx.le ex163 kd139 (by decide) ln152
    have ln194 := EXx.le ex163 kd141 (by decide) ln153
    have ln195 := EXx.le ex163 kd135 (by decide) ln154
    have ln196 := EXx.le ex163 kd136 (by decide) ln155
    have ln197 := EXx.le ex163 kd132 (by decide) ln133
    (try clear kd135); (try clear kd136); (try clear kd137); (try clear kd138); (try clear kd139); (try clear kd140); (try clear kd141); (try clear kd132); (try clear ln149); (try clear ln150); (try clear ln151); (try clear ln152); (try clear ln153); (try clear ln154); (try clear ln155); (try clear ln133); (try clear eq168); (try clear eq169); (try clear eq159); (try clear eq170); (try clear eq171); (try clear eq172)
    have uq := uq_ext uq nw176 kd174 (by decide)
    refine p_put (ci := 3) (v := .ref qa173) (ty := .array .int) (C := RX3) (T := TX3) (N := 7) hx hb hT iw_X3 tyX3 tyX3_ok nmX3 hown hK hw hS hW kd182 (by decide) rfl rfl 3 (by decide) (hT _ tb_498) (fun _ h9 => h9) rfl (by decide +kernel) rfl rfl dX3_grow_60 (fun hp198 eh199 H locs hw hS => ?_)
    have ok200 := wr_4003 kd174 ok162 kd182 eh199
    refine lv_aload_n hx hb dX3_grow_63 rfl (lv_at hl 1 rfl) ?_
    refine lv_aload_n hx hb dX3_grow_64 rfl (lv_at hl 1 rfl) ?_
    have eq201 : hp198 qa900 4 = .ref qa29 := Eq.trans (up_at eh199 (Or.inr (by decide))) eq188
    refine p_get (ci := 3) (v := .ref qa29) (C := RX3) (T := TX3) (N := 7) hx hb hT iw_X3 hown hK hw hW kd182 (by decide) rfl rfl 4 (by decide) eq201 (hT _ tb_500) (fun _ h9 => h9) dX3_grow_65 ?_
    refine lv_iload_n hx hb dX3_grow_68 rfl (lv_at hl 0 rfl) ?_
    have gf209 : FrX wsC K0 hp0 hp198 := (FrX.tr gfx gex (FrX.of (show Fr [4003] K hp161 hp198 from (Fr.put (cq := 4003) (Fr.rf) eh199 kd182 (cd_o (by decide)) (by decide)))) (by decide +kernel))
    have eq210 : hp198 qa900 0 = .ref qa48 := Eq.trans (up_at eh199 (Or.inr (by decide))) eq184
    have eq211 : hp198 qa900 1 = .ref qa89 := Eq.trans (up_at eh199 (Or.inr (by decide))) eq185
    have eq212 : hp198 qa900 2 = .ref qa131 := Eq.trans (up_at eh199 (Or.inr (by decide))) eq186
    have eq213 : hp198 qa900 5 = .ref qa33 := Eq.trans (up_at eh199 (Or.inr (by decide))) eq189
    have eq214 : hp198 qa900 6 = .int zi37 := Eq.trans (up_at eh199 (Or.inr (by decide))) eq190
    refine kg_r hw hS hA (va_runS (As := [.ref qa29, .int zi9]) (rest := [.ref qa900]) ⟨hx, hb, hml, hown, hT⟩ (cJ7_copyOf_c38d5_0 l G cy ev K ln Ls hW _ hp198 ok200 qa29 zi9 (2 * gn) kd181 (b_wid2 bd15 (by decide) (by decide)) (by omega) (by rw [ln193]; omega) (by omega)) (va_cwS 2 hT (good_S tb_1175 tb_1173 tb_1174 tb_116) rfl rfl rfl (by decide +kernel) ⟨Nat.le_of_ble_eq_true rfl, Nat.le_of_ble_eq_true rfl⟩) (PB2.preS hK hE hS hA hw) rfl rfl hl.1 rfl (lv_room (Nat.le_of_ble_eq_true rfl)) dX3_grow_69 ⟨(show ((((0 + 1) + 1) + 1) + 1) + 1 ≤ 65536 from by omega), (show ((((0 + (2 * gn)) + (2 * gn)) + (2 * gn)) + (2 * gn)) + (2 * gn) ≤ 917504 from by omega)⟩) (fun u qa215 H locs hq202 hw hS => ?_)
    obtain ⟨K, ln, Ls, hp203⟩ := u
    obtain ⟨ex205, hW, ok204, fx206, kd216, ln217, nw218⟩ := hq202
    have ex205 : EXx _ _ K ln := ex205
    have hW : SW K ln Ls := hW
    have ok204 : Ok K hp203 := ok204
    have fx206 : FrX _ _ _ hp203 := fx206
    have kd216 : K qa215 = 32 := kd216
    have ln217 : ln qa215 = 2 * gn := ln217
    have nw218 : ∀ a, K a ≠ 0 → a = qa215 ∨ K a = _ := nw218
    have hw : PW G cy K ln Ls A hp203 H := hw
    have gfx : FrX wsC K0 hp0 hp203 := FrX.tr gf209 gex fx206 (by decide +kernel)
    have gex := EXx.tr gex ex205
    have kd219 := EXx.kd ex205 kd174 (by decide)
    have kd220 := EXx.kd ex205 kd177 (by decide)
    have kd221 := EXx.kd ex205 kd178 (by decide)
    have kd222 := EXx.kd ex205 kd179 (by decide)
    have kd223 := EXx.kd ex205 kd181 (by decide)
    have kd224 := EXx.kd ex205 kd182 (by decide)
    have kd225 := EXx.kd ex205 kd183 (by decide)
    have eq226 : hp203 qa900 0 = .ref qa48 := Eq.trans (FrX.at (cq := 4000) fx206 kd182 (by decide) (cd_o (by decide)) (by decide)) eq210
    have eq227 : hp203 qa900 1 = .ref qa89 := Eq.trans (FrX.at (cq := 4001) fx206 kd182 (by decide) (cd_o (by decide)) (by decide)) eq211
    have eq228 : hp203 qa900 2 = .ref qa131 := Eq.trans (FrX.at (cq := 4002) fx206 kd182 (by decide) (cd_o (by decide)) (by decide)) eq212
    have eq229 : hp203 qa900 3 = .ref qa173 := Eq.trans (FrX.at (cq := 4003) fx206 kd182 (by decide) (cd_o (by decide)) (by decide)) (hp_self eh199)
    have eq230 : hp203 qa900 4 = .ref qa29 := Eq.trans (FrX.at (cq := 4004) fx206 kd182 (by decide) (cd_o (by decide)) (by decide)) eq201
    have eq231 : hp203 qa900 5 = .ref qa33 := Eq.trans (FrX.at (cq := 4005) fx206 kd182 (by decide) (cd_o (by decide)) (by decide)) eq213
    have eq232 : hp203 qa900 6 = .int zi37 := Eq.trans (FrX.at (cq := 4006) fx206 kd182 (by decide) (cd_o (by decide)) (by decide)) eq214
    have ln233 := EXx.le ex205 kd180 (by decide) ln192
    have ln234 := EXx.le ex205 kd181 (by decide) ln193
    have ln235 := EXx.le ex205 kd183 (by decide) ln194
    have ln236 := EXx.le ex205 kd177 (by decide) ln195
    have ln237 := EXx.le ex205 kd178 (by decide) ln196
    have ln238 := EXx.le ex205 kd179 (by decide) ln197
    have ln239 := EXx.le ex205 kd174 (by decide) ln175
    (try clear kd177); (try clear kd178); (try clear kd179); (try clear kd180); (try clear kd181); (try clear kd182); (try clear kd183); (try clear kd174); (try clear ln191); (try clear ln192); (try clear ln193); (try clear ln194); (try clear ln195); (try clear ln196); (try clear ln197); (try clear ln175); (try clear eq210); (try clear eq211); (try clear eq212); (try clear eq201); (try clear eq213); (try clear eq214)
    have uq := uq_ext uq nw218 kd216 (by decide)
    refine p_put (ci := 3) (v := .ref qa215) (ty := .array .long) (C := RX3) (T := TX3) (N := 7) hx hb hT iw_X3 tyX3 tyX3_ok nmX3 hown hK hw hS hW kd224 (by decide) rfl rfl 4 (by decide) (hT _ tb_500) (fun _ h9 => h9) rfl (by decide +kernel) rfl rfl dX3_grow_72 (fun hp240 eh241 H locs hw hS => ?_)
    have ok242 := wr_4004 kd216 ok204 kd224 eh241
    refine lv_aload_n hx hb dX3_grow_75 rfl (lv_at hl 1 rfl) ?_
    refine lv_iconst (v := 2) hx hb dX3_grow_76 (by decide) ?_
    refine lv_iload_n hx hb dX3_grow_77 rfl (lv_at hl 0 rfl) ?_
    refine lv_imul hx hb dX3_grow_78 (lv_topi (fun zi243 ea244 => ?_))
    have bd245 : (1024 : Int) ≤ zi243.toInt ∧ zi243.toInt ≤ 262144 := b_imul ea244 bc_2 bd15 (by decide) (by decide) (by decide) (by decide) (by decide)
    have qe246 : zi243.toInt = (2 : Int32).toInt * (zi9 : Int32).toInt := e_imul (b := 2) (d := 131072) ea244 (b_wid2 bc_2 (by decide) (by decide)) (b_wid2 bd15 (by decide) (by decide)) (by decide)
    have qe247 : zi243.toInt = 2 * zi9.toInt := by have ha : (2 : Int32).toInt = 2 := (by decide); rw [ha] at qe246; exact qe246
    have gf258 : FrX wsC K0 hp0 hp240 := (FrX.tr gfx gex (FrX.of (show Fr [4004] K hp203 hp240 from (Fr.put (cq := 4004) (Fr.rf) eh241 kd224 (cd_o (by decide)) (by decide)))) (by decide +kernel))
    have gexo := gex
    have eq259 : hp240 qa900 0 = .ref qa48 := Eq.trans (up_at eh241 (Or.inr (by decide))) eq226
    have eq260 : hp240 qa900 1 = .ref qa89 := Eq.trans (up_at eh241 (Or.inr (by decide))) eq227
    have eq261 : hp240 qa900 2 = .ref qa131 := Eq.trans (up_at eh241 (Or.inr (by decide))) eq228
    have eq262 : hp240 qa900 3 = .ref qa173 := Eq.trans (up_at eh241 (Or.inr (by decide))) eq229
    have eq263 : hp240 qa900 5 = .ref qa33 := Eq.trans (up_at eh241 (Or.inr (by decide))) eq231
    have eq264 : hp240 qa900 6 = .int zi37 := Eq.trans (up_at eh241 (Or.inr (by decide))) eq232
    refine p_newI hx hb (hT _ tb_182) hK hw hS hA hW ok242 33 (by decide) rfl rfl (by decide) (by decide) (by rw [show tabI.lookup (33 * 1000) = some (0, 131072) from by decide]; exact ⟨by decide, by decide⟩) (Int32.not_lt.mpr (by rw [fa_le]; have := toi bc_0; omega)) (show (zi243 : Int32).toNatClampNeg = 2 * (2 * gn) from by have := clampN (x := zi243) (by omega); omega) (by omega) (show (((((0 + 1) + 1) + 1) + 1) + 1) + 1 ≤ 65536 from by omega) (show (((((0 + (2 * gn)) + (2 * gn)) + (2 * gn)) + (2 * gn)) + (2 * gn)) + (2 * (2 * gn)) ≤ 917504 from by omega) dX3_grow_79 (fun qa248 K ln Ls hp249 H hq250 hz251 hw hS => ?_)
    obtain ⟨ex253, hW, ok252, fx254, kd255, ln256, nw257⟩ := hq250
    have gfx : FrX wsC K0 hp0 hp249 := FrX.tr gf258 gex fx254 (by decide +kernel)
    have gex := EXx.tr gex ex253
    have kd265 := EXx.kd ex253 kd219 (by decide)
    have kd266 := EXx.kd ex253 kd220 (by decide)
    have kd267 := EXx.kd ex253 kd221 (by decide)
    have kd268 := EXx.kd ex253 kd222 (by decide)
    have kd269 := EXx.kd ex253 kd223 (by decide)
    have kd270 := EXx.kd ex253 kd224 (by decide)
    have kd271 := EXx.kd ex253 kd225 (by decide)
    have kd272 := EXx.kd ex253 kd216 (by decide)
    have eq273 : hp249 qa900 0 = .ref qa48 := Eq.trans (FrX.at (cq := 4000) fx254 kd224 (by decide) (cd_o (by decide)) (by decide)) eq259
    have eq274 : hp249 qa900 1 = .ref qa89 := Eq.trans (FrX.at (cq := 4001) fx254 kd224 (by decide) (cd_o (by decide)) (by decide)) eq260
    have eq275 : hp249 qa900 2 = .ref qa131 := Eq.trans (FrX.at (cq := 4002) fx254 kd224 (by decide) (cd_o (by decide)) (by decide)) eq261
    have eq276 : hp249 qa900 3 = .ref qa173 := Eq.trans (FrX.at (cq := 4003) fx254 kd224 (by decide) (cd_o (by decide)) (by decide)) eq262
    have eq277 : hp249 qa900 4 = .ref qa215 := Eq.trans (FrX.at (cq := 4004) fx254 kd224 (by decide) (cd_o (by decide)) (by decide)) (hp_self eh241)
    have eq278 : hp249 qa900 5 = .ref qa33 := Eq.trans (FrX.at (cq := 4005) fx254 kd224 (by decide) (cd_o (by decide)) (by decide)) eq263
    have eq279 : hp249 qa900 6 = .int zi37 := Eq.trans (FrX.at (cq := 4006) fx254 kd224 (by decide) (cd_o (by decide)) (by decide)) eq264
    have ln280 := EXx.le ex253 kd223 (by decide) ln234
    have ln281 := EXx.le ex253 kd225 (by decide) ln235
    have ln282 := EXx.le ex253 kd220 (by decide) ln236
    have ln283 := EXx.le ex253 kd221 (by decide) ln237
    have ln284 := EXx.le ex253 kd222 (by decide) ln238
    have ln285 := EXx.le ex253 kd219 (by decide) ln239
    have ln286 := EXx.le ex253 kd216 (by decide) ln217
    (try clear kd219); (try clear kd220); (try clear kd221); (try clear kd222); (try clear kd223); (try clear kd224); (try clear kd225); (try clear kd216); (try clear ln233); (try clear ln234); (try clear ln235); (try clear ln236); (try clear ln237); (try clear ln238); (try clear ln239); (try clear ln217); (try clear eq259); (try clear eq260); (try clear eq261); (try clear eq262); (try clear eq263); (try clear eq264)
    have uq := uq_ext uq nw257 kd255 (by decide)
    refine p_put (ci := 3) (v := .ref qa248) (ty := .array .int) (C := RX3) (T := TX3) (N := 7) hx hb hT iw_X3 tyX3 tyX3_ok nmX3 hown hK hw hS hW kd270 (by decide) rfl rfl 5 (by decide) (hT _ tb_502) (fun _ h9 => h9) rfl (by decide +kernel) rfl rfl dX3_grow_81 (fun hp287 eh288 H locs hw hS => ?_)
    have ok289 := wr_4005 kd255 ok252 kd270 eh288
    have eq290 : hp287 qa900 0 = .ref qa48 := Eq.trans (up_at eh288 (Or.inr (by decide))) eq273
    have eq291 : hp287 qa900 1 = .ref qa89 := Eq.trans (up_at eh288 (Or.inr (by decide))) eq274
    have eq292 : hp287 qa900 2 = .ref qa131 := Eq.trans (up_at eh288 (Or.inr (by decide))) eq275
    have eq293 : hp287 qa900 3 = .ref qa173 := Eq.trans (up_at eh288 (Or.inr (by decide))) eq276
    have eq294 : hp287 qa900 4 = .ref qa215 := Eq.trans (up_at eh288 (Or.inr (by decide))) eq277
    have eq295 : hp287 qa900 6 = .int zi37 := Eq.trans (up_at eh288 (Or.inr (by decide))) eq279
    have ns296 := NSx_grown (n := gn) uq (by omega) kd270 eq290 ln282 eq291 ln283 eq292 ln284 eq293 ln285 eq294 ln286 (hp_self eh288) ln256 (fun j => by rw [eh288, up2_row (kd_ne kd255 kd270 (by decide))]; exact hz251 j) (by rw [gi_of eq295]; omega)
    obtain ⟨gn, hgm⟩ : ∃ x : Nat, x = 2 * gn := ⟨_, rfl⟩
    rw [← hgm] at ns296
    have hgn := NSx.bd ns296
    have ln297 := (ns296).ref kd270 (by decide) eq290
    have ln298 := (ns296).ref kd270 (by decide) eq291
    have ln299 := (ns296).ref kd270 (by decide) eq292
    have ln300 := (ns296).ref kd270 (by decide) eq293
    have ln301 := (ns296).ref kd270 (by decide) eq294
    have ln302 := (ns296).tab kd270 (hp_self eh288)
    refine W.widen (k := gn - g0) (n := 14 * (gn - g0)) (by omega) (by omega) ?_
    have hga : g0 ≤ gn := by omega
    refine lv_iconst (v := 0) hx hb dX3_grow_84 (by decide) ?_
    refine lv_istore_n (lv' := [(2, .int 0), (1, .int zi9), (0, .ref qa900)]) hx hb dX3_grow_85 rfl hl (by decide) rfl (fun ls hl => ?_)
    have lp914 : ∀ (n912 : Nat) (hp821 : Nat → Nat → Value) (zi820 : Int32) (H : Heap) (locs : List Loc) (ls : Array Slot), 131072 - zi820.toInt < (n912 : Int) → Ok K hp821 → Fr [33000] K hp287 hp821 → ((0 : Int) ≤ zi820.toInt ∧ zi820.toInt ≤ 131072) → (NSx K ln hp821 gn) → lv_has ls 3 [(0, .ref qa900), (2, .int zi820)] → PW G cy K ln Ls A hp821 H → va_S A s.heap H locs → W p l e ({ frames := 2, cells := 65536, slots := 917504, locals := 62 } : Room) s m ([.ref qa900] : List Value).toArray below meth c H locs (gn - g0) (14 * (gn - g0)) Q (F0 m 86 ls []) := by
      intro n912
      induction n912 with
      | zero =>
        intro hp821 zi820 H locs ls hm915 ok823 F822 bd825 jx824 hl hw hS
        exact absurd hm915 (by have := bd825; omega)
      | succ n912 ih913 =>
        intro hp821 zi820 H locs ls hm915 ok823 F822 bd825 jx824 hl hw hS
        refine lv_iload_n hx hb dX3_grow_86 rfl (lv_at hl 1 rfl) ?_
        refine lv_aload_n hx hb dX3_grow_87 rfl (lv_at hl 0 rfl) ?_
        have eq916 : hp821 qa900 6 = .int zi37 := Eq.trans (Fr.at (cq := 4006) F822 kd270 (cd_o (by decide)) (by decide)) eq295
        refine p_get (ci := 3) (v := .int zi37) (C := RX3) (T := TX3) (N := 7) hx hb hT iw_X3 hown hK hw hW kd270 (by decide) rfl rfl 6 (by decide) eq916 (hT _ tb_503) (fun _ h9 => h9) dX3_grow_88 ?_
        refine lv_icmp_ge (tgt := 133) hx hb dX3_grow_91 (by decide) (fun cn917 => ?_) (fun cn917 => ?_)
        · skip
          have tf918 : zi37.toInt ≤ zi820.toInt := (fa_le _ _).mp cn917
          rw [hQ]
          exact kgz_v (n := g0) hx hb hr hlocks hS (((K, ln, Ls, hp821), gn) : GU × Nat) hw ⟨⟨gex, hW, ok823, (FrX.tr gfx gex (FrX.of (show Fr [4005, 33000] K hp249 hp821 from (Fr.tr (Fr.put (cq := 4005) (Fr.rf) eh288 kd270 (cd_o (by decide)) (by decide)) F822 (by decide)))) (by decide +kernel)), jx824, (by omega)⟩, by show _; omega⟩ (show (gn - g0) ≤ gn - g0 from by omega) (show (14 * (gn - g0)) ≤ 14 * (gn - g0) from by omega) (show (gn - g0) ≤ 65536 from by omega) (show (14 * (gn - g0)) ≤ 917504 from by omega) dX3_grow_133
        · skip
          have tf919 : zi820.toInt < zi37.toInt := (fa_lt _ _).mp (Int32.not_le.mp cn917)
          have bd920 : (0 : Int) ≤ zi820.toInt ∧ zi820.toInt ≤ 131071 := r_lt_x (Int32.not_le.mp cn917) bd825 bd38 (by decide) (by decide)
          have bd921 : (1 : Int) ≤ zi37.toInt ∧ zi37.toInt ≤ 131072 := r_lt_y (Int32.not_le.mp cn917) bd825 bd38 (by decide) (by decide)
          refine lv_aload_n hx hb dX3_grow_94 rfl (lv_at hl 0 rfl) ?_
          have eq922 : hp821 qa900 5 = .ref qa248 := Eq.trans (Fr.at (cq := 4005) F822 kd270 (cd_o (by decide)) (by decide)) (hp_self eh288)
          refine p_get (ci := 3) (v := .ref qa248) (C := RX3) (T := TX3) (N := 7) hx hb hT iw_X3 hown hK hw hW kd270 (by decide) rfl rfl 5 (by decide) eq922 (hT _ tb_502) (fun _ h9 => h9) dX3_grow_95 ?_
          refine lv_aload_n hx hb dX3_grow_98 rfl (lv_at hl 0 rfl) ?_
          refine lv_aload_n hx hb dX3_grow_99 rfl (lv_at hl 0 rfl) ?_
          have eq923 : hp821 qa900 0 = .ref qa48 := Eq.trans (Fr.at (cq := 4000) F822 kd270 (cd_o (by decide)) (by decide)) eq290
          refine p_get (ci := 3) (v := .ref qa48) (C := RX3) (T := TX3) (N := 7) hx hb hT iw_X3 hown hK hw hW kd270 (by decide) rfl rfl 0 (by decide) eq923 (hT _ tb_492) (fun _ h9 => h9) dX3_grow_100 ?_
          refine lv_iload_n hx hb dX3_grow_103 rfl (lv_at hl 1 rfl) ?_
          obtain ⟨zi925, eq924⟩ := rd_28000 ok823 kd266 ((zi820 : Int32).toNatClampNeg)
          refine p_iald (v := zi925) hx hb hK hw hW kd266 (by decide) rfl ln297 (vp_bv (by omega) (by omega)) eq924 dX3_grow_104 ?_
          refine lv_aload_n hx hb dX3_grow_105 rfl (lv_at hl 0 rfl) ?_
          have eq926 : hp821 qa900 1 = .ref qa89 := Eq.trans (Fr.at (cq := 4001) F822 kd270 (cd_o (by decide)) (by decide)) eq291
          refine p_get (ci := 3) (v := .ref qa89) (C := RX3) (T := TX3) (N := 7) hx hb hT iw_X3 hown hK hw hW kd270 (by decide) rfl rfl 1 (by decide) eq926 (hT _ tb_495) (fun _ h9 => h9) dX3_grow_106 ?_
          refine lv_iload_n hx hb dX3_grow_109 rfl (lv_at hl 1 rfl) ?_
          obtain ⟨zi928, eq927⟩ := rd_29000 ok823 kd267 ((zi820 : Int32).toNatClampNeg)
          refine p_iald (v := zi928) hx hb hK hw hW kd267 (by decide) rfl ln298 (vp_bv (by omega) (by omega)) eq927 dX3_grow_110 ?_
          refine lv_aload_n hx hb dX3_grow_111 rfl (lv_at hl 0 rfl) ?_
          have eq929 : hp821 qa900 2 = .ref qa131 := Eq.trans (Fr.at (cq := 4002) F822 kd270 (cd_o (by decide)) (by decide)) eq292
          refine p_get (ci := 3) (v := .ref qa131) (C := RX3) (T := TX3) (N := 7) hx hb hT iw_X3 hown hK hw hW kd270 (by decide) rfl rfl 2 (by decide) eq929 (hT _ tb_497) (fun _ h9 => h9) dX3_grow_112 ?_
          refine lv_iload_n hx hb dX3_grow_115 rfl (lv_at hl 1 rfl) ?_
          obtain ⟨zi931, eq930⟩ := rd_30000 ok823 kd268 ((zi820 : Int32).toNatClampNeg)
          refine p_iald (v := zi931) hx hb hK hw hW kd268 (by decide) rfl ln299 (vp_bv (by omega) (by omega)) eq930 dX3_grow_116 ?_
          refine kq_i hw hS hA (va_runS (As := [.int zi925, .int zi928, .int zi931]) (rest := [.ref qa900, .ref qa248]) ⟨hx, hb, hml, hown, hT⟩ (cX3_hash_0 l G cy ev K ln Ls hW _ hp821 ok823 zi925 zi928 zi931) (va_cwS 3 hT (good_S tb_1152 tb_1150 tb_1151 tb_117) rfl rfl rfl (by decide +kernel) ⟨Nat.le_of_ble_eq_true rfl, Nat.le_of_ble_eq_true rfl⟩) (PB2.preS hK hE hS hA hw) rfl rfl hl.1 rfl (lv_room (Nat.le_of_ble_eq_true rfl)) dX3_grow_117 ⟨(show (gn - g0) + 0 ≤ 65536 from by omega), (show (14 * (gn - g0)) + 0 ≤ 917504 from by omega)⟩) (fun zi936 hp932 H locs hq935 hw hS => ?_)
          obtain ⟨ok933, F934, xq937⟩ := hq935
          obtain rfl : hp821 = hp932 := (Fr.nil F934).symm
          have hw : PW G cy K ln Ls A hp821 H := hw
          refine kq_i hw hS hA (va_runV (As := [.int zi936]) (rest := [.ref qa248]) ⟨hx, hb, hml, hown, hT⟩ (cX3_freeSlot_0 l G cy ev K ln Ls hW _ hp821 ok823 qa900 zi936 gn kd270 jx824) (cwV 1 hT (good_V tb_1184 tb_1181 tb_1183 tb_35 tb_117) rfl rfl rfl (by decide +kernel) ⟨Nat.le_of_ble_eq_true rfl, Nat.le_of_ble_eq_true rfl⟩) (pool_preV (ci := 3) hK hE hS hA hw hW kd270 (by decide) rfl) rfl rfl hl.1 rfl (lv_room (Nat.le_of_ble_eq_true rfl)) dX3_grow_120 ⟨(show (gn - g0) + 0 ≤ 65536 from by omega), (show (14 * (gn - g0)) + 0 ≤ 917504 from by omega)⟩) (fun zi942 hp938 H locs hq941 hw hS => ?_)
          obtain ⟨ok939, F940, bd943, xq944⟩ := hq941
          obtain rfl : hp821 = hp938 := (Fr.nil F940).symm
          have hw : PW G cy K ln Ls A hp821 H := hw
          refine lv_iload_n hx hb dX3_grow_123 rfl (lv_at hl 1 rfl) ?_
          refine lv_iconst (v := 1) hx hb dX3_grow_124 (by decide) ?_
          refine lv_iadd hx hb dX3_grow_125 (lv_topi (fun zi945 ea946 => ?_))
          have bd947 : (1 : Int) ≤ zi945.toInt ∧ zi945.toInt ≤ 131072 := b_iadd ea946 bd920 bc_1 (by decide) (by decide) (by decide) (by decide)
          have qe948 : zi945.toInt = (zi820 : Int32).toInt + (1 : Int32).toInt := e_iadd ea946 bd920 bc_1 (by decide) (by decide)
          have qe949 : zi945.toInt = zi820.toInt + 1 := by have ha : (1 : Int32).toInt = 1 := (by decide); rw [ha] at qe948; exact qe948
          refine p_iast (x := zi945) hx hb hK hw hS hW kd255 (by decide) rfl ln302 (vp_bv (by omega) (by omega)) dX3_grow_126 (fun hp950 eh951 H locs hw hS => ?_)
          have ok952 := wr_33000 bd947 (by decide) (by decide) ok823 kd255 eh951
          have ns953 : NSx K ln hp950 gn := NSx_tab jx824 kd255 eh951 (by omega)
          obtain ⟨zi954, ea955⟩ : ∃ z : Int32, z = zi820 + 1 := ⟨_, rfl⟩
          have bd956 : (1 : Int) ≤ zi954.toInt ∧ zi954.toInt ≤ 131072 := b_iadd ea955 bd920 bc_1 (by decide) (by decide) (by decide) (by decide)
          have qe957 : zi954.toInt = (zi820 : Int32).toInt + (1 : Int32).toInt := e_iadd ea955 bd920 bc_1 (by decide) (by decide)
          have qe958 : zi954.toInt = zi820.toInt + 1 := by have ha : (1 : Int32).toInt = 1 := (by decide); rw [ha] at qe957; exact qe957
          refine lv_iinc (v := zi954) (lv' := [(2, .int zi954), (0, .ref qa900)]) hx hb dX3_grow_127 hl (k := 1) rfl ea955.symm (by decide) rfl (fun ls hl => ?_)
          refine lv_goto (tgt := 86) hx hb dX3_grow_130 (by decide) ?_
          exact ih913 hp950 zi954 _ _ ls (by have := hm915; have := qe958; omega) ok952 (Fr.put (cq := 33000) (Fr.tr (Fr.rf) F822 (by decide)) eh951 kd255 (cd_a (by decide)) (by decide)) (b_wid2 bd956 (by decide) (by decide)) ns953 (lv_sub hl [1, 0] rfl) hw hS
    exact lp914 _ hp287 0 _ _ ls (lp_in _) ok289 (Fr.rf) (b_wid2 bc_0 (by decide) (by decide)) ns296 (lv_sub hl [2, 0] rfl) hw hS
  · skip
    have bd959 : (131073 : Int) ≤ zi9.toInt ∧ zi9.toInt ≤ 262144 := r_lt_y (Int32.not_le.mp cn14) bc_131072 bd11 (by decide) (by decide)
    exact False.elim (by omega)
