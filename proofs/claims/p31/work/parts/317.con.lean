set_option maxRecDepth 100000 in
set_option maxHeartbeats 4000000 in
theorem cJ7_copyOf_59c91_2 (l : Launch) (G : va_G) (cy : Nat → ClassId) (ev : Ew) (K0 ln0 : Nat → Nat) (Ls0 : List Nat) (hW0 : SW K0 ln0 Ls0) (sz : Nat) (hp0 : Nat → Nat → Value) (ok0 : Ok K0 hp0) (qa900 : Nat) (zi901 : Int32) (gN : Nat) (kd900 : K0 qa900 = 30) (bd901 : ((0 : Int) ≤ zi901.toInt ∧ zi901.toInt ≤ 131072)) (xp0 : zi901.toInt = (gN : Nat)) (xp1 : ((ln0 qa900 : Nat) : Int) < (gN : Nat)) (xp2 : gN ≤ 131072) : Met l yJ7_copyOf_59c91 (WS yJ7_copyOf_59c91 cJ7_copyOf_59c91 3 (some (.array .int))) { frames := 1, cells := 1, slots := gN, locals := 40 } (PB2 [.ref qa900, .int zi901] sz G cy ev (va_pl Ls0 (cellOf cy K0 ln0 hp0))) (va_Qr (fun _ : GU => True) (fun u a t => (fun (u : GU) (a : Nat) => NEWy [30000] K0 ln0 hp0 a 30 gN u.1 u.2.1 u.2.2.1 u.2.2.2) u a ∧ va_P G vwCl (GWx cy u) t.heap ∧ va_D (va_A (va_pl Ls0 (cellOf cy K0 ln0 hp0)) sz) (GWx cy u)) (va_A (va_pl Ls0 (cellOf cy K0 ln0 hp0)) sz)) 1 gN (va_A (va_pl Ls0 (cellOf cy K0 ln0 hp0)) sz) := by
  refine met_of2 (y := yJ7_copyOf_59c91) (L := 3) (av := [.ref qa900, .int zi901]) (Qc := fun A => va_Qr (fun _ : GU => True) (fun u a t => (fun (u : GU) (a : Nat) => NEWy [30000] K0 ln0 hp0 a 30 gN u.1 u.2.1 u.2.2.1 u.2.2.2) u a ∧ va_P G vwCl (GWx cy u) t.heap ∧ va_D A (GWx cy u)) A) (plainFor_of_name (by decide)) (Nat.le_of_ble_eq_true rfl) ?_
  intro p e s m below meth c hsz hx hb hr hml hown hT hlocks hin hK A hA hE hw hS ls hl
  have hw : PW G cy K0 ln0 Ls0 A hp0 s.heap := hw
  have hown : s.vm.findClass "java/util/Arrays" = some m.cls := hown
  have hl : lv_has ls 3 [(0, .ref qa900), (1, .int zi901)] := hl
  obtain ⟨Q, hQ⟩ : ∃ Q : State → Prop, Q = MQ below (va_Qr (fun _ : GU => True) (fun u a t => (fun (u : GU) (a : Nat) => NEWy [30000] K0 ln0 hp0 a 30 gN u.1 u.2.1 u.2.2.1 u.2.2.2) u a ∧ va_P G vwCl (GWx cy u) t.heap ∧ va_D A (GWx cy u)) A) ([.ref qa900, .int zi901] : List Value).toArray s 1 gN A := ⟨_, rfl⟩
  rw [← hQ]
  obtain ⟨K, ln, Ls, hW, gex, gfx, ok1, hKe, kd900, xp1, hw⟩ : ∃ (K ln : Nat → Nat) (Ls : List Nat), SW K ln Ls ∧ EXx K0 ln0 K ln ∧ FrX wsC K0 hp0 hp0 ∧ Ok K hp0 ∧ K = K0 ∧ (K qa900 = 30) ∧ (((ln qa900 : Nat) : Int) < (gN : Nat)) ∧ PW G cy K ln Ls A hp0 s.heap := ⟨K0, ln0, Ls0, hW0, EXx.rf, FrX.rf, ok0, rfl, kd900, xp1, hw⟩
  refine lv_iload_n hx hb dJ7_copyOf_59c91_0 rfl (lv_at hl 1 rfl) ?_
  refine lv_aload_n hx hb dJ7_copyOf_59c91_1 rfl (lv_at hl 0 rfl) ?_
  obtain ⟨zi1, ez2⟩ : ∃ z : Int32, Int32.ofNat (ln qa900) = z := ⟨_, rfl⟩
  refine p_alen (v := zi1) hx hb hK hw hW kd900 (by decide) rfl rfl ez2 dJ7_copyOf_59c91_2 ?_
  have hl3 : zi1.toInt = (ln qa900 : Nat) := ofNat_len ez2 (by omega)
  have bd4 : (0 : Int) ≤ zi1.toInt ∧ zi1.toInt ≤ 262144 := (by omega)
  refine lv_icmp_ne (tgt := 14) hx hb dJ7_copyOf_59c91_3 (by decide) (fun cn5 => ?_) (fun cn5 => ?_)
  · skip
    have tf6 : (zi901 : Int32).toInt ≠ (zi1 : Int32).toInt := fun e => cn5 (Int32.toInt_inj.mp e)
    refine lv_iload_n hx hb dJ7_copyOf_59c91_14 rfl (lv_at hl 1 rfl) ?_
    have gf17 : FrX wsC K0 hp0 hp0 := gfx
    have gexo := gex
    refine p_newI hx hb (hT _ tb_182) hK hw hS hA hW ok1 30 (by decide) rfl rfl (by decide) (by decide) (by rw [show tabI.lookup (30 * 1000) = none from by decide]; trivial) (Int32.not_lt.mpr (by rw [fa_le]; have := toi bc_0; omega)) (show (zi901 : Int32).toNatClampNeg = gN from by have := clampN (x := zi901) (by omega); omega) (by omega) (show 0 + 1 ≤ 1 from by omega) (show 0 + (gN) ≤ gN from by omega) dJ7_copyOf_59c91_15 (fun qa7 K ln Ls hp8 H hq9 hz10 hw hS => ?_)
    obtain ⟨ex12, hW, ok11, fx13, kd14, ln15, nw16⟩ := hq9
    have gfx : FrX wsC K0 hp0 hp8 := FrX.tr gf17 gex fx13 (by decide +kernel)
    have gex := EXx.tr gex ex12
    have kd18 := EXx.kd ex12 kd900 (by decide)
    have ln19 := EXx.le ex12 kd900 (by decide) rfl
    (try clear kd900)
    refine lv_astore_n (lv' := [(2, .ref qa7), (0, .ref qa900), (1, .int zi901)]) hx hb dJ7_copyOf_59c91_17 rfl hl (by decide) rfl (fun ls hl => ?_)
    refine lv_aload_n hx hb dJ7_copyOf_59c91_18 rfl (lv_at hl 1 rfl) ?_
    refine lv_iconst (v := 0) hx hb dJ7_copyOf_59c91_19 (by decide) ?_
    refine lv_aload_n hx hb dJ7_copyOf_59c91_20 rfl (lv_at hl 0 rfl) ?_
    refine lv_iconst (v := 0) hx hb dJ7_copyOf_59c91_21 (by decide) ?_
    refine lv_aload_n hx hb dJ7_copyOf_59c91_22 rfl (lv_at hl 1 rfl) ?_
    obtain ⟨zi20, ez21⟩ : ∃ z : Int32, Int32.ofNat (ln qa900) = z := ⟨_, rfl⟩
    refine p_alen (v := zi20) hx hb hK hw hW kd18 (by decide) rfl rfl ez21 dJ7_copyOf_59c91_23 ?_
    have hl22 : zi20.toInt = (ln qa900 : Nat) := ofNat_len ez21 (by omega)
    have bd23 : (0 : Int) ≤ zi20.toInt ∧ zi20.toInt ≤ 262144 := (by omega)
    refine lv_iload_n hx hb dJ7_copyOf_59c91_24 rfl (lv_at hl 2 rfl) ?_
    refine va_mmin hx hb (hml.trans hl.1.symm) hown (hT _ tb_1171) (hT _ tb_791) (hT _ tb_123) (hT _ tb_792) (Nat.le_of_ble_eq_true rfl) (Nat.le_of_ble_eq_true rfl) (show (0 + 1) ≤ 1 from by omega) (show (0 + (gN)) ≤ gN from by omega) dJ7_copyOf_59c91_25 (lv_topi (fun zi24 ea25 => ?_))
    have mn26 := min_le2 ea25
    have bd27 : (0 : Int) ≤ zi24.toInt ∧ zi24.toInt ≤ 131072 := b_min ea25 bd23 bd901 (by decide) (by decide) (by decide)
    refine p_copy1 (k0 := 30) (k1 := 30) (cq := 30000) (x0 := 0) (x1 := 0) (y0 := 0) (y1 := 0) (z0 := 0) (z1 := (ln qa900 : Nat)) hx hb (hml.trans hl.1.symm) hown (hT _ tb_1172) (hT _ tb_1054) (hT _ tb_1053) (hT _ tb_127) hK hw hS hW ok11 kd18 kd14 (by decide) (by decide) rfl rfl rfl ln15 (fun _ h9 => h9) bc_0 bc_0 (by omega) (by decide) (by decide) (by decide) (by omega) (by omega) (Nat.le_of_ble_eq_true rfl) (Nat.le_of_ble_eq_true rfl) dJ7_copyOf_59c91_28 rfl (fun hp28 ok30 F29 H locs hw hS => ?_)
    refine lv_aload_n hx hb dJ7_copyOf_59c91_31 rfl (lv_at hl 0 rfl) ?_
    rw [hQ]
    exact kgz_r hx hb hr hlocks hS ((K, ln, Ls, hp28) : GU) hw ⟨gex, hW, ok30, FrX.tr (FrX.tr (FrX.rf (ws := [30000])) gexo fx13 (by decide)) gex (FrX.of (show Fr [30000] K hp8 hp28 from F29)) (by decide), kd14, ln15, by rw [hKe] at nw16; exact nw16⟩ (show (0 + 1) ≤ 1 from by omega) (show (0 + (gN)) ≤ gN from by omega) dJ7_copyOf_59c91_32
  · skip
    have tf31 : zi901.toInt = zi1.toInt := congrArg Int32.toInt cn5
    have bd32 : (0 : Int) ≤ zi1.toInt ∧ zi1.toInt ≤ 131072 := r_eq_x (cn5).symm bd4 bd901 (by decide) (by decide)
    exact False.elim (by omega)

set_option maxRecDepth 100000 in
set_option maxHeartbeats 4000000 in
theorem cJ7_copyOf_59c91_3 (l : Launch) (G : va_G) (cy : Nat → ClassId) (ev : Ew) (K0 ln0 : Nat → Nat) (Ls0 : List Nat) (hW0 : SW K0 ln0 Ls0) (sz : Nat) (hp0 : Nat → Nat → Value) (ok0 : Ok K0 hp0) (qa900 : Nat) (zi901 : Int32) (gN : Nat) (kd900 : K0 qa900 = 31) (bd901 : ((0 : Int) ≤ zi901.toInt ∧ zi901.toInt ≤ 131072)) (xp0 : zi901.toInt = (gN : Nat)) (xp1 : ((ln0 qa900 : Nat) : Int) < (gN : Nat)) (xp2 : gN ≤ 131072) : Met l yJ7_copyOf_59c91 (WS yJ7_copyOf_59c91 cJ7_copyOf_59c91 3 (some (.array .int))) { frames := 1, cells := 1, slots := gN, locals := 40 } (PB2 [.ref qa900, .int zi901] sz G cy ev (va_pl Ls0 (cellOf cy K0 ln0 hp0))) (va_Qr (fun _ : GU => True) (fun u a t => (fun (u : GU) (a : Nat) => NEWy [31000] K0 ln0 hp0 a 31 gN u.1 u.2.1 u.2.2.1 u.2.2.2) u a ∧ va_P G vwCl (GWx cy u) t.heap ∧ va_D (va_A (va_pl Ls0 (cellOf cy K0 ln0 hp0)) sz) (GWx cy u)) (va_A (va_pl Ls0 (cellOf cy K0 ln0 hp0)) sz)) 1 gN (va_A (va_pl Ls0 (cellOf cy K0 ln0 hp0)) sz) := by
  refine met_of2 (y := yJ7_copyOf_59c91) (L := 3) (av := [.ref qa900, .int zi901]) (Qc := fun A => va_Qr (fun _ : GU => True) (fun u a t => (fun (u : GU) (a : Nat) => NEWy [31000] K0 ln0 hp0 a 31 gN u.1 u.2.1 u.2.2.1 u.2.2.2) u a ∧ va_P G vwCl (GWx cy u) t.heap ∧ va_D A (GWx cy u)) A) (plainFor_of_name (by decide)) (Nat.le_of_ble_eq_true rfl) ?_
  intro p e s m below meth c hsz hx hb hr hml hown hT hlocks hin hK A hA hE hw hS ls hl
  have hw : PW G cy K0 ln0 Ls0 A hp0 s.heap := hw
  have hown : s.vm.findClass "java/util/Arrays" = some m.cls := hown
  have hl : lv_has ls 3 [(0, .ref qa900), (1, .int zi901)] := hl
  obtain ⟨Q, hQ⟩ : ∃ Q : State → Prop, Q = MQ below (va_Qr (fun _ : GU => True) (fun u a t => (fun (u : GU) (a : Nat) => NEWy [31000] K0 ln0 hp0 a 31 gN u.1 u.2.1 u.2.2.1 u.2.2.2) u a ∧ va_P G vwCl (GWx cy u) t.heap ∧ va_D A (GWx cy u)) A) ([.ref qa900, .int zi901] : List Value).toArray s 1 gN A := ⟨_, rfl⟩
  rw [← hQ]
  obtain ⟨K, ln, Ls, hW, gex, gfx, ok1, hKe, kd900, xp1, hw⟩ : ∃ (K ln : Nat → Nat) (Ls : List Nat), SW K ln Ls ∧ EXx K0 ln0 K ln ∧ FrX wsC K0 hp0 hp0 ∧ Ok K hp0 ∧ K = K0 ∧ (K qa900 = 31) ∧ (((ln qa900 : Nat) : Int) < (gN : Nat)) ∧ PW G cy K ln Ls A hp0 s.heap := ⟨K0, ln0, Ls0, hW0, EXx.rf, FrX.rf, ok0, rfl, kd900, xp1, hw⟩
  refine lv_iload_n hx hb dJ7_copyOf_59c91_0 rfl (lv_at hl 1 rfl) ?_
  refine lv_aload_n hx hb dJ7_copyOf_59c91_1 rfl (lv_at hl 0 rfl) ?_
  obtain ⟨zi1, ez2⟩ : ∃ z : Int32, Int32.ofNat (ln qa900) = z := ⟨_, rfl⟩
  refine p_alen (v := zi1) hx hb hK hw hW kd900 (by decide) rfl rfl ez2 dJ7_copyOf_59c91_2 ?_
  have hl3 : zi1.toInt = (ln qa900 : Nat) := ofNat_len ez2 (by omega)
  have bd4 : (0 : Int) ≤ zi1.toInt ∧ zi1.toInt ≤ 262144 := (by omega)
  refine lv_icmp_ne (tgt := 14) hx hb dJ7_copyOf_59c91_3 (by decide) (fun cn5 => ?_) (fun cn5 => ?_)
  · skip
    have tf6 : (zi901 : Int32).toInt ≠ (zi1 : Int32).toInt := fun e => cn5 (Int32.toInt_inj.mp e)
    refine lv_iload_n hx hb dJ7_copyOf_59c91_14 rfl (lv_at hl 1 rfl) ?_
    have gf17 : FrX wsC K0 hp0 hp0 := gfx
    have gexo := gex
    refine p_newI hx hb (hT _ tb_182) hK hw hS hA hW ok1 31 (by decide) rfl rfl (by decide) (by decide) (by rw [show tabI.lookup (31 * 1000) = none from by decide]; trivial) (Int32.not_lt.mpr (by rw [fa_le]; have := toi bc_0; omega)) (show (zi901 : Int32).toNatClampNeg = gN from by have := clampN (x := zi901) (by omega); omega) (by omega) (show 0 + 1 ≤ 1 from by omega) (show 0 + (gN) ≤ gN from by omega) dJ7_copyOf_59c91_15 (fun qa7 K ln Ls hp8 H hq9 hz10 hw hS => ?_)
    obtain ⟨ex12, hW, ok11, fx13, kd14, ln15, nw16⟩ := hq9
    have gfx : FrX wsC K0 hp0 hp8 := FrX.tr gf17 gex fx13 (by decide +kernel)
    have gex := EXx.tr gex ex12
    have kd18 := EXx.kd ex12 kd900 (by decide)
    have ln19 := EXx.le ex12 kd900 (by decide) rfl
    (try clear kd900)
    refine lv_astore_n (lv' := [(2, .ref qa7), (0, .ref qa900), (1, .int zi901)]) hx hb dJ7_copyOf_59c91_17 rfl hl (by decide) rfl (fun ls hl => ?_)
    refine lv_aload_n hx hb dJ7_copyOf_59c91_18 rfl (lv_at hl 1 rfl) ?_
    refine lv_iconst (v := 0) hx hb dJ7_copyOf_59c91_19 (by decide) ?_
    refine lv_aload_n hx hb dJ7_copyOf_59c91_20 rfl (lv_at hl 0 rfl) ?_
    refine lv_iconst (v := 0) hx hb dJ7_copyOf_59c91_21 (by decide) ?_
    refine lv_aload_n hx hb dJ7_copyOf_59c91_22 rfl (lv_at hl 1 rfl) ?_
    obtain ⟨zi20, ez21⟩ : ∃ z : Int32, Int32.ofNat (ln qa900) = z := ⟨_, rfl⟩
    refine p_alen (v := zi20) hx hb hK hw hW kd18 (by decide) rfl rfl ez21 dJ7_copyOf_59c91_23 ?_
    have hl22 : zi20.toInt = (ln qa900 : Nat) := ofNat_len ez21 (by omega)
    have bd23 : (0 : Int) ≤ zi20.toInt ∧ zi20.toInt ≤ 262144 := (by omega)
    refine lv_iload_n hx hb dJ7_copyOf_59c91_24 rfl (lv_at hl 2 rfl) ?_
    refine va_mmin hx hb (hml.trans hl.1.symm) hown (hT _ tb_1171) (hT _ tb_791) (hT _ tb_123) (hT _ tb_792) (Nat.le_of_ble_eq_true rfl) (Nat.le_of_ble_eq_true rfl) (show (0 + 1) ≤ 1 from by omega) (show (0 + (gN)) ≤ gN from by omega) dJ7_copyOf_59c91_25 (lv_topi (fun zi24 ea25 => ?_))
    have mn26 := min_le2 ea25
    have bd27 : (0 : Int) ≤ zi24.toInt ∧ zi24.toInt ≤ 131072 := b_min ea25 bd23 bd901 (by decide) (by decide) (by decide)
    refine p_copy1 (k0 := 31) (k1 := 31) (cq := 31000) (x0 := 0) (x1 := 0) (y0 := 0) (y1 := 0) (z0 := 0) (z1 := (ln qa900 : Nat)) hx hb (hml.trans hl.1.symm) hown (hT _ tb_1172) (hT _ tb_1054) (hT _ tb_1053) (hT _ tb_127) hK hw hS hW ok11 kd18 kd14 (by decide) (by decide) rfl rfl rfl ln15 (fun _ h9 => h9) bc_0 bc_0 (by omega) (by decide) (by decide) (by decide) (by omega) (by omega) (Nat.le_of_ble_eq_true rfl) (Nat.le_of_ble_eq_true rfl) dJ7_copyOf_59c91_28 rfl (fun hp28 ok30 F29 H locs hw hS => ?_)
    refine lv_aload_n hx hb dJ7_copyOf_59c91_31 rfl (lv_at hl 0 rfl) ?_
    rw [hQ]
    exact kgz_r hx hb hr hlocks hS ((K, ln, Ls, hp28) : GU) hw ⟨gex, hW, ok30, FrX.tr (FrX.tr (FrX.rf (ws := [31000])) gexo fx13 (by decide)) gex (FrX.of (show Fr [31000] K hp8 hp28 from F29)) (by decide), kd14, ln15, by rw [hKe] at nw16; exact nw16⟩ (show (0 + 1) ≤ 1 from by omega) (show (0 + (gN)) ≤ gN from by omega) dJ7_copyOf_59c91_32
  · skip
    have tf31 : zi901.toInt = zi1.toInt := congrArg Int32.toInt cn5
    have bd32 : (0 : Int) ≤ zi1.toInt ∧ zi1.toInt ≤ 131072 := r_eq_x (cn5).symm bd4 bd901 (by decide) (by decide)
    exact False.elim (by omega)
