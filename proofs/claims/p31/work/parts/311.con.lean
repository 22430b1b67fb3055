set_option maxRecDepth 100000 in
set_option maxHeartbeats 4000000 in
theorem cX3_load_0 (l : Launch) (G : va_G) (cy : Nat → ClassId) (ev : Ew) (K ln : Nat → Nat) (Ls : List Nat) (hW : SW K ln Ls) (sz : Nat) (hp0 : Nat → Nat → Value) (ok0 : Ok K hp0) (qa900 : Nat) (zi901 : Int32) (qa902 : Nat) (gn : Nat) (kd900 : K qa900 = 4) (kd902 : K qa902 = 8) (pdNS : NSx K ln hp0 gn) : Met l yX3_load (WS yX3_load cX3_load 3 none) { frames := 0, cells := 0, slots := 0, locals := 0 } (PB2 [.ref qa900, .int zi901, .ref qa902] sz G cy ev (va_pl Ls (cellOf cy K ln hp0))) (QBv (S := (Nat → Nat → Value)) (fun u : (Nat → Nat → Value) => Ok K u ∧ Fr [8000, 8001, 8002, 8004] K hp0 u) G (fun u => va_pl Ls (cellOf cy K ln u)) (va_A (va_pl Ls (cellOf cy K ln hp0)) sz)) 0 0 (va_A (va_pl Ls (cellOf cy K ln hp0)) sz) := by
  refine met_of2 (y := yX3_load) (L := 3) (av := [.ref qa900, .int zi901, .ref qa902]) (Qc := fun A => QBv (S := (Nat → Nat → Value)) (fun u : (Nat → Nat → Value) => Ok K u ∧ Fr [8000, 8001, 8002, 8004] K hp0 u) G (fun u => va_pl Ls (cellOf cy K ln u)) A) (plainFor_of_name (by decide)) (Nat.le_of_ble_eq_true rfl) ?_
  intro p e s m below meth c hsz hx hb hr hml hown hT hlocks hin hK A hA hE hw hS ls hl
  have hw : PW G cy K ln Ls A hp0 s.heap := hw
  have hown : s.vm.findClass "LieClock$Nodes" = some m.cls := hown
  have hl : lv_has ls 3 [(0, .ref qa900), (1, .int zi901), (2, .ref qa902)] := hl
  obtain ⟨Q, hQ⟩ : ∃ Q : State → Prop, Q = MQ below (QBv (S := (Nat → Nat → Value)) (fun u : (Nat → Nat → Value) => Ok K u ∧ Fr [8000, 8001, 8002, 8004] K hp0 u) G (fun u => va_pl Ls (cellOf cy K ln u)) A) ([.ref qa900, .int zi901, .ref qa902] : List Value).toArray s 0 0 A := ⟨_, rfl⟩
  rw [← hQ]
  have hgn := NSx.bd pdNS
  refine lv_iload_n hx hb dX3_load_0 rfl (lv_at hl 1 rfl) ?_
  refine lv_if_lt (tgt := 58) hx hb dX3_load_1 (by decide) (fun cn1 => ?_) (fun cn1 => ?_)
  · skip
    have bd2 : (-2147483648 : Int) ≤ zi901.toInt ∧ zi901.toInt ≤ -1 := r_lt_x cn1 (b_all zi901) bc_0 (by decide) (by decide)
    rw [hQ]
    exact kz_v hx hb hr hlocks hS hp0 hw ⟨ok0, (Fr.rf)⟩ (Nat.le_of_ble_eq_true rfl) (Nat.le_of_ble_eq_true rfl) dX3_load_58
  · skip
    have bd3 : (0 : Int) ≤ zi901.toInt ∧ zi901.toInt ≤ 2147483647 := r_le_y (Int32.not_lt.mp cn1) bc_0 (b_all zi901) (by decide) (by decide)
    refine lv_iload_n hx hb dX3_load_4 rfl (lv_at hl 1 rfl) ?_
    refine lv_aload_n hx hb dX3_load_5 rfl (lv_at hl 0 rfl) ?_
    obtain ⟨zi5, eq4, bd6⟩ := rd_4006 ok0 kd900
    have nz7 := (pdNS).sz kd900 eq4
    refine p_get (ci := 3) (v := .int zi5) (C := RX3) (T := TX3) (N := 7) hx hb hT iw_X3 hown hK hw hW kd900 (by decide) rfl rfl 6 (by decide) eq4 (hT _ tb_503) (fun _ h9 => h9) dX3_load_6 ?_
    refine lv_icmp_ge (tgt := 58) hx hb dX3_load_9 (by decide) (fun cn8 => ?_) (fun cn8 => ?_)
    · skip
      have tf9 : zi5.toInt ≤ zi901.toInt := (fa_le _ _).mp cn8
      rw [hQ]
      exact kz_v hx hb hr hlocks hS hp0 hw ⟨ok0, (Fr.rf)⟩ (Nat.le_of_ble_eq_true rfl) (Nat.le_of_ble_eq_true rfl) dX3_load_58
    · skip
      have tf10 : zi901.toInt < zi5.toInt := (fa_lt _ _).mp (Int32.not_le.mp cn8)
      have bd11 : (0 : Int) ≤ zi901.toInt ∧ zi901.toInt ≤ 131071 := r_lt_x (Int32.not_le.mp cn8) bd3 bd6 (by decide) (by decide)
      have bd12 : (1 : Int) ≤ zi5.toInt ∧ zi5.toInt ≤ 131072 := r_lt_y (Int32.not_le.mp cn8) bd3 bd6 (by decide) (by decide)
      refine lv_aload_n hx hb dX3_load_12 rfl (lv_at hl 2 rfl) ?_
      refine lv_aload_n hx hb dX3_load_13 rfl (lv_at hl 0 rfl) ?_
      obtain ⟨qa14, eq13, kd15⟩ := rd_4001 ok0 kd900
      have ln16 := (pdNS).ref kd900 (by decide) eq13
      refine p_get (ci := 3) (v := .ref qa14) (C := RX3) (T := TX3) (N := 7) hx hb hT iw_X3 hown hK hw hW kd900 (by decide) rfl rfl 1 (by decide) eq13 (hT _ tb_495) (fun _ h9 => h9) dX3_load_14 ?_
      refine lv_iload_n hx hb dX3_load_17 rfl (lv_at hl 1 rfl) ?_
      obtain ⟨zi18, eq17⟩ := rd_29000 ok0 kd15 ((zi901 : Int32).toNatClampNeg)
      refine p_iald (v := zi18) hx hb hK hw hW kd15 (by decide) rfl ln16 (vp_bv (by omega) (by omega)) eq17 dX3_load_18 ?_
      refine p_putN (ci := 7) (v := .int zi18) (ty := .int) (C := RX7) (T := TX7) (N := 13) hx hb hT iw_X7 tyX7 tyX7_ok nmX7 hown hK hw hS hW kd902 (by decide) rfl rfl 0 (by decide) (hK.fl nw_308) (fun _ h9 => h9) rfl (by decide +kernel) rfl rfl dX3_load_19 (fun hp19 eh20 H locs hw hS => ?_)
      have ok21 := wr_8000 ok0 kd902 eh20
      refine lv_aload_n hx hb dX3_load_22 rfl (lv_at hl 2 rfl) ?_
      refine lv_aload_n hx hb dX3_load_23 rfl (lv_at hl 0 rfl) ?_
      obtain ⟨qa23, eq22, kd24⟩ := rd_4000 ok21 kd900
      have pd25 : NSx K ln hp19 gn := NSx_fr ok0  (show Fr [8000] K hp0 hp19 from (Fr.put (cq := 8000) (Fr.rf) eh20 kd902 (cd_o (by decide)) (by decide))) (by decide) pdNS
      have ln26 := (pd25).ref kd900 (by decide) eq22
      refine p_get (ci := 3) (v := .ref qa23) (C := RX3) (T := TX3) (N := 7) hx hb hT iw_X3 hown hK hw hW kd900 (by decide) rfl rfl 0 (by decide) eq22 (hT _ tb_492) (fun _ h9 => h9) dX3_load_24 ?_
      refine lv_iload_n hx hb dX3_load_27 rfl (lv_at hl 1 rfl) ?_
      obtain ⟨zi28, eq27⟩ := rd_28000 ok21 kd24 ((zi901 : Int32).toNatClampNeg)
      refine p_iald (v := zi28) hx hb hK hw hW kd24 (by decide) rfl ln26 (vp_bv (by omega) (by omega)) eq27 dX3_load_28 ?_
      refine lv_ldc (v := 65535) hx hb hown (hT _ tb_1197) dX3_load_29 ?_
      refine lv_iand hx hb dX3_load_31 (lv_topi (fun zi29 ea30 => ?_))
      have bd31 : (0 : Int) ≤ zi29.toInt ∧ zi29.toInt ≤ 65535 := b_and_r ea30 bc_65535 (by decide) (by decide) (by decide)
      refine p_putN (ci := 7) (v := .int zi29) (ty := .int) (C := RX7) (T := TX7) (N := 13) hx hb hT iw_X7 tyX7 tyX7_ok nmX7 hown hK hw hS hW kd902 (by decide) rfl rfl 1 (by decide) (hK.fl nw_313) (fun _ h9 => h9) rfl (by decide +kernel) rfl rfl dX3_load_32 (fun hp32 eh33 H locs hw hS => ?_)
      have ok34 := wr_8001 ok21 kd902 eh33
      refine lv_aload_n hx hb dX3_load_35 rfl (lv_at hl 2 rfl) ?_
      refine lv_aload_n hx hb dX3_load_36 rfl (lv_at hl 0 rfl) ?_
      have eq35 : hp32 qa900 0 = .ref qa23 := Eq.trans (up_at eh33 (Or.inl (kd_ne kd900 kd902 (by decide)))) eq22
      refine p_get (ci := 3) (v := .ref qa23) (C := RX3) (T := TX3) (N := 7) hx hb hT iw_X3 hown hK hw hW kd900 (by decide) rfl rfl 0 (by decide) eq35 (hT _ tb_492) (fun _ h9 => h9) dX3_load_37 ?_
      refine lv_iload_n hx hb dX3_load_40 rfl (lv_at hl 1 rfl) ?_
      have eq36 : hp32 qa23 (zi901 : Int32).toNatClampNeg = .int zi28 := Eq.trans (up_at eh33 (Or.inl (kd_ne kd24 kd902 (by decide)))) eq27
      refine p_iald (v := zi28) hx hb hK hw hW kd24 (by decide) rfl ln26 (vp_bv (by omega) (by omega)) eq36 dX3_load_41 ?_
      refine lv_bipush (v := 16) hx hb dX3_load_42 (by decide) ?_
      refine lv_iushr hx hb dX3_load_44 rfl (lv_topi (fun zi37 ea38 => ?_))
      refine p_putN (ci := 7) (v := .int zi37) (ty := .int) (C := RX7) (T := TX7) (N := 13) hx hb hT iw_X7 tyX7 tyX7_ok nmX7 hown hK hw hS hW kd902 (by decide) rfl rfl 2 (by decide) (hK.fl nw_317) (fun _ h9 => h9) rfl (by decide +kernel) rfl rfl dX3_load_45 (fun hp39 eh40 H locs hw hS => ?_)
      have ok41 := wr_8002 ok34 kd902 eh40
      refine lv_aload_n hx hb dX3_load_48 rfl (lv_at hl 2 rfl) ?_
      refine lv_aload_n hx hb dX3_load_49 rfl (lv_at hl 0 rfl) ?_
      obtain ⟨qa43, eq42, kd44⟩ := rd_4002 ok41 kd900
      have pd45 : NSx K ln hp39 gn := NSx_fr ok21  (show Fr [8001, 8002] K hp19 hp39 from (Fr.put (cq := 8002) (Fr.put (cq := 8001) (Fr.rf) eh33 kd902 (cd_o (by decide)) (by decide)) eh40 kd902 (cd_o (by decide)) (by decide))) (by decide) pd25
      have ln46 := (pd45).ref kd900 (by decide) eq42
      refine p_get (ci := 3) (v := .ref qa43) (C := RX3) (T := TX3) (N := 7) hx hb hT iw_X3 hown hK hw hW kd900 (by decide) rfl rfl 2 (by decide) eq42 (hT _ tb_497) (fun _ h9 => h9) dX3_load_50 ?_
      refine lv_iload_n hx hb dX3_load_53 rfl (lv_at hl 1 rfl) ?_
      obtain ⟨zi48, eq47⟩ := rd_30000 ok41 kd44 ((zi901 : Int32).toNatClampNeg)
      refine p_iald (v := zi48) hx hb hK hw hW kd44 (by decide) rfl ln46 (vp_bv (by omega) (by omega)) eq47 dX3_load_54 ?_
      refine p_putN (ci := 7) (v := .int zi48) (ty := .int) (C := RX7) (T := TX7) (N := 13) hx hb hT iw_X7 tyX7 tyX7_ok nmX7 hown hK hw hS hW kd902 (by decide) rfl rfl 4 (by decide) (hK.fl nw_323) (fun _ h9 => h9) rfl (by decide +kernel) rfl rfl dX3_load_55 (fun hp49 eh50 H locs hw hS => ?_)
      have ok51 := wr_8004 ok41 kd902 eh50
      rw [hQ]
      exact kz_v hx hb hr hlocks hS hp49 hw ⟨ok51, (Fr.put (cq := 8004) (Fr.put (cq := 8002) (Fr.put (cq := 8001) (Fr.put (cq := 8000) (Fr.rf) eh20 kd902 (cd_o (by decide)) (by decide)) eh33 kd902 (cd_o (by decide)) (by decide)) eh40 kd902 (cd_o (by decide)) (by decide)) eh50 kd902 (cd_o (by decide)) (by decide))⟩ (Nat.le_of_ble_eq_true rfl) (Nat.le_of_ble_eq_true rfl) dX3_load_58
