set_option maxRecDepth 100000 in
set_option maxHeartbeats 4000000 in
theorem cX11_hold_vH_0 (l : Launch) (G : va_G) (cy : Nat → ClassId) (ev : Ew) (K ln : Nat → Nat) (Ls : List Nat) (hW : SW K ln Ls) (sz : Nat) (hp0 : Nat → Nat → Value) (ok0 : Ok K hp0) (qa900 : Nat) (zi901 : Int32) (kd900 : K qa900 = 12) : Met l yX11_hold (WS yX11_hold cX11_hold 2 (some .boolean)) { frames := 2, cells := 0, slots := 0, locals := 61 } (PB2 [.ref qa900, .int zi901] sz G cy ev (va_pl Ls (cellOf cy K ln hp0))) (QBi (S := (Nat → Nat → Value)) (fun (r : Int32) (u : (Nat → Nat → Value)) => Ok K u ∧ Fr [8000, 8001, 8002, 8003, 8004, 8005, 9001, 40000, 41000, 42000, 43000, 59000] K hp0 u ∧ ((0 : Int) ≤ r.toInt ∧ r.toInt ≤ 1) ∧ ((r.toInt = 1 ∧ 0 ≤ zi901.toInt ∧ zi901.toInt ≤ 2) ∨ (r.toInt = 0 ∧ (zi901.toInt < 0 ∨ 2 < zi901.toInt))) ∧ (r = 1 → ((0 : Int) ≤ zi901.toInt ∧ zi901.toInt ≤ 2))) G (fun u => va_pl Ls (cellOf cy K ln u)) (va_A (va_pl Ls (cellOf cy K ln hp0)) sz)) 0 0 (va_A (va_pl Ls (cellOf cy K ln hp0)) sz) := by
  refine met_of2 (y := yX11_hold) (L := 2) (av := [.ref qa900, .int zi901]) (Qc := fun A => QBi (S := (Nat → Nat → Value)) (fun (r : Int32) (u : (Nat → Nat → Value)) => Ok K u ∧ Fr [8000, 8001, 8002, 8003, 8004, 8005, 9001, 40000, 41000, 42000, 43000, 59000] K hp0 u ∧ ((0 : Int) ≤ r.toInt ∧ r.toInt ≤ 1) ∧ ((r.toInt = 1 ∧ 0 ≤ zi901.toInt ∧ zi901.toInt ≤ 2) ∨ (r.toInt = 0 ∧ (zi901.toInt < 0 ∨ 2 < zi901.toInt))) ∧ (r = 1 → ((0 : Int) ≤ zi901.toInt ∧ zi901.toInt ≤ 2))) G (fun u => va_pl Ls (cellOf cy K ln u)) A) (plainFor_of_name (by decide)) (Nat.le_of_ble_eq_true rfl) ?_
  intro p e s m below meth c hsz hx hb hr hml hown hT hlocks hin hK A hA hE hw hS ls hl
  have hw : PW G cy K ln Ls A hp0 s.heap := hw
  have hown : s.vm.findClass "LieClock" = some m.cls := hown
  have hl : lv_has ls 2 [(0, .ref qa900), (1, .int zi901)] := hl
  obtain ⟨Q, hQ⟩ : ∃ Q : State → Prop, Q = MQ below (QBi (S := (Nat → Nat → Value)) (fun (r : Int32) (u : (Nat → Nat → Value)) => Ok K u ∧ Fr [8000, 8001, 8002, 8003, 8004, 8005, 9001, 40000, 41000, 42000, 43000, 59000] K hp0 u ∧ ((0 : Int) ≤ r.toInt ∧ r.toInt ≤ 1) ∧ ((r.toInt = 1 ∧ 0 ≤ zi901.toInt ∧ zi901.toInt ≤ 2) ∨ (r.toInt = 0 ∧ (zi901.toInt < 0 ∨ 2 < zi901.toInt))) ∧ (r = 1 → ((0 : Int) ≤ zi901.toInt ∧ zi901.toInt ≤ 2))) G (fun u => va_pl Ls (cellOf cy K ln u)) A) ([.ref qa900, .int zi901] : List Value).toArray s 0 0 A := ⟨_, rfl⟩
  rw [← hQ]
  refine lv_iload_n hx hb dX11_hold_0 rfl (lv_at hl 1 rfl) ?_
  refine lv_if_lt (tgt := 9) hx hb dX11_hold_1 (by decide) (fun cn1 => ?_) (fun cn1 => ?_)
  · skip
    have bd2 : (-2147483648 : Int) ≤ zi901.toInt ∧ zi901.toInt ≤ -1 := r_lt_x cn1 (b_all zi901) bc_0 (by decide) (by decide)
    refine lv_iconst (v := 0) hx hb dX11_hold_9 (by decide) ?_
    rw [hQ]
    exact kz_i hx hb hr hlocks hS (nz_n bc_0 (by decide) (by decide)) hp0 hw ⟨ok0, (Fr.rf), (b_wid2 bc_0 (by decide) (by decide)), (by have := toi bc_0; have := toi bc_1; have := toi bc_2; omega), (fun h => absurd h (by decide))⟩ (Nat.le_of_ble_eq_true rfl) (Nat.le_of_ble_eq_true rfl) dX11_hold_10
  · skip
    have bd3 : (0 : Int) ≤ zi901.toInt ∧ zi901.toInt ≤ 2147483647 := r_le_y (Int32.not_lt.mp cn1) bc_0 (b_all zi901) (by decide) (by decide)
    refine lv_iload_n hx hb dX11_hold_4 rfl (lv_at hl 1 rfl) ?_
    refine lv_iconst (v := 3) hx hb dX11_hold_5 (by decide) ?_
    refine lv_icmp_lt (tgt := 11) hx hb dX11_hold_6 (by decide) (fun cn4 => ?_) (fun cn4 => ?_)
    · skip
      have bd5 : (0 : Int) ≤ zi901.toInt ∧ zi901.toInt ≤ 2 := r_lt_x cn4 bd3 bc_3 (by decide) (by decide)
      refine lv_aload_n hx hb dX11_hold_11 rfl (lv_at hl 0 rfl) ?_
      obtain ⟨qa7, eq6, kd8⟩ := rd_12010 ok0 kd900
      refine p_get (ci := 11) (v := .ref qa7) (C := RX11) (T := TX11) (N := 17) hx hb hT iw_X11 hown hK hw hW kd900 (by decide) rfl rfl 10 (by decide) eq6 (hT _ tb_667) (fun _ h9 => h9) dX11_hold_12 ?_
      refine lv_iload_n hx hb dX11_hold_15 rfl (lv_at hl 1 rfl) ?_
      obtain ⟨qa10, eq9, kd11⟩ := rd_57000 ok0 kd8 ((zi901 : Int32).toNatClampNeg)
      refine p_aald (v := qa10) hx hb hK hw hW kd8 (by decide) rfl (by decide) (by decide) rfl (hW.len kd8 (n := 3) rfl (by decide)) (vp_b bd5 (by decide) (by decide)) eq9 dX11_hold_16 ?_
      refine lv_aload_n hx hb dX11_hold_17 rfl (lv_at hl 0 rfl) ?_
      obtain ⟨qa13, eq12, kd14⟩ := rd_12005 ok0 kd900
      refine p_get (ci := 11) (v := .ref qa13) (C := RX11) (T := TX11) (N := 17) hx hb hT iw_X11 hown hK hw hW kd900 (by decide) rfl rfl 5 (by decide) eq12 (hT _ tb_662) (fun _ h9 => h9) dX11_hold_18 ?_
      refine kq_v hw hS hA (va_runV (As := [.ref qa13]) (rest := []) ⟨hx, hb, hml, hown, hT⟩ (cX7_copyFrom_0 l G cy ev K ln Ls hW _ hp0 ok0 qa10 qa13 kd11 kd14) (cwV 1 hT (good_V tb_1047 tb_1044 tb_1045 tb_1046 tb_115) rfl rfl rfl (by decide +kernel) ⟨Nat.le_of_ble_eq_true rfl, Nat.le_of_ble_eq_true rfl⟩) (pool_preV (ci := 7) hK hE hS hA hw hW kd11 (by decide) rfl) rfl rfl hl.1 rfl (lv_room (Nat.le_of_ble_eq_true rfl)) dX11_hold_21 ⟨Nat.le_of_ble_eq_true rfl, Nat.le_of_ble_eq_true rfl⟩) (fun hp15 H locs hq18 hw hS => ?_)
      obtain ⟨ok16, F17⟩ := hq18
      have hw : PW G cy K ln Ls A hp15 H := hw
      refine lv_aload_n hx hb dX11_hold_24 rfl (lv_at hl 0 rfl) ?_
      obtain ⟨qa21, eq20, kd22⟩ := rd_12011 ok16 kd900
      refine p_get (ci := 11) (v := .ref qa21) (C := RX11) (T := TX11) (N := 17) hx hb hT iw_X11 hown hK hw hW kd900 (by decide) rfl rfl 11 (by decide) eq20 (hT _ tb_668) (fun _ h9 => h9) dX11_hold_25 ?_
      refine lv_iload_n hx hb dX11_hold_28 rfl (lv_at hl 1 rfl) ?_
      obtain ⟨qa24, eq23, kd25⟩ := rd_58000 ok16 kd22 ((zi901 : Int32).toNatClampNeg)
      refine p_aald (v := qa24) hx hb hK hw hW kd22 (by decide) rfl (by decide) (by decide) rfl (hW.len kd22 (n := 3) rfl (by decide)) (vp_b bd5 (by decide) (by decide)) eq23 dX11_hold_29 ?_
      refine lv_aload_n hx hb dX11_hold_30 rfl (lv_at hl 0 rfl) ?_
      obtain ⟨qa27, eq26, kd28⟩ := rd_12000 ok16 kd900
      refine p_get (ci := 11) (v := .ref qa27) (C := RX11) (T := TX11) (N := 17) hx hb hT iw_X11 hown hK hw hW kd900 (by decide) rfl rfl 0 (by decide) eq26 (hT _ tb_657) (fun _ h9 => h9) dX11_hold_31 ?_
      refine kq_v hw hS hA (va_runV (As := [.ref qa27]) (rest := []) ⟨hx, hb, hml, hown, hT⟩ (cX8_copyFrom_0 l G cy ev K ln Ls hW _ hp15 ok16 qa24 qa27 kd25 kd28) (cwV 1 hT (good_V tb_1347 tb_1344 tb_1345 tb_1346 tb_106) rfl rfl rfl (by decide +kernel) ⟨Nat.le_of_ble_eq_true rfl, Nat.le_of_ble_eq_true rfl⟩) (pool_preV (ci := 8) hK hE hS hA hw hW kd25 (by decide) rfl) rfl rfl hl.1 rfl (lv_room (Nat.le_of_ble_eq_true rfl)) dX11_hold_34 ⟨Nat.le_of_ble_eq_true rfl, Nat.le_of_ble_eq_true rfl⟩) (fun hp29 H locs hq32 hw hS => ?_)
      obtain ⟨ok30, F31⟩ := hq32
      have hw : PW G cy K ln Ls A hp29 H := hw
      refine lv_aload_n hx hb dX11_hold_37 rfl (lv_at hl 0 rfl) ?_
      obtain ⟨qa35, eq34, kd36⟩ := rd_12012 ok30 kd900
      refine p_get (ci := 11) (v := .ref qa35) (C := RX11) (T := TX11) (N := 17) hx hb hT iw_X11 hown hK hw hW kd900 (by decide) rfl rfl 12 (by decide) eq34 (hT _ tb_669) (fun _ h9 => h9) dX11_hold_38 ?_
      refine lv_iload_n hx hb dX11_hold_41 rfl (lv_at hl 1 rfl) ?_
      refine lv_iconst (v := 1) hx hb dX11_hold_42 (by decide) ?_
      refine p_zast (x := 1) hx hb hK hw hS hW kd36 (by decide) rfl (hW.len kd36 (n := 3) rfl (by decide)) (vp_b bd5 (by decide) (by decide)) dX11_hold_43 (fun hp37 eh38 H locs hw hS => ?_)
      have ok39 := wr_59000 (nar_z 1) (by decide) (by decide) ok30 kd36 eh38
      refine lv_iconst (v := 1) hx hb dX11_hold_44 (by decide) ?_
      rw [hQ]
      exact kz_i hx hb hr hlocks hS (nz_n bc_1 (by decide) (by decide)) hp37 hw ⟨ok39, (Fr.put (cq := 59000) (Fr.tr (Fr.tr (Fr.rf) F17 (by decide)) F31 (by decide)) eh38 kd36 (cd_a (by decide)) (by decide)), (b_wid2 bc_1 (by decide) (by decide)), (by have := toi bc_0; have := toi bc_1; have := toi bc_2; omega), (fun _ => b_wid2 bd5 (by decide) (by decide))⟩ (Nat.le_of_ble_eq_true rfl) (Nat.le_of_ble_eq_true rfl) dX11_hold_45
    · skip
      have bd40 : (3 : Int) ≤ zi901.toInt ∧ zi901.toInt ≤ 2147483647 := r_le_y (Int32.not_lt.mp cn4) bc_3 bd3 (by decide) (by decide)
      refine lv_iconst (v := 0) hx hb dX11_hold_9 (by decide) ?_
      rw [hQ]
      exact kz_i hx hb hr hlocks hS (nz_n bc_0 (by decide) (by decide)) hp0 hw ⟨ok0, (Fr.rf), (b_wid2 bc_0 (by decide) (by decide)), (by have := toi bc_0; have := toi bc_1; have := toi bc_2; omega), (fun h => absurd h (by decide))⟩ (Nat.le_of_ble_eq_true rfl) (Nat.le_of_ble_eq_true rfl) dX11_hold_10

set_option maxRecDepth 100000 in
set_option maxHeartbeats 4000000 in
theorem cX12_in_vH_0 (l : Launch) (G : va_G) (cy : Nat → ClassId) (ev : Ew) (K ln : Nat → Nat) (Ls : List Nat) (hW : SW K ln Ls) (sz : Nat) (hp0 : Nat → Nat → Value) (ok0 : Ok K hp0) (zi900 : Int32) (zi901 : Int32) (zi902 : Int32) (bd901 : ((0 : Int) ≤ zi901.toInt ∧ zi901.toInt ≤ 0)) (bd902 : ((2 : Int) ≤ zi902.toInt ∧ zi902.toInt ≤ 2)) : Met l yX12_in (WS yX12_in cX12_in 3 (some .boolean)) { frames := 0, cells := 0, slots := 0, locals := 0 } (PB2 [.int zi900, .int zi901, .int zi902] sz G cy ev (va_pl Ls (cellOf cy K ln hp0))) (QBi (S := (Nat → Nat → Value)) (fun (r : Int32) (u : (Nat → Nat → Value)) => Ok K u ∧ Fr [] K hp0 u ∧ ((0 : Int) ≤ r.toInt ∧ r.toInt ≤ 1) ∧ ((r.toInt = 1 ∧ zi901.toInt ≤ zi900.toInt ∧ zi900.toInt ≤ zi902.toInt) ∨ (r.toInt = 0 ∧ (zi900.toInt < zi901.toInt ∨ zi902.toInt < zi900.toInt))) ∧ (r = 1 → ((0 : Int) ≤ zi900.toInt ∧ zi900.toInt ≤ 2))) G (fun u => va_pl Ls (cellOf cy K ln u)) (va_A (va_pl Ls (cellOf cy K ln hp0)) sz)) 0 0 (va_A (va_pl Ls (cellOf cy K ln hp0)) sz) := by
  refine met_of2 (y := yX12_in) (L := 3) (av := [.int zi900, .int zi901, .int zi902]) (Qc := fun A => QBi (S := (Nat → Nat → Value)) (fun (r : Int32) (u : (Nat → Nat → Value)) => Ok K u ∧ Fr [] K hp0 u ∧ ((0 : Int) ≤ r.toInt ∧ r.toInt ≤ 1) ∧ ((r.toInt = 1 ∧ zi901.toInt ≤ zi900.toInt ∧ zi900.toInt ≤ zi902.toInt) ∨ (r.toInt = 0 ∧ (zi900.toInt < zi901.toInt ∨ zi902.toInt < zi900.toInt))) ∧ (r = 1 → ((0 : Int) ≤ zi900.toInt ∧ zi900.toInt ≤ 2))) G (fun u => va_pl Ls (cellOf cy K ln u)) A) (plainFor_of_name (by decide)) (Nat.le_of_ble_eq_true rfl) ?_
  intro p e s m below meth c hsz hx hb hr hml hown hT hlocks hin hK A hA hE hw hS ls hl
  have hw : PW G cy K ln Ls A hp0 s.heap := hw
  have hown : s.vm.findClass "LieClockModel" = some m.cls := hown
  have hl : lv_has ls 3 [(0, .int zi900), (1, .int zi901), (2, .int zi902)] := hl
  obtain ⟨Q, hQ⟩ : ∃ Q : State → Prop, Q = MQ below (QBi (S := (Nat → Nat → Value)) (fun (r : Int32) (u : (Nat → Nat → Value)) => Ok K u ∧ Fr [] K hp0 u ∧ ((0 : Int) ≤ r.toInt ∧ r.toInt ≤ 1) ∧ ((r.toInt = 1 ∧ zi901.toInt ≤ zi900.toInt ∧ zi900.toInt ≤ zi902.toInt) ∨ (r.toInt = 0 ∧ (zi900.toInt < zi901.toInt ∨ zi902.toInt < zi900.toInt))) ∧ (r = 1 → ((0 : Int) ≤ zi900.toInt ∧ zi900.toInt ≤ 2))) G (fun u => va_pl Ls (cellOf cy K ln u)) A) ([.int zi900, .int zi901, .int zi902] : List Value).toArray s 0 0 A := ⟨_, rfl⟩
  rw [← hQ]
  refine lv_iload_n hx hb dX12_in_0 rfl (lv_at hl 0 rfl) ?_
  refine lv_iload_n hx hb dX12_in_1 rfl (lv_at hl 1 rfl) ?_
  refine lv_icmp_lt (tgt := 14) hx hb dX12_in_2 (by decide) (fun cn1 => ?_) (fun cn1 => ?_)
  · skip
    have tf2 : zi900.toInt < zi901.toInt := (fa_lt _ _).mp cn1
    have bd3 : (-2147483648 : Int) ≤ zi900.toInt ∧ zi900.toInt ≤ -1 := r_lt_x cn1 (b_all zi900) bd901 (by decide) (by decide)
    refine lv_iconst (v := 0) hx hb dX12_in_14 (by decide) ?_
    rw [hQ]
    exact kz_i hx hb hr hlocks hS (nz_n bc_0 (by decide) (by decide)) hp0 hw ⟨ok0, (Fr.rf), (b_wid2 bc_0 (by decide) (by decide)), (by have := toi bc_0; have := toi bc_1; omega), (fun h => absurd h (by decide))⟩ (Nat.le_of_ble_eq_true rfl) (Nat.le_of_ble_eq_true rfl) dX12_in_15
  · skip
    have tf4 : zi901.toInt ≤ zi900.toInt := (fa_le _ _).mp (Int32.not_lt.mp cn1)
    have bd5 : (0 : Int) ≤ zi900.toInt ∧ zi900.toInt ≤ 2147483647 := r_le_y (Int32.not_lt.mp cn1) bd901 (b_all zi900) (by decide) (by decide)
    refine lv_iload_n hx hb dX12_in_5 rfl (lv_at hl 0 rfl) ?_
    refine lv_iload_n hx hb dX12_in_6 rfl (lv_at hl 2 rfl) ?_
    refine lv_icmp_gt (tgt := 14) hx hb dX12_in_7 (by decide) (fun cn6 => ?_) (fun cn6 => ?_)
    · skip
      have tf7 : zi902.toInt < zi900.toInt := (fa_lt _ _).mp cn6
      have bd8 : (3 : Int) ≤ zi900.toInt ∧ zi900.toInt ≤ 2147483647 := r_lt_y cn6 bd902 bd5 (by decide) (by decide)
      refine lv_iconst (v := 0) hx hb dX12_in_14 (by decide) ?_
      rw [hQ]
      exact kz_i hx hb hr hlocks hS (nz_n bc_0 (by decide) (by decide)) hp0 hw ⟨ok0, (Fr.rf), (b_wid2 bc_0 (by decide) (by decide)), (by have := toi bc_0; have := toi bc_1; omega), (fun h => absurd h (by decide))⟩ (Nat.le_of_ble_eq_true rfl) (Nat.le_of_ble_eq_true rfl) dX12_in_15
    · skip
      have tf9 : zi900.toInt ≤ zi902.toInt := (fa_le _ _).mp (Int32.not_lt.mp cn6)
      have bd10 : (0 : Int) ≤ zi900.toInt ∧ zi900.toInt ≤ 2 := r_le_x (Int32.not_lt.mp cn6) bd5 bd902 (by decide) (by decide)
      refine lv_iconst (v := 1) hx hb dX12_in_10 (by decide) ?_
      refine lv_goto (tgt := 15) hx hb dX12_in_11 (by decide) ?_
      rw [hQ]
      exact kz_i hx hb hr hlocks hS (nz_n bc_1 (by decide) (by decide)) hp0 hw ⟨ok0, (Fr.rf), (b_wid2 bc_1 (by decide) (by decide)), (by have := toi bc_0; have := toi bc_1; omega), (fun _ => b_wid2 bd10 (by decide) (by decide))⟩ (Nat.le_of_ble_eq_true rfl) (Nat.le_of_ble_eq_true rfl) dX12_in_15

set_option maxRecDepth 100000 in
set_option maxHeartbeats 4000000 in
theorem cX12_hold_vH_0 (l : Launch) (G : va_G) (cy : Nat → ClassId) (ev : Ew) (K ln : Nat → Nat) (Ls : List Nat) (hW : SW K ln Ls) (sz : Nat) (hp0 : Nat → Nat → Value) (ok0 : Ok K hp0) (qa900 : Nat) (zi901 : Int32) (kd900 : K qa900 = 13) : Met l yX12_hold (WS yX12_hold cX12_hold 3 (some .boolean)) { frames := 1, cells := 0, slots := 0, locals := 22 } (PB2 [.ref qa900, .int zi901] sz G cy ev (va_pl Ls (cellOf cy K ln hp0))) (QBi (S := (Nat → Nat → Value)) (fun (r : Int32) (u : (Nat → Nat → Value)) => Ok K u ∧ Fr [101000, 102000] K hp0 u ∧ ((0 : Int) ≤ r.toInt ∧ r.toInt ≤ 1) ∧ ((r.toInt = 1 ∧ 0 ≤ zi901.toInt ∧ zi901.toInt ≤ 2) ∨ (r.toInt = 0 ∧ (zi901.toInt < 0 ∨ 2 < zi901.toInt))) ∧ (r = 1 → ((0 : Int) ≤ zi901.toInt ∧ zi901.toInt ≤ 2))) G (fun u => va_pl Ls (cellOf cy K ln u)) (va_A (va_pl Ls (cellOf cy K ln hp0)) sz)) 0 0 (va_A (va_pl Ls (cellOf cy K ln hp0)) sz) := by
  refine met_of2 (y := yX12_hold) (L := 3) (av := [.ref qa900, .int zi901]) (Qc := fun A => QBi (S := (Nat → Nat → Value)) (fun (r : Int32) (u : (Nat → Nat → Value)) => Ok K u ∧ Fr [101000, 102000] K hp0 u ∧ ((0 : Int) ≤ r.toInt ∧ r.toInt ≤ 1) ∧ ((r.toInt = 1 ∧ 0 ≤ zi901.toInt ∧ zi901.toInt ≤ 2) ∨ (r.toInt = 0 ∧ (zi901.toInt < 0 ∨ 2 < zi901.toInt))) ∧ (r = 1 → ((0 : Int) ≤ zi901.toInt ∧ zi901.toInt ≤ 2))) G (fun u => va_pl Ls (cellOf cy K ln u)) A) (plainFor_of_name (by decide)) (Nat.le_of_ble_eq_true rfl) ?_
  intro p e s m below meth c hsz hx hb hr hml hown hT hlocks hin hK A hA hE hw hS ls hl
  have hw : PW G cy K ln Ls A hp0 s.heap := hw
  have hown : s.vm.findClass "LieClockModel" = some m.cls := hown
  have hl : lv_has ls 3 [(0, .ref qa900), (1, .int zi901)] := hl
  obtain ⟨Q, hQ⟩ : ∃ Q : State → Prop, Q = MQ below (QBi (S := (Nat → Nat → Value)) (fun (r : Int32) (u : (Nat → Nat → Value)) => Ok K u ∧ Fr [101000, 102000] K hp0 u ∧ ((0 : Int) ≤ r.toInt ∧ r.toInt ≤ 1) ∧ ((r.toInt = 1 ∧ 0 ≤ zi901.toInt ∧ zi901.toInt ≤ 2) ∨ (r.toInt = 0 ∧ (zi901.toInt < 0 ∨ 2 < zi901.toInt))) ∧ (r = 1 → ((0 : Int) ≤ zi901.toInt ∧ zi901.toInt ≤ 2))) G (fun u => va_pl Ls (cellOf cy K ln u)) A) ([.ref qa900, .int zi901] : List Value).toArray s 0 0 A := ⟨_, rfl⟩
  rw [← hQ]
  refine lv_iload_n hx hb dX12_hold_0 rfl (lv_at hl 1 rfl) ?_
  refine lv_iconst (v := 0) hx hb dX12_hold_1 (by decide) ?_
  refine lv_iconst (v := 2) hx hb dX12_hold_2 (by decide) ?_
  refine kq_i hw hS hA (va_runS (As := [.int zi901, .int 0, .int 2]) (rest := []) ⟨hx, hb, hml, hown, hT⟩ (cX12_in_vH_0 l G cy ev K ln Ls hW _ hp0 ok0 zi901 0 2 (b_wid2 bc_0 (by decide) (by decide)) (b_wid2 bc_2 (by decide) (by decide))) (va_cwS 3 hT (good_S tb_1734 tb_1732 tb_1733 tb_122) rfl rfl rfl (by decide +kernel) ⟨Nat.le_of_ble_eq_true rfl, Nat.le_of_ble_eq_true rfl⟩) (PB2.preS hK hE hS hA hw) rfl rfl hl.1 rfl (lv_room (Nat.le_of_ble_eq_true rfl)) dX12_hold_3 ⟨Nat.le_of_ble_eq_true rfl, Nat.le_of_ble_eq_true rfl⟩) (fun zi5 hp1 H locs hq4 hw hS => ?_)
  obtain ⟨ok2, F3, bd6, xq7, hc8⟩ := hq4
  obtain rfl : hp0 = hp1 := (Fr.nil F3).symm
  have hw : PW G cy K ln Ls A hp0 H := hw
  rcases b01 bd6 with cn9 | cn9
  · skip
    subst cn9
    refine lv_if_ne (tgt := 11) hx hb dX12_hold_6 (by decide) (fun c => absurd (d_eq bc_0 bc_0) c) (fun _ => ?_)
    refine lv_iconst (v := 0) hx hb dX12_hold_9 (by decide) ?_
    rw [hQ]
    exact kz_i hx hb hr hlocks hS (nz_n bc_0 (by decide) (by decide)) hp0 hw ⟨ok0, (Fr.rf), (b_wid2 bc_0 (by decide) (by decide)), (by have := toi bc_0; have := toi bc_1; have := toi bc_2; omega), (fun h => absurd h (by decide))⟩ (Nat.le_of_ble_eq_true rfl) (Nat.le_of_ble_eq_true rfl) dX12_hold_10
  · skip
    subst cn9
    have bd10 : (0 : Int) ≤ zi901.toInt ∧ zi901.toInt ≤ 2 := b_meet (b_all zi901) (hc8 rfl) (by decide) (by decide)
    refine lv_if_ne (tgt := 11) hx hb dX12_hold_6 (by decide) (fun _ => ?_) (fun c => absurd c (d_ne bc_1 bc_0 (by decide)))
    refine lv_aload_n hx hb dX12_hold_11 rfl (lv_at hl 0 rfl) ?_
    obtain ⟨qa12, eq11, kd13⟩ := rd_13067 ok0 kd900
    refine p_get (ci := 12) (v := .ref qa12) (C := RX12) (T := TX12) (N := 69) hx hb hT iw_X12 hown hK hw hW kd900 (by decide) rfl rfl 67 (by decide) eq11 (hT _ tb_1441) (fun _ h9 => h9) dX12_hold_12 ?_
    refine lv_iload_n hx hb dX12_hold_15 rfl (lv_at hl 1 rfl) ?_
    refine lv_iconst (v := 1) hx hb dX12_hold_16 (by decide) ?_
    refine p_zast (x := 1) hx hb hK hw hS hW kd13 (by decide) rfl (hW.len kd13 (n := 3) rfl (by decide)) (vp_b bd10 (by decide) (by decide)) dX12_hold_17 (fun hp14 eh15 H locs hw hS => ?_)
    have ok16 := wr_101000 (nar_z 1) (by decide) (by decide) ok0 kd13 eh15
    refine lv_iconst (v := 0) hx hb dX12_hold_18 (by decide) ?_
    refine lv_istore_n (lv' := [(2, .int 0), (0, .ref qa900), (1, .int zi901)]) hx hb dX12_hold_19 rfl hl (by decide) rfl (fun ls hl => ?_)
    have lp257 : ∀ (n255 : Nat) (hp195 : Nat → Nat → Value) (zi194 : Int32) (H : Heap) (locs : List Loc) (ls : Array Slot), 40 - zi194.toInt < (n255 : Int) → Ok K hp195 → Fr [102000] K hp14 hp195 → ((0 : Int) ≤ zi194.toInt ∧ zi194.toInt ≤ 40) → lv_has ls 3 [(0, .ref qa900), (1, .int zi901), (2, .int zi194)] → PW G cy K ln Ls A hp195 H → va_S A s.heap H locs → W p l e ({ frames := 1, cells := 0, slots := 0, locals := 22 } : Room) s m ([.ref qa900, .int zi901] : List Value).toArray below meth c H locs 0 0 Q (F0 m 20 ls []) := by
      intro n255
      induction n255 with
      | zero =>
        intro hp195 zi194 H locs ls hm258 ok197 F196 bd198 hl hw hS
        exact absurd hm258 (by have := bd198; omega)
      | succ n255 ih256 =>
        intro hp195 zi194 H locs ls hm258 ok197 F196 bd198 hl hw hS
        refine lv_iload_n hx hb dX12_hold_20 rfl (lv_at hl 2 rfl) ?_
        refine lv_bipush (v := 40) hx hb dX12_hold_21 (by decide) ?_
        refine lv_icmp_ge (tgt := 49) hx hb dX12_hold_23 (by decide) (fun cn259 => ?_) (fun cn259 => ?_)
        · skip
          have bd260 : (40 : Int) ≤ zi194.toInt ∧ zi194.toInt ≤ 40 := r_le_y cn259 bc_40 bd198 (by decide) (by decide)
          refine lv_iconst (v := 1) hx hb dX12_hold_49 (by decide) ?_
          rw [hQ]
          exact kz_i hx hb hr hlocks hS (nz_n bc_1 (by decide) (by decide)) hp195 hw ⟨ok197, (Fr.tr (Fr.put (cq := 101000) (Fr.rf) eh15 kd13 (cd_a (by decide)) (by decide)) F196 (by decide)), (b_wid2 bc_1 (by decide) (by decide)), (by have := toi bc_0; have := toi bc_1; have := toi bc_2; omega), (fun _ => b_wid2 bd10 (by decide) (by decide))⟩ (Nat.le_of_ble_eq_true rfl) (Nat.le_of_ble_eq_true rfl) dX12_hold_50
        · skip
          have bd261 : (0 : Int) ≤ zi194.toInt ∧ zi194.toInt ≤ 39 := r_lt_x (Int32.not_le.mp cn259) bd198 bc_40 (by decide) (by decide)
          refine lv_aload_n hx hb dX12_hold_26 rfl (lv_at hl 0 rfl) ?_
          obtain ⟨qa263, eq262, kd264⟩ := rd_13068 ok197 kd900
          refine p_get (ci := 12) (v := .ref qa263) (C := RX12) (T := TX12) (N := 69) hx hb hT iw_X12 hown hK hw hW kd900 (by decide) rfl rfl 68 (by decide) eq262 (hT _ tb_1442) (fun _ h9 => h9) dX12_hold_27 ?_
          refine lv_bipush (v := 40) hx hb dX12_hold_30 (by decide) ?_
          refine lv_iload_n hx hb dX12_hold_32 rfl (lv_at hl 1 rfl) ?_
          refine lv_imul hx hb dX12_hold_33 (lv_topi (fun zi265 ea266 => ?_))
          have bd267 : (0 : Int) ≤ zi265.toInt ∧ zi265.toInt ≤ 80 := b_imul ea266 bc_40 bd10 (by decide) (by decide) (by decide) (by decide) (by decide)
          have qe268 : zi265.toInt = (40 : Int32).toInt * (zi901 : Int32).toInt := e_imul (b := 40) (d := 2) ea266 (b_wid2 bc_40 (by decide) (by decide)) (b_wid2 bd10 (by decide) (by decide)) (by decide)
          have qe269 : zi265.toInt = 40 * zi901.toInt := by have ha : (40 : Int32).toInt = 40 := (by decide); rw [ha] at qe268; exact qe268
          refine lv_iload_n hx hb dX12_hold_34 rfl (lv_at hl 2 rfl) ?_
          refine lv_iadd hx hb dX12_hold_35 (lv_topi (fun zi270 ea271 => ?_))
          have bd272 : (0 : Int) ≤ zi270.toInt ∧ zi270.toInt ≤ 119 := b_iadd ea271 bd267 bd261 (by decide) (by decide) (by decide) (by decide)
          have qe273 : zi270.toInt = zi265.toInt + zi194.toInt := e_iadd ea271 bd267 bd261 (by decide) (by decide)
          refine lv_aload_n hx hb dX12_hold_36 rfl (lv_at hl 0 rfl) ?_
          obtain ⟨qa275, eq274, kd276⟩ := rd_13049 ok197 kd900
          refine p_get (ci := 12) (v := .ref qa275) (C := RX12) (T := TX12) (N := 69) hx hb hT iw_X12 hown hK hw hW kd900 (by decide) rfl rfl 49 (by decide) eq274 (hT _ tb_1423) (fun _ h9 => h9) dX12_hold_37 ?_
          refine lv_iload_n hx hb dX12_hold_40 rfl (lv_at hl 2 rfl) ?_
          obtain ⟨zi278, eq277⟩ := rd_92000 ok197 kd276 ((zi194 : Int32).toNatClampNeg)
          refine p_iald (v := zi278) hx hb hK hw hW kd276 (by decide) rfl (hW.len kd276 (n := 40) rfl (by decide)) (vp_b bd261 (by decide) (by decide)) eq277 dX12_hold_41 ?_
          refine p_iast (x := zi278) hx hb hK hw hS hW kd264 (by decide) rfl (hW.len kd264 (n := 120) rfl (by decide)) (vp_b bd272 (by decide) (by decide)) dX12_hold_42 (fun hp279 eh280 H locs hw hS => ?_)
          have ok281 := wr_102000 ok197 kd264 eh280
          obtain ⟨zi282, ea283⟩ : ∃ z : Int32, z = zi194 + 1 := ⟨_, rfl⟩
          have bd284 : (1 : Int) ≤ zi282.toInt ∧ zi282.toInt ≤ 40 := b_iadd ea283 bd261 bc_1 (by decide) (by decide) (by decide) (by decide)
          have qe285 : zi282.toInt = (zi194 : Int32).toInt + (1 : Int32).toInt := e_iadd ea283 bd261 bc_1 (by decide) (by decide)
          have qe286 : zi282.toInt = zi194.toInt + 1 := by have ha : (1 : Int32).toInt = 1 := (by decide); rw [ha] at qe285; exact qe285
          refine lv_iinc (v := zi282) (lv' := [(2, .int zi282), (0, .ref qa900), (1, .int zi901)]) hx hb dX12_hold_43 hl (k := 2) rfl ea283.symm (by decide) rfl (fun ls hl => ?_)
          refine lv_goto (tgt := 20) hx hb dX12_hold_46 (by decide) ?_
          exact ih256 hp279 zi282 _ _ ls (by have := hm258; have := qe286; omega) ok281 (Fr.put (cq := 102000) (Fr.tr (Fr.rf) F196 (by decide)) eh280 kd264 (cd_a (by decide)) (by decide)) (b_wid2 bd284 (by decide) (by decide)) (lv_sub hl [1, 2, 0] rfl) hw hS
    exact lp257 _ hp14 0 _ _ ls (lp_in _) ok16 (Fr.rf) (b_wid2 bc_0 (by decide) (by decide)) (lv_sub hl [1, 2, 0] rfl) hw hS
