set_option maxRecDepth 100000 in
set_option maxHeartbeats 4000000 in
theorem cX11_looks_0 (l : Launch) (G : va_G) (cy : Nat → ClassId) (ev : Ew) (K ln : Nat → Nat) (Ls : List Nat) (hW : SW K ln Ls) (sz : Nat) (hp0 : Nat → Nat → Value) (ok0 : Ok K hp0) (qa900 : Nat) (zi901 : Int32) (kd900 : K qa900 = 12) : Met l yX11_looks (WS yX11_looks cX11_looks 2 (some .int)) { frames := 18, cells := 0, slots := 0, locals := 498 } (PB2 [.ref qa900, .int zi901] sz G cy ev (va_pl Ls (cellOf cy K ln hp0))) (QBi (S := (Nat → Nat → Value)) (fun (r : Int32) (u : (Nat → Nat → Value)) => Ok K u ∧ Fr [7003, 7004, 7005, 37000, 38000, 39000] K hp0 u) G (fun u => va_pl Ls (cellOf cy K ln u)) (va_A (va_pl Ls (cellOf cy K ln hp0)) sz)) 0 0 (va_A (va_pl Ls (cellOf cy K ln hp0)) sz) := by
  refine met_of2 (y := yX11_looks) (L := 2) (av := [.ref qa900, .int zi901]) (Qc := fun A => QBi (S := (Nat → Nat → Value)) (fun (r : Int32) (u : (Nat → Nat → Value)) => Ok K u ∧ Fr [7003, 7004, 7005, 37000, 38000, 39000] K hp0 u) G (fun u => va_pl Ls (cellOf cy K ln u)) A) (plainFor_of_name (by decide)) (Nat.le_of_ble_eq_true rfl) ?_
  intro p e s m below meth c hsz hx hb hr hml hown hT hlocks hin hK A hA hE hw hS ls hl
  have hw : PW G cy K ln Ls A hp0 s.heap := hw
  have hown : s.vm.findClass "LieClock" = some m.cls := hown
  have hl : lv_has ls 2 [(0, .ref qa900), (1, .int zi901)] := hl
  obtain ⟨Q, hQ⟩ : ∃ Q : State → Prop, Q = MQ below (QBi (S := (Nat → Nat → Value)) (fun (r : Int32) (u : (Nat → Nat → Value)) => Ok K u ∧ Fr [7003, 7004, 7005, 37000, 38000, 39000] K hp0 u) G (fun u => va_pl Ls (cellOf cy K ln u)) A) ([.ref qa900, .int zi901] : List Value).toArray s 0 0 A := ⟨_, rfl⟩
  rw [← hQ]
  refine lv_aload_n hx hb dX11_looks_0 rfl (lv_at hl 0 rfl) ?_
  obtain ⟨qa2, eq1, kd3⟩ := rd_12003 ok0 kd900
  refine p_get (ci := 11) (v := .ref qa2) (C := RX11) (T := TX11) (N := 17) hx hb hT iw_X11 hown hK hw hW kd900 (by decide) rfl rfl 3 (by decide) eq1 (hT _ tb_660) (fun _ h9 => h9) dX11_looks_1 ?_
  refine lv_iload_n hx hb dX11_looks_4 rfl (lv_at hl 1 rfl) ?_
  refine kq_i hw hS hA (va_runV (As := [.int zi901]) (rest := []) ⟨hx, hb, hml, hown, hT⟩ (cX10_hasWord_0 l G cy ev K ln Ls hW _ hp0 ok0 qa2 zi901 kd3) (cwV 1 hT (good_V tb_997 tb_994 tb_995 tb_996 tb_107) rfl rfl rfl (by decide +kernel) ⟨Nat.le_of_ble_eq_true rfl, Nat.le_of_ble_eq_true rfl⟩) (pool_preV (ci := 10) hK hE hS hA hw hW kd3 (by decide) rfl) rfl rfl hl.1 rfl (lv_room (Nat.le_of_ble_eq_true rfl)) dX11_looks_5 ⟨Nat.le_of_ble_eq_true rfl, Nat.le_of_ble_eq_true rfl⟩) (fun zi8 hp4 H locs hq7 hw hS => ?_)
  obtain ⟨ok5, F6, bd9, hc10⟩ := hq7
  obtain rfl : hp0 = hp4 := (Fr.nil F6).symm
  have hw : PW G cy K ln Ls A hp0 H := hw
  rcases b01 bd9 with cn11 | cn11
  · skip
    subst cn11
    refine lv_if_ne (tgt := 13) hx hb dX11_looks_8 (by decide) (fun c => absurd (d_eq bc_0 bc_0) c) (fun _ => ?_)
    refine lv_iconst (v := (-1)) hx hb dX11_looks_11 (by decide) ?_
    rw [hQ]
    exact kz_i hx hb hr hlocks hS rfl hp0 hw ⟨ok0, (Fr.rf)⟩ (Nat.le_of_ble_eq_true rfl) (Nat.le_of_ble_eq_true rfl) dX11_looks_12
  · skip
    subst cn11
    have bd12 : (0 : Int) ≤ zi901.toInt ∧ zi901.toInt ≤ 15 := b_meet (b_all zi901) (hc10 rfl) (by decide) (by decide)
    refine lv_if_ne (tgt := 13) hx hb dX11_looks_8 (by decide) (fun _ => ?_) (fun c => absurd c (d_ne bc_1 bc_0 (by decide)))
    refine lv_aload_n hx hb dX11_looks_13 rfl (lv_at hl 0 rfl) ?_
    obtain ⟨qa14, eq13, kd15⟩ := rd_12013 ok0 kd900
    refine p_get (ci := 11) (v := .ref qa14) (C := RX11) (T := TX11) (N := 17) hx hb hT iw_X11 hown hK hw hW kd900 (by decide) rfl rfl 13 (by decide) eq13 (hT _ tb_670) (fun _ h9 => h9) dX11_looks_14 ?_
    refine lv_aload_n hx hb dX11_looks_17 rfl (lv_at hl 0 rfl) ?_
    refine p_get (ci := 11) (v := .ref qa2) (C := RX11) (T := TX11) (N := 17) hx hb hT iw_X11 hown hK hw hW kd900 (by decide) rfl rfl 3 (by decide) eq1 (hT _ tb_660) (fun _ h9 => h9) dX11_looks_18 ?_
    refine lv_aload_n hx hb dX11_looks_21 rfl (lv_at hl 0 rfl) ?_
    obtain ⟨qa17, eq16, kd18⟩ := rd_12005 ok0 kd900
    refine p_get (ci := 11) (v := .ref qa17) (C := RX11) (T := TX11) (N := 17) hx hb hT iw_X11 hown hK hw hW kd900 (by decide) rfl rfl 5 (by decide) eq16 (hT _ tb_662) (fun _ h9 => h9) dX11_looks_22 ?_
    obtain ⟨zi20, eq19⟩ := rd_8003 ok0 kd18
    refine p_getN (ci := 7) (v := .int zi20) (C := RX7) (T := TX7) (N := 13) hx hb hT iw_X7 hown hK hw hW kd18 (by decide) rfl rfl 3 (by decide) eq19 (hK.fl nw_321) (fun _ h9 => h9) dX11_looks_25 ?_
    refine kq_v hw hS hA (va_runV (As := [.ref qa2, .int zi20]) (rest := []) ⟨hx, hb, hml, hown, hT⟩ (cX6_takeFacts_0 l G cy ev K ln Ls hW _ hp0 ok0 qa14 qa2 zi20 kd15 kd3) (cwV 2 hT (good_V tb_1289 tb_1286 tb_1287 tb_1288 tb_118) rfl rfl rfl (by decide +kernel) ⟨Nat.le_of_ble_eq_true rfl, Nat.le_of_ble_eq_true rfl⟩) (pool_preV (ci := 6) hK hE hS hA hw hW kd15 (by decide) rfl) rfl rfl hl.1 rfl (lv_room (Nat.le_of_ble_eq_true rfl)) dX11_looks_28 ⟨Nat.le_of_ble_eq_true rfl, Nat.le_of_ble_eq_true rfl⟩) (fun hp21 H locs hq24 hw hS => ?_)
    obtain ⟨ok22, F23⟩ := hq24
    have hw : PW G cy K ln Ls A hp21 H := hw
    refine lv_aload_n hx hb dX11_looks_31 rfl (lv_at hl 0 rfl) ?_
    have eq26 : hp21 qa900 13 = .ref qa14 := Eq.trans (Fr.at (cq := 12013) F23 kd900 (cd_o (by decide)) (by decide)) eq13
    refine p_get (ci := 11) (v := .ref qa14) (C := RX11) (T := TX11) (N := 17) hx hb hT iw_X11 hown hK hw hW kd900 (by decide) rfl rfl 13 (by decide) eq26 (hT _ tb_670) (fun _ h9 => h9) dX11_looks_32 ?_
    refine lv_aload_n hx hb dX11_looks_35 rfl (lv_at hl 0 rfl) ?_
    have eq27 : hp21 qa900 5 = .ref qa17 := Eq.trans (Fr.at (cq := 12005) F23 kd900 (cd_o (by decide)) (by decide)) eq16
    refine p_get (ci := 11) (v := .ref qa17) (C := RX11) (T := TX11) (N := 17) hx hb hT iw_X11 hown hK hw hW kd900 (by decide) rfl rfl 5 (by decide) eq27 (hT _ tb_662) (fun _ h9 => h9) dX11_looks_36 ?_
    obtain ⟨wl29, eq28⟩ := rd_8005 ok22 kd18
    refine p_getN (ci := 7) (v := .long wl29) (C := RX7) (T := TX7) (N := 13) hx hb hT iw_X7 hown hK hw hW kd18 (by decide) rfl rfl 5 (by decide) eq28 (hK.fl nw_326) (fun _ h9 => h9) dX11_looks_39 ?_
    refine lv_aload_n hx hb dX11_looks_42 rfl (lv_at hl 0 rfl) ?_
    have eq30 : hp21 qa900 3 = .ref qa2 := Eq.trans (Fr.at (cq := 12003) F23 kd900 (cd_o (by decide)) (by decide)) eq1
    refine p_get (ci := 11) (v := .ref qa2) (C := RX11) (T := TX11) (N := 17) hx hb hT iw_X11 hown hK hw hW kd900 (by decide) rfl rfl 3 (by decide) eq30 (hT _ tb_660) (fun _ h9 => h9) dX11_looks_43 ?_
    obtain ⟨qa32, eq31, kd33⟩ := rd_11014 ok22 kd3
    refine p_getN (ci := 10) (v := .ref qa32) (C := RX10) (T := TX10) (N := 20) hx hb hT iw_X10 hown hK hw hW kd3 (by decide) rfl rfl 14 (by decide) eq31 (hK.fl nw_128) (fun _ h9 => h9) dX11_looks_46 ?_
    refine lv_iload_n hx hb dX11_looks_49 rfl (lv_at hl 1 rfl) ?_
    obtain ⟨wl35, eq34⟩ := rd_52000 ok22 kd33 ((zi901 : Int32).toNatClampNeg)
    refine p_lald (v := wl35) hx hb hK hw hW kd33 (by decide) rfl (hW.len kd33 (n := 16) rfl (by decide)) (vp_b bd12 (by decide) (by decide)) eq34 dX11_looks_50 ?_
    refine lv_land hx hb dX11_looks_51 (lv_topl (fun wl36 _ => ?_))
    refine lv_ldc2 (v := (-1)) hx hb hown (hT _ tb_1264) dX11_looks_52 ?_
    refine lv_ldc2 (v := (-1)) hx hb hown (hT _ tb_1264) dX11_looks_55 ?_
    refine kq_i hw hS hA (va_runV (As := [.long wl36, .long (-1), .long (-1)]) (rest := []) ⟨hx, hb, hml, hown, hT⟩ (cX6_fewest_0 l G cy ev K ln Ls hW _ hp21 ok22 qa14 wl36 (-1) (-1) kd15) (cwV 3 hT (good_V tb_1268 tb_1265 tb_1266 tb_1267 tb_118) rfl rfl rfl (by decide +kernel) ⟨Nat.le_of_ble_eq_true rfl, Nat.le_of_ble_eq_true rfl⟩) (pool_preV (ci := 6) hK hE hS hA hw hW kd15 (by decide) rfl) rfl rfl hl.1 rfl (lv_room (Nat.le_of_ble_eq_true rfl)) dX11_looks_58 ⟨Nat.le_of_ble_eq_true rfl, Nat.le_of_ble_eq_true rfl⟩) (fun zi41 hp37 H locs hq40 hw hS => ?_)
    obtain ⟨ok38, F39⟩ := hq40
    have hw : PW G cy K ln Ls A hp37 H := hw
    rw [hQ]
    exact kz_i hx hb hr hlocks hS rfl hp37 hw ⟨ok38, (Fr.tr (Fr.tr (Fr.rf) F23 (by decide)) F39 (by decide))⟩ (Nat.le_of_ble_eq_true rfl) (Nat.le_of_ble_eq_true rfl) dX11_looks_61

set_option maxRecDepth 100000 in
set_option maxHeartbeats 4000000 in
theorem cX11_settled_0 (l : Launch) (G : va_G) (cy : Nat → ClassId) (ev : Ew) (K ln : Nat → Nat) (Ls : List Nat) (hW : SW K ln Ls) (sz : Nat) (hp0 : Nat → Nat → Value) (ok0 : Ok K hp0) (qa900 : Nat) (zi901 : Int32) (kd900 : K qa900 = 12) : Met l yX11_settled (WS yX11_settled cX11_settled 4 (some .int)) { frames := 18, cells := 0, slots := 0, locals := 498 } (PB2 [.ref qa900, .int zi901] sz G cy ev (va_pl Ls (cellOf cy K ln hp0))) (QBi (S := (Nat → Nat → Value)) (fun (r : Int32) (u : (Nat → Nat → Value)) => Ok K u ∧ Fr [7003, 7004, 7005, 37000, 38000, 39000] K hp0 u) G (fun u => va_pl Ls (cellOf cy K ln u)) (va_A (va_pl Ls (cellOf cy K ln hp0)) sz)) 0 0 (va_A (va_pl Ls (cellOf cy K ln hp0)) sz) := by
  refine met_of2 (y := yX11_settled) (L := 4) (av := [.ref qa900, .int zi901]) (Qc := fun A => QBi (S := (Nat → Nat → Value)) (fun (r : Int32) (u : (Nat → Nat → Value)) => Ok K u ∧ Fr [7003, 7004, 7005, 37000, 38000, 39000] K hp0 u) G (fun u => va_pl Ls (cellOf cy K ln u)) A) (plainFor_of_name (by decide)) (Nat.le_of_ble_eq_true rfl) ?_
  intro p e s m below meth c hsz hx hb hr hml hown hT hlocks hin hK A hA hE hw hS ls hl
  have hw : PW G cy K ln Ls A hp0 s.heap := hw
  have hown : s.vm.findClass "LieClock" = some m.cls := hown
  have hl : lv_has ls 4 [(0, .ref qa900), (1, .int zi901)] := hl
  obtain ⟨Q, hQ⟩ : ∃ Q : State → Prop, Q = MQ below (QBi (S := (Nat → Nat → Value)) (fun (r : Int32) (u : (Nat → Nat → Value)) => Ok K u ∧ Fr [7003, 7004, 7005, 37000, 38000, 39000] K hp0 u) G (fun u => va_pl Ls (cellOf cy K ln u)) A) ([.ref qa900, .int zi901] : List Value).toArray s 0 0 A := ⟨_, rfl⟩
  rw [← hQ]
  refine lv_aload_n hx hb dX11_settled_0 rfl (lv_at hl 0 rfl) ?_
  obtain ⟨qa2, eq1, kd3⟩ := rd_12003 ok0 kd900
  refine p_get (ci := 11) (v := .ref qa2) (C := RX11) (T := TX11) (N := 17) hx hb hT iw_X11 hown hK hw hW kd900 (by decide) rfl rfl 3 (by decide) eq1 (hT _ tb_660) (fun _ h9 => h9) dX11_settled_1 ?_
  refine lv_iload_n hx hb dX11_settled_4 rfl (lv_at hl 1 rfl) ?_
  refine kq_i hw hS hA (va_runV (As := [.int zi901]) (rest := []) ⟨hx, hb, hml, hown, hT⟩ (cX10_hasCase_0 l G cy ev K ln Ls hW _ hp0 ok0 qa2 zi901 kd3) (cwV 1 hT (good_V tb_1030 tb_1027 tb_1028 tb_1029 tb_107) rfl rfl rfl (by decide +kernel) ⟨Nat.le_of_ble_eq_true rfl, Nat.le_of_ble_eq_true rfl⟩) (pool_preV (ci := 10) hK hE hS hA hw hW kd3 (by decide) rfl) rfl rfl hl.1 rfl (lv_room (Nat.le_of_ble_eq_true rfl)) dX11_settled_5 ⟨Nat.le_of_ble_eq_true rfl, Nat.le_of_ble_eq_true rfl⟩) (fun zi8 hp4 H locs hq7 hw hS => ?_)
  obtain ⟨ok5, F6, bd9, hc10⟩ := hq7
  obtain rfl : hp0 = hp4 := (Fr.nil F6).symm
  have hw : PW G cy K ln Ls A hp0 H := hw
  rcases b01 bd9 with cn11 | cn11
  · skip
    subst cn11
    refine lv_if_ne (tgt := 13) hx hb dX11_settled_8 (by decide) (fun c => absurd (d_eq bc_0 bc_0) c) (fun _ => ?_)
    refine lv_iconst (v := (-1)) hx hb dX11_settled_11 (by decide) ?_
    rw [hQ]
    exact kz_i hx hb hr hlocks hS rfl hp0 hw ⟨ok0, (Fr.rf)⟩ (Nat.le_of_ble_eq_true rfl) (Nat.le_of_ble_eq_true rfl) dX11_settled_12
  · skip
    subst cn11
    have bd12 : (0 : Int) ≤ zi901.toInt ∧ zi901.toInt ≤ 7 := b_meet (b_all zi901) (hc10 rfl) (by decide) (by decide)
    refine lv_if_ne (tgt := 13) hx hb dX11_settled_8 (by decide) (fun _ => ?_) (fun c => absurd c (d_ne bc_1 bc_0 (by decide)))
    refine lv_aload_n hx hb dX11_settled_13 rfl (lv_at hl 0 rfl) ?_
    obtain ⟨qa14, eq13, kd15⟩ := rd_12013 ok0 kd900
    refine p_get (ci := 11) (v := .ref qa14) (C := RX11) (T := TX11) (N := 17) hx hb hT iw_X11 hown hK hw hW kd900 (by decide) rfl rfl 13 (by decide) eq13 (hT _ tb_670) (fun _ h9 => h9) dX11_settled_14 ?_
    refine lv_aload_n hx hb dX11_settled_17 rfl (lv_at hl 0 rfl) ?_
    refine p_get (ci := 11) (v := .ref qa2) (C := RX11) (T := TX11) (N := 17) hx hb hT iw_X11 hown hK hw hW kd900 (by decide) rfl rfl 3 (by decide) eq1 (hT _ tb_660) (fun _ h9 => h9) dX11_settled_18 ?_
    refine lv_aload_n hx hb dX11_settled_21 rfl (lv_at hl 0 rfl) ?_
    refine p_get (ci := 11) (v := .ref qa2) (C := RX11) (T := TX11) (N := 17) hx hb hT iw_X11 hown hK hw hW kd900 (by decide) rfl rfl 3 (by decide) eq1 (hT _ tb_660) (fun _ h9 => h9) dX11_settled_22 ?_
    obtain ⟨zi17, eq16⟩ := rd_11006 ok0 kd3
    refine p_getN (ci := 10) (v := .int zi17) (C := RX10) (T := TX10) (N := 20) hx hb hT iw_X10 hown hK hw hW kd3 (by decide) rfl rfl 6 (by decide) eq16 (hK.fl nw_107) (fun _ h9 => h9) dX11_settled_25 ?_
    refine kq_v hw hS hA (va_runV (As := [.ref qa2, .int zi17]) (rest := []) ⟨hx, hb, hml, hown, hT⟩ (cX6_takeWords_0 l G cy ev K ln Ls hW _ hp0 ok0 qa14 qa2 zi17 kd15 kd3) (cwV 2 hT (good_V tb_1259 tb_1256 tb_1257 tb_1258 tb_118) rfl rfl rfl (by decide +kernel) ⟨Nat.le_of_ble_eq_true rfl, Nat.le_of_ble_eq_true rfl⟩) (pool_preV (ci := 6) hK hE hS hA hw hW kd15 (by decide) rfl) rfl rfl hl.1 rfl (lv_room (Nat.le_of_ble_eq_true rfl)) dX11_settled_28 ⟨Nat.le_of_ble_eq_true rfl, Nat.le_of_ble_eq_true rfl⟩) (fun hp18 H locs hq21 hw hS => ?_)
    obtain ⟨ok19, F20⟩ := hq21
    have hw : PW G cy K ln Ls A hp18 H := hw
    refine lv_aload_n hx hb dX11_settled_31 rfl (lv_at hl 0 rfl) ?_
    have eq23 : hp18 qa900 3 = .ref qa2 := Eq.trans (Fr.at (cq := 12003) F20 kd900 (cd_o (by decide)) (by decide)) eq1
    refine p_get (ci := 11) (v := .ref qa2) (C := RX11) (T := TX11) (N := 17) hx hb hT iw_X11 hown hK hw hW kd900 (by decide) rfl rfl 3 (by decide) eq23 (hT _ tb_660) (fun _ h9 => h9) dX11_settled_32 ?_
    obtain ⟨qa25, eq24, kd26⟩ := rd_11017 ok19 kd3
    refine p_getN (ci := 10) (v := .ref qa25) (C := RX10) (T := TX10) (N := 20) hx hb hT iw_X10 hown hK hw hW kd3 (by decide) rfl rfl 17 (by decide) eq24 (hK.fl nw_136) (fun _ h9 => h9) dX11_settled_35 ?_
    refine lv_iload_n hx hb dX11_settled_38 rfl (lv_at hl 1 rfl) ?_
    obtain ⟨wl28, eq27⟩ := rd_55000 ok19 kd26 ((zi901 : Int32).toNatClampNeg)
    refine p_lald (v := wl28) hx hb hK hw hW kd26 (by decide) rfl (hW.len kd26 (n := 8) rfl (by decide)) (vp_b bd12 (by decide) (by decide)) eq27 dX11_settled_39 ?_
    refine lv_lstore_n (lv' := [(2, .long wl28), (0, .ref qa900), (1, .int zi901)]) hx hb dX11_settled_40 rfl hl (by decide) rfl (fun ls hl => ?_)
    refine lv_aload_n hx hb dX11_settled_41 rfl (lv_at hl 1 rfl) ?_
    have eq29 : hp18 qa900 13 = .ref qa14 := Eq.trans (Fr.at (cq := 12013) F20 kd900 (cd_o (by decide)) (by decide)) eq13
    refine p_get (ci := 11) (v := .ref qa14) (C := RX11) (T := TX11) (N := 17) hx hb hT iw_X11 hown hK hw hW kd900 (by decide) rfl rfl 13 (by decide) eq29 (hT _ tb_670) (fun _ h9 => h9) dX11_settled_42 ?_
    refine lv_aload_n hx hb dX11_settled_45 rfl (lv_at hl 1 rfl) ?_
    obtain ⟨qa31, eq30, kd32⟩ := rd_12005 ok19 kd900
    refine p_get (ci := 11) (v := .ref qa31) (C := RX11) (T := TX11) (N := 17) hx hb hT iw_X11 hown hK hw hW kd900 (by decide) rfl rfl 5 (by decide) eq30 (hT _ tb_662) (fun _ h9 => h9) dX11_settled_46 ?_
    obtain ⟨wl34, eq33⟩ := rd_8005 ok19 kd32
    refine p_getN (ci := 7) (v := .long wl34) (C := RX7) (T := TX7) (N := 13) hx hb hT iw_X7 hown hK hw hW kd32 (by decide) rfl rfl 5 (by decide) eq33 (hK.fl nw_326) (fun _ h9 => h9) dX11_settled_49 ?_
    refine lv_lload_n hx hb dX11_settled_52 rfl (lv_at hl 0 rfl) ?_
    refine lv_lload_n hx hb dX11_settled_53 rfl (lv_at hl 0 rfl) ?_
    refine lv_ldc2 (v := (-1)) hx hb hown (hT _ tb_1264) dX11_settled_54 ?_
    refine lv_lxor hx hb dX11_settled_57 (lv_topl (fun wl35 _ => ?_))
    refine kq_i hw hS hA (va_runV (As := [.long wl34, .long wl28, .long wl35]) (rest := []) ⟨hx, hb, hml, hown, hT⟩ (cX6_fewest_0 l G cy ev K ln Ls hW _ hp18 ok19 qa14 wl34 wl28 wl35 kd15) (cwV 3 hT (good_V tb_1268 tb_1265 tb_1266 tb_1267 tb_118) rfl rfl rfl (by decide +kernel) ⟨Nat.le_of_ble_eq_true rfl, Nat.le_of_ble_eq_true rfl⟩) (pool_preV (ci := 6) hK hE hS hA hw hW kd15 (by decide) rfl) rfl rfl hl.1 rfl (lv_room (Nat.le_of_ble_eq_true rfl)) dX11_settled_58 ⟨Nat.le_of_ble_eq_true rfl, Nat.le_of_ble_eq_true rfl⟩) (fun zi40 hp36 H locs hq39 hw hS => ?_)
    obtain ⟨ok37, F38⟩ := hq39
    have hw : PW G cy K ln Ls A hp36 H := hw
    rw [hQ]
    exact kz_i hx hb hr hlocks hS rfl hp36 hw ⟨ok37, (Fr.tr (Fr.tr (Fr.rf) F20 (by decide)) F38 (by decide))⟩ (Nat.le_of_ble_eq_true rfl) (Nat.le_of_ble_eq_true rfl) dX11_settled_61

set_option maxRecDepth 100000 in
set_option maxHeartbeats 4000000 in
theorem cX11_write_0 (l : Launch) (G : va_G) (cy : Nat → ClassId) (ev : Ew) (K ln : Nat → Nat) (Ls : List Nat) (hW : SW K ln Ls) (sz : Nat) (hp0 : Nat → Nat → Value) (ok0 : Ok K hp0) (qa900 : Nat) (zi901 : Int32) (kd900 : K qa900 = 12) : Met l yX11_write (WS yX11_write cX11_write 2 (some .int)) { frames := 1, cells := 0, slots := 0, locals := 21 } (PB2 [.ref qa900, .int zi901] sz G cy ev (va_pl Ls (cellOf cy K ln hp0))) (QBi (S := (Nat → Nat → Value)) (fun (r : Int32) (u : (Nat → Nat → Value)) => Ok K u ∧ Fr [2003, 21000] K hp0 u ∧ ((-1 : Int) ≤ r.toInt ∧ r.toInt ≤ 4)) G (fun u => va_pl Ls (cellOf cy K ln u)) (va_A (va_pl Ls (cellOf cy K ln hp0)) sz)) 0 0 (va_A (va_pl Ls (cellOf cy K ln hp0)) sz) := by
  refine met_of2 (y := yX11_write) (L := 2) (av := [.ref qa900, .int zi901]) (Qc := fun A => QBi (S := (Nat → Nat → Value)) (fun (r : Int32) (u : (Nat → Nat → Value)) => Ok K u ∧ Fr [2003, 21000] K hp0 u ∧ ((-1 : Int) ≤ r.toInt ∧ r.toInt ≤ 4)) G (fun u => va_pl Ls (cellOf cy K ln u)) A) (plainFor_of_name (by decide)) (Nat.le_of_ble_eq_true rfl) ?_
  intro p e s m below meth c hsz hx hb hr hml hown hT hlocks hin hK A hA hE hw hS ls hl
  have hw : PW G cy K ln Ls A hp0 s.heap := hw
  have hown : s.vm.findClass "LieClock" = some m.cls := hown
  have hl : lv_has ls 2 [(0, .ref qa900), (1, .int zi901)] := hl
  obtain ⟨Q, hQ⟩ : ∃ Q : State → Prop, Q = MQ below (QBi (S := (Nat → Nat → Value)) (fun (r : Int32) (u : (Nat → Nat → Value)) => Ok K u ∧ Fr [2003, 21000] K hp0 u ∧ ((-1 : Int) ≤ r.toInt ∧ r.toInt ≤ 4)) G (fun u => va_pl Ls (cellOf cy K ln u)) A) ([.ref qa900, .int zi901] : List Value).toArray s 0 0 A := ⟨_, rfl⟩
  rw [← hQ]
  refine lv_iload_n hx hb dX11_write_0 rfl (lv_at hl 1 rfl) ?_
  refine lv_ldcw (v := (-100000)) hx hb hown (hT _ tb_1299) dX11_write_1 ?_
  refine lv_icmp_lt (tgt := 14) hx hb dX11_write_4 (by decide) (fun cn1 => ?_) (fun cn1 => ?_)
  · skip
    have bd2 : (-2147483648 : Int) ≤ zi901.toInt ∧ zi901.toInt ≤ -100001 := r_lt_x cn1 (b_all zi901) bc_m100000 (by decide) (by decide)
    refine lv_iconst (v := (-1)) hx hb dX11_write_14 (by decide) ?_
    rw [hQ]
    exact kz_i hx hb hr hlocks hS rfl hp0 hw ⟨ok0, (Fr.rf), (b_wid2 bc_m1 (by decide) (by decide))⟩ (Nat.le_of_ble_eq_true rfl) (Nat.le_of_ble_eq_true rfl) dX11_write_15
  · skip
    have bd3 : (-100000 : Int) ≤ zi901.toInt ∧ zi901.toInt ≤ 2147483647 := r_le_y (Int32.not_lt.mp cn1) bc_m100000 (b_all zi901) (by decide) (by decide)
    refine lv_iload_n hx hb dX11_write_7 rfl (lv_at hl 1 rfl) ?_
    refine lv_ldcw (v := 100000) hx hb hown (hT _ tb_1300) dX11_write_8 ?_
    refine lv_icmp_le (tgt := 16) hx hb dX11_write_11 (by decide) (fun cn4 => ?_) (fun cn4 => ?_)
    · skip
      have bd5 : (-100000 : Int) ≤ zi901.toInt ∧ zi901.toInt ≤ 100000 := r_le_x cn4 bd3 bc_100000 (by decide) (by decide)
      refine lv_aload_n hx hb dX11_write_16 rfl (lv_at hl 0 rfl) ?_
      obtain ⟨qa7, eq6, kd8⟩ := rd_12016 ok0 kd900
      refine p_get (ci := 11) (v := .ref qa7) (C := RX11) (T := TX11) (N := 17) hx hb hT iw_X11 hown hK hw hW kd900 (by decide) rfl rfl 16 (by decide) eq6 (hT _ tb_673) (fun _ h9 => h9) dX11_write_17 ?_
      refine lv_iload_n hx hb dX11_write_20 rfl (lv_at hl 1 rfl) ?_
      refine kq_i hw hS hA (va_runV (As := [.int zi901]) (rest := []) ⟨hx, hb, hml, hown, hT⟩ (cX1_add_0 l G cy ev K ln Ls hW _ hp0 ok0 qa7 zi901 kd8) (cwV 1 hT (good_V tb_1304 tb_1301 tb_1302 tb_1303 tb_121) rfl rfl rfl (by decide +kernel) ⟨Nat.le_of_ble_eq_true rfl, Nat.le_of_ble_eq_true rfl⟩) (pool_preV (ci := 1) hK hE hS hA hw hW kd8 (by decide) rfl) rfl rfl hl.1 rfl (lv_room (Nat.le_of_ble_eq_true rfl)) dX11_write_21 ⟨Nat.le_of_ble_eq_true rfl, Nat.le_of_ble_eq_true rfl⟩) (fun zi13 hp9 H locs hq12 hw hS => ?_)
      obtain ⟨ok10, F11, bd14⟩ := hq12
      have hw : PW G cy K ln Ls A hp9 H := hw
      rw [hQ]
      exact kz_i hx hb hr hlocks hS rfl hp9 hw ⟨ok10, (Fr.tr (Fr.rf) F11 (by decide)), (b_wid2 bd14 (by decide) (by decide))⟩ (Nat.le_of_ble_eq_true rfl) (Nat.le_of_ble_eq_true rfl) dX11_write_24
    · skip
      have bd15 : (100001 : Int) ≤ zi901.toInt ∧ zi901.toInt ≤ 2147483647 := r_lt_y (Int32.not_le.mp cn4) bc_100000 bd3 (by decide) (by decide)
      refine lv_iconst (v := (-1)) hx hb dX11_write_14 (by decide) ?_
      rw [hQ]
      exact kz_i hx hb hr hlocks hS rfl hp0 hw ⟨ok0, (Fr.rf), (b_wid2 bc_m1 (by decide) (by decide))⟩ (Nat.le_of_ble_eq_true rfl) (Nat.le_of_ble_eq_true rfl) dX11_write_15

set_option maxRecDepth 100000 in
set_option maxHeartbeats 4000000 in
theorem cX11_burn_0 (l : Launch) (G : va_G) (cy : Nat → ClassId) (ev : Ew) (K ln : Nat → Nat) (Ls : List Nat) (hW : SW K ln Ls) (sz : Nat) (hp0 : Nat → Nat → Value) (ok0 : Ok K hp0) (qa900 : Nat) (kd900 : K qa900 = 12) : Met l yX11_burn (WS yX11_burn cX11_burn 2 (some .int)) { frames := 1, cells := 0, slots := 0, locals := 21 } (PB2 [.ref qa900] sz G cy ev (va_pl Ls (cellOf cy K ln hp0))) (QBi (S := (Nat → Nat → Value)) (fun (r : Int32) (u : (Nat → Nat → Value)) => Ok K u ∧ Fr [2003, 22000] K hp0 u ∧ ((0 : Int) ≤ r.toInt ∧ r.toInt ≤ 5)) G (fun u => va_pl Ls (cellOf cy K ln u)) (va_A (va_pl Ls (cellOf cy K ln hp0)) sz)) 0 0 (va_A (va_pl Ls (cellOf cy K ln hp0)) sz) := by
  refine met_of2 (y := yX11_burn) (L := 2) (av := [.ref qa900]) (Qc := fun A => QBi (S := (Nat → Nat → Value)) (fun (r : Int32) (u : (Nat → Nat → Value)) => Ok K u ∧ Fr [2003, 22000] K hp0 u ∧ ((0 : Int) ≤ r.toInt ∧ r.toInt ≤ 5)) G (fun u => va_pl Ls (cellOf cy K ln u)) A) (plainFor_of_name (by decide)) (Nat.le_of_ble_eq_true rfl) ?_
  intro p e s m below meth c hsz hx hb hr hml hown hT hlocks hin hK A hA hE hw hS ls hl
  have hw : PW G cy K ln Ls A hp0 s.heap := hw
  have hown : s.vm.findClass "LieClock" = some m.cls := hown
  have hl : lv_has ls 2 [(0, .ref qa900)] := hl
  obtain ⟨Q, hQ⟩ : ∃ Q : State → Prop, Q = MQ below (QBi (S := (Nat → Nat → Value)) (fun (r : Int32) (u : (Nat → Nat → Value)) => Ok K u ∧ Fr [2003, 22000] K hp0 u ∧ ((0 : Int) ≤ r.toInt ∧ r.toInt ≤ 5)) G (fun u => va_pl Ls (cellOf cy K ln u)) A) ([.ref qa900] : List Value).toArray s 0 0 A := ⟨_, rfl⟩
  rw [← hQ]
  refine lv_aload_n hx hb dX11_burn_0 rfl (lv_at hl 0 rfl) ?_
  obtain ⟨qa2, eq1, kd3⟩ := rd_12016 ok0 kd900
  refine p_get (ci := 11) (v := .ref qa2) (C := RX11) (T := TX11) (N := 17) hx hb hT iw_X11 hown hK hw hW kd900 (by decide) rfl rfl 16 (by decide) eq1 (hT _ tb_673) (fun _ h9 => h9) dX11_burn_1 ?_
  obtain ⟨zi5, eq4, bd6⟩ := rd_2003 ok0 kd3
  refine p_getN (ci := 1) (v := .int zi5) (C := RX1) (T := TX1) (N := 8) hx hb hT iw_X1 hown hK hw hW kd3 (by decide) rfl rfl 3 (by decide) eq4 (hK.fl nw_528) (fun _ h9 => h9) dX11_burn_4 ?_
  refine lv_istore_n (lv' := [(1, .int zi5), (0, .ref qa900)]) hx hb dX11_burn_7 rfl hl (by decide) rfl (fun ls hl => ?_)
  refine lv_aload_n hx hb dX11_burn_8 rfl (lv_at hl 1 rfl) ?_
  refine p_get (ci := 11) (v := .ref qa2) (C := RX11) (T := TX11) (N := 17) hx hb hT iw_X11 hown hK hw hW kd900 (by decide) rfl rfl 16 (by decide) eq1 (hT _ tb_673) (fun _ h9 => h9) dX11_burn_9 ?_
  refine kq_v hw hS hA (va_runV (As := []) (rest := []) ⟨hx, hb, hml, hown, hT⟩ (cX1_clear_0 l G cy ev K ln Ls hW _ hp0 ok0 qa2 kd3) (cwV 0 hT (good_V tb_973 tb_970 tb_971 tb_972 tb_121) rfl rfl rfl (by decide +kernel) ⟨Nat.le_of_ble_eq_true rfl, Nat.le_of_ble_eq_true rfl⟩) (pool_preV (ci := 1) hK hE hS hA hw hW kd3 (by decide) rfl) rfl rfl hl.1 rfl (lv_room (Nat.le_of_ble_eq_true rfl)) dX11_burn_12 ⟨Nat.le_of_ble_eq_true rfl, Nat.le_of_ble_eq_true rfl⟩) (fun hp7 H locs hq10 hw hS => ?_)
  obtain ⟨ok8, F9⟩ := hq10
  have hw : PW G cy K ln Ls A hp7 H := hw
  refine lv_iload_n hx hb dX11_burn_15 rfl (lv_at hl 0 rfl) ?_
  rw [hQ]
  exact kz_i hx hb hr hlocks hS rfl hp7 hw ⟨ok8, (Fr.tr (Fr.rf) F9 (by decide)), (b_wid2 bd6 (by decide) (by decide))⟩ (Nat.le_of_ble_eq_true rfl) (Nat.le_of_ble_eq_true rfl) dX11_burn_16

set_option maxRecDepth 100000 in
set_option maxHeartbeats 4000000 in
theorem cX11_hold_0 (l : Launch) (G : va_G) (cy : Nat → ClassId) (ev : Ew) (K ln : Nat → Nat) (Ls : List Nat) (hW : SW K ln Ls) (sz : Nat) (hp0 : Nat → Nat → Value) (ok0 : Ok K hp0) (qa900 : Nat) (zi901 : Int32) (kd900 : K qa900 = 12) : Met l yX11_hold (WS yX11_hold cX11_hold 2 (some .boolean)) { frames := 2, cells := 0, slots := 0, locals := 61 } (PB2 [.ref qa900, .int zi901] sz G cy ev (va_pl Ls (cellOf cy K ln hp0))) (QBi (S := (Nat → Nat → Value)) (fun (r : Int32) (u : (Nat → Nat → Value)) => Ok K u ∧ Fr [8000, 8001, 8002, 8003, 8004, 8005, 9001, 40000, 41000, 42000, 43000, 59000] K hp0 u ∧ ((0 : Int) ≤ r.toInt ∧ r.toInt ≤ 1) ∧ (r = 1 → ((0 : Int) ≤ zi901.toInt ∧ zi901.toInt ≤ 2))) G (fun u => va_pl Ls (cellOf cy K ln u)) (va_A (va_pl Ls (cellOf cy K ln hp0)) sz)) 0 0 (va_A (va_pl Ls (cellOf cy K ln hp0)) sz) := by
  refine met_of2 (y := yX11_hold) (L := 2) (av := [.ref qa900, .int zi901]) (Qc := fun A => QBi (S := (Nat → Nat → Value)) (fun (r : Int32) (u : (Nat → Nat → Value)) => Ok K u ∧ Fr [8000, 8001, 8002, 8003, 8004, 8005, 9001, 40000, 41000, 42000, 43000, 59000] K hp0 u ∧ ((0 : Int) ≤ r.toInt ∧ r.toInt ≤ 1) ∧ (r = 1 → ((0 : Int) ≤ zi901.toInt ∧ zi901.toInt ≤ 2))) G (fun u => va_pl Ls (cellOf cy K ln u)) A) (plainFor_of_name (by decide)) (Nat.le_of_ble_eq_true rfl) ?_
  intro p e s m below meth c hsz hx hb hr hml hown hT hlocks hin hK A hA hE hw hS ls hl
  have hw : PW G cy K ln Ls A hp0 s.heap := hw
  have hown : s.vm.findClass "LieClock" = some m.cls := hown
  have hl : lv_has ls 2 [(0, .ref qa900), (1, .int zi901)] := hl
  obtain ⟨Q, hQ⟩ : ∃ Q : State → Prop, Q = MQ below (QBi (S := (Nat → Nat → Value)) (fun (r : Int32) (u : (Nat → Nat → Value)) => Ok K u ∧ Fr [8000, 8001, 8002, 8003, 8004, 8005, 9001, 40000, 41000, 42000, 43000, 59000] K hp0 u ∧ ((0 : Int) ≤ r.toInt ∧ r.toInt ≤ 1) ∧ (r = 1 → ((0 : Int) ≤ zi901.toInt ∧ zi901.toInt ≤ 2))) G (fun u => va_pl Ls (cellOf cy K ln u)) A) ([.ref qa900, .int zi901] : List Value).toArray s 0 0 A := ⟨_, rfl⟩
  rw [← hQ]
  refine lv_iload_n hx hb dX11_hold_0 rfl (lv_at hl 1 rfl) ?_
  refine lv_if_lt (tgt := 9) hx hb dX11_hold_1 (by decide) (fun cn1 => ?_) (fun cn1 => ?_)
  · skip
    have bd2 : (-2147483648 : Int) ≤ zi901.toInt ∧ zi901.toInt ≤ -1 := r_lt_x cn1 (b_all zi901) bc_0 (by decide) (by decide)
    refine lv_iconst (v := 0) hx hb dX11_hold_9 (by decide) ?_
    rw [hQ]
    exact kz_i hx hb hr hlocks hS (nz_n bc_0 (by decide) (by decide)) hp0 hw ⟨ok0, (Fr.rf), (b_wid2 bc_0 (by decide) (by decide)), (fun h => absurd h (by decide))⟩ (Nat.le_of_ble_eq_true rfl) (Nat.le_of_ble_eq_true rfl) dX11_hold_10
  · skip
    have bd3 : (0 : Int) ≤ zi901.toInt ∧ zi901.toInt ≤ 2147483647 := r_le_y (Int32.not_lt.mp cn1) bc_0 (b_all zi901) (by decide) (by decide)
    refine lv_iload_n hx hb dX11_hold_4 rfl (lv_at hl 1 rfl) ?_
    refine lv_iconst (v := 3) hx hb dX11_hold_5 (by decide) ?_
    refine lv_icmp_lt (tgt := 11) hx hb dX11_hold_6 (by decide) (fun cn4 => ?_) (fun cn4 => ?_)
    · skip
      have bd5 : (0 : Int) ≤ zi901.toInt ∧ zi901.toInt ≤ 2 := r_lt_x cn4 bd3 bc_3 (by decide) (by decide)
      refine lv_aload_n hx hb dX11_hold_11 rfl (lv_at hl 0 rfl) ?_
      obtain ⟨qa7, eq6, kd8⟩ := rd_12010 ok0 kd900
      refine p_get (ci := 11) (v := .ref qa7) (C := RX11) (T := TX11) (N := 17) hx hb hT iw_X11 hown hK hw hW kd900 (by decide) rfl rfl 10 (by decide) eq6 (hT _ tb_667) (fun _ h9 => h9) dX11_hold_12 ?_
      refine lv_iload_n hx hb dX11_hold_15 rfl (lv_at hl 1 rfl) ?_
      obtain ⟨qa10, eq9, kd11⟩ := rd_57000 ok0 kd8 ((zi901 : Int32).toNatClampNeg)
      refine p_aald (v := qa10) hx hb hK hw hW kd8 (by decide) rfl (by decide) (by decide) rfl (hW.len kd8 (n := 3) rfl (by decide)) (vp_b bd5 (by decide) (by decide)) eq9 dX11_hold_16 ?_
      refine lv_aload_n hx hb dX11_hold_17 rfl (lv_at hl 0 rfl) ?_
      obtain ⟨qa13, eq12, kd14⟩ := rd_12005 ok0 kd900
      refine p_get (ci := 11) (v := .ref qa13) (C := RX11) (T := TX11) (N := 17) hx hb hT iw_X11 hown hK hw hW kd900 (by decide) rfl rfl 5 (by decide) eq12 (hT _ tb_662) (fun _ h9 => h9) dX11_hold_18 ?_
      refine kq_v hw hS hA (va_runV (As := [.ref qa13]) (rest := []) ⟨hx, hb, hml, hown, hT⟩ (cX7_copyFrom_0 l G cy ev K ln Ls hW _ hp0 ok0 qa10 qa13 kd11 kd14) (cwV 1 hT (good_V tb_1047 tb_1044 tb_1045 tb_1046 tb_115) rfl rfl rfl (by decide +kernel) ⟨Nat.le_of_ble_eq_true rfl, Nat.le_of_ble_eq_true rfl⟩) (pool_preV (ci := 7) hK hE hS hA hw hW kd11 (by decide) rfl) rfl rfl hl.1 rfl (lv_room (Nat.le_of_ble_eq_true rfl)) dX11_hold_21 ⟨Nat.le_of_ble_eq_true rfl, Nat.le_of_ble_eq_true rfl⟩) (fun hp15 H locs hq18 hw hS => ?_)
      obtain ⟨ok16, F17⟩ := hq18
      have hw : PW G cy K ln Ls A hp15 H := hw
      refine lv_aload_n hx hb dX11_hold_24 rfl (lv_at hl 0 rfl) ?_
      obtain ⟨qa21, eq20, kd22⟩ := rd_12011 ok16 kd900
      refine p_get (ci := 11) (v := .ref qa21) (C := RX11) (T := TX11) (N := 17) hx hb hT iw_X11 hown hK hw hW kd900 (by decide) rfl rfl 11 (by decide) eq20 (hT _ tb_668) (fun _ h9 => h9) dX11_hold_25 ?_
      refine lv_iload_n hx hb dX11_hold_28 rfl (lv_at hl 1 rfl) ?_
      obtain ⟨qa24, eq23, kd25⟩ := rd_58000 ok16 kd22 ((zi901 : Int32).toNatClampNeg)
      refine p_aald (v := qa24) hx hb hK hw hW kd22 (by decide) rfl (by decide) (by decide) rfl (hW.len kd22 (n := 3) rfl (by decide)) (vp_b bd5 (by decide) (by decide)) eq23 dX11_hold_29 ?_
      refine lv_aload_n hx hb dX11_hold_30 rfl (lv_at hl 0 rfl) ?_
      obtain ⟨qa27, eq26, kd28⟩ := rd_12000 ok16 kd900
      refine p_get (ci := 11) (v := .ref qa27) (C := RX11) (T := TX11) (N := 17) hx hb hT iw_X11 hown hK hw hW kd900 (by decide) rfl rfl 0 (by decide) eq26 (hT _ tb_657) (fun _ h9 => h9) dX11_hold_31 ?_
      refine kq_v hw hS hA (va_runV (As := [.ref qa27]) (rest := []) ⟨hx, hb, hml, hown, hT⟩ (cX8_copyFrom_0 l G cy ev K ln Ls hW _ hp15 ok16 qa24 qa27 kd25 kd28) (cwV 1 hT (good_V tb_1347 tb_1344 tb_1345 tb_1346 tb_106) rfl rfl rfl (by decide +kernel) ⟨Nat.le_of_ble_eq_true rfl, Nat.le_of_ble_eq_true rfl⟩) (pool_preV (ci := 8) hK hE hS hA hw hW kd25 (by decide) rfl) rfl rfl hl.1 rfl (lv_room (Nat.le_of_ble_eq_true rfl)) dX11_hold_34 ⟨Nat.le_of_ble_eq_true rfl, Nat.le_of_ble_eq_true rfl⟩) (fun hp29 H locs hq32 hw hS => ?_)
      obtain ⟨ok30, F31⟩ := hq32
      have hw : PW G cy K ln Ls A hp29 H := hw
      refine lv_aload_n hx hb dX11_hold_37 rfl (lv_at hl 0 rfl) ?_
      obtain ⟨qa35, eq34, kd36⟩ := rd_12012 ok30 kd900
      refine p_get (ci := 11) (v := .ref qa35) (C := RX11) (T := TX11) (N := 17) hx hb hT iw_X11 hown hK hw hW kd900 (by decide) rfl rfl 12 (by decide) eq34 (hT _ tb_669) (fun _ h9 => h9) dX11_hold_38 ?_
      refine lv_iload_n hx hb dX11_hold_41 rfl (lv_at hl 1 rfl) ?_
      refine lv_iconst (v := 1) hx hb dX11_hold_42 (by decide) ?_
      refine p_zast (x := 1) hx hb hK hw hS hW kd36 (by decide) rfl (hW.len kd36 (n := 3) rfl (by decide)) (vp_b bd5 (by decide) (by decide)) dX11_hold_43 (fun hp37 eh38 H locs hw hS => ?_)
      have ok39 := wr_59000 (nar_z 1) (by decide) (by decide) ok30 kd36 eh38
      refine lv_iconst (v := 1) hx hb dX11_hold_44 (by decide) ?_
      rw [hQ]
      exact kz_i hx hb hr hlocks hS (nz_n bc_1 (by decide) (by decide)) hp37 hw ⟨ok39, (Fr.put (cq := 59000) (Fr.tr (Fr.tr (Fr.rf) F17 (by decide)) F31 (by decide)) eh38 kd36 (cd_a (by decide)) (by decide)), (b_wid2 bc_1 (by decide) (by decide)), (fun _ => b_wid2 bd5 (by decide) (by decide))⟩ (Nat.le_of_ble_eq_true rfl) (Nat.le_of_ble_eq_true rfl) dX11_hold_45
    · skip
      have bd40 : (3 : Int) ≤ zi901.toInt ∧ zi901.toInt ≤ 2147483647 := r_le_y (Int32.not_lt.mp cn4) bc_3 bd3 (by decide) (by decide)
      refine lv_iconst (v := 0) hx hb dX11_hold_9 (by decide) ?_
      rw [hQ]
      exact kz_i hx hb hr hlocks hS (nz_n bc_0 (by decide) (by decide)) hp0 hw ⟨ok0, (Fr.rf), (b_wid2 bc_0 (by decide) (by decide)), (fun h => absurd h (by decide))⟩ (Nat.le_of_ble_eq_true rfl) (Nat.le_of_ble_eq_true rfl) dX11_hold_10

set_option maxRecDepth 100000 in
set_option maxHeartbeats 4000000 in
theorem cX11_restore_0 (l : Launch) (G : va_G) (cy : Nat → ClassId) (ev : Ew) (K ln : Nat → Nat) (Ls : List Nat) (hW : SW K ln Ls) (sz : Nat) (hp0 : Nat → Nat → Value) (ok0 : Ok K hp0) (qa900 : Nat) (zi901 : Int32) (kd900 : K qa900 = 12) : Met l yX11_restore (WS yX11_restore cX11_restore 2 (some .boolean)) { frames := 2, cells := 0, slots := 0, locals := 61 } (PB2 [.ref qa900, .int zi901] sz G cy ev (va_pl Ls (cellOf cy K ln hp0))) (QBi (S := (Nat → Nat → Value)) (fun (r : Int32) (u : (Nat → Nat → Value)) => Ok K u ∧ Fr [1005, 5005, 8000, 8001, 8002, 8003, 8004, 8005, 9001, 12008, 40000, 41000, 42000, 43000] K hp0 u ∧ ((0 : Int) ≤ r.toInt ∧ r.toInt ≤ 1) ∧ (r = 1 → ((0 : Int) ≤ zi901.toInt ∧ zi901.toInt ≤ 2))) G (fun u => va_pl Ls (cellOf cy K ln u)) (va_A (va_pl Ls (cellOf cy K ln hp0)) sz)) 0 0 (va_A (va_pl Ls (cellOf cy K ln hp0)) sz) := by
  refine met_of2 (y := yX11_restore) (L := 2) (av := [.ref qa900, .int zi901]) (Qc := fun A => QBi (S := (Nat → Nat → Value)) (fun (r : Int32) (u : (Nat → Nat → Value)) => Ok K u ∧ Fr [1005, 5005, 8000, 8001, 8002, 8003, 8004, 8005, 9001, 12008, 40000, 41000, 42000, 43000] K hp0 u ∧ ((0 : Int) ≤ r.toInt ∧ r.toInt ≤ 1) ∧ (r = 1 → ((0 : Int) ≤ zi901.toInt ∧ zi901.toInt ≤ 2))) G (fun u => va_pl Ls (cellOf cy K ln u)) A) (plainFor_of_name (by decide)) (Nat.le_of_ble_eq_true rfl) ?_
  intro p e s m below meth c hsz hx hb hr hml hown hT hlocks hin hK A hA hE hw hS ls hl
  have hw : PW G cy K ln Ls A hp0 s.heap := hw
  have hown : s.vm.findClass "LieClock" = some m.cls := hown
  have hl : lv_has ls 2 [(0, .ref qa900), (1, .int zi901)] := hl
  obtain ⟨Q, hQ⟩ : ∃ Q : State → Prop, Q = MQ below (QBi (S := (Nat → Nat → Value)) (fun (r : Int32) (u : (Nat → Nat → Value)) => Ok K u ∧ Fr [1005, 5005, 8000, 8001, 8002, 8003, 8004, 8005, 9001, 12008, 40000, 41000, 42000, 43000] K hp0 u ∧ ((0 : Int) ≤ r.toInt ∧ r.toInt ≤ 1) ∧ (r = 1 → ((0 : Int) ≤ zi901.toInt ∧ zi901.toInt ≤ 2))) G (fun u => va_pl Ls (cellOf cy K ln u)) A) ([.ref qa900, .int zi901] : List Value).toArray s 0 0 A := ⟨_, rfl⟩
  rw [← hQ]
  refine lv_iload_n hx hb dX11_restore_0 rfl (lv_at hl 1 rfl) ?_
  refine lv_if_lt (tgt := 18) hx hb dX11_restore_1 (by decide) (fun cn1 => ?_) (fun cn1 => ?_)
  · skip
    have bd2 : (-2147483648 : Int) ≤ zi901.toInt ∧ zi901.toInt ≤ -1 := r_lt_x cn1 (b_all zi901) bc_0 (by decide) (by decide)
    refine lv_iconst (v := 0) hx hb dX11_restore_18 (by decide) ?_
    rw [hQ]
    exact kz_i hx hb hr hlocks hS (nz_n bc_0 (by decide) (by decide)) hp0 hw ⟨ok0, (Fr.rf), (b_wid2 bc_0 (by decide) (by decide)), (fun h => absurd h (by decide))⟩ (Nat.le_of_ble_eq_true rfl) (Nat.le_of_ble_eq_true rfl) dX11_restore_19
  · skip
    have bd3 : (0 : Int) ≤ zi901.toInt ∧ zi901.toInt ≤ 2147483647 := r_le_y (Int32.not_lt.mp cn1) bc_0 (b_all zi901) (by decide) (by decide)
    refine lv_iload_n hx hb dX11_restore_4 rfl (lv_at hl 1 rfl) ?_
    refine lv_iconst (v := 3) hx hb dX11_restore_5 (by decide) ?_
    refine lv_icmp_ge (tgt := 18) hx hb dX11_restore_6 (by decide) (fun cn4 => ?_) (fun cn4 => ?_)
    · skip
      have bd5 : (3 : Int) ≤ zi901.toInt ∧ zi901.toInt ≤ 2147483647 := r_le_y cn4 bc_3 bd3 (by decide) (by decide)
      refine lv_iconst (v := 0) hx hb dX11_restore_18 (by decide) ?_
      rw [hQ]
      exact kz_i hx hb hr hlocks hS (nz_n bc_0 (by decide) (by decide)) hp0 hw ⟨ok0, (Fr.rf), (b_wid2 bc_0 (by decide) (by decide)), (fun h => absurd h (by decide))⟩ (Nat.le_of_ble_eq_true rfl) (Nat.le_of_ble_eq_true rfl) dX11_restore_19
    · skip
      have bd6 : (0 : Int) ≤ zi901.toInt ∧ zi901.toInt ≤ 2 := r_lt_x (Int32.not_le.mp cn4) bd3 bc_3 (by decide) (by decide)
      refine lv_aload_n hx hb dX11_restore_9 rfl (lv_at hl 0 rfl) ?_
      obtain ⟨qa8, eq7, kd9⟩ := rd_12012 ok0 kd900
      refine p_get (ci := 11) (v := .ref qa8) (C := RX11) (T := TX11) (N := 17) hx hb hT iw_X11 hown hK hw hW kd900 (by decide) rfl rfl 12 (by decide) eq7 (hT _ tb_669) (fun _ h9 => h9) dX11_restore_10 ?_
      refine lv_iload_n hx hb dX11_restore_13 rfl (lv_at hl 1 rfl) ?_
      obtain ⟨zi11, eq10, bd12⟩ := rd_59000 ok0 kd9 ((zi901 : Int32).toNatClampNeg)
      refine p_zald (v := zi11) hx hb hK hw hW kd9 (by decide) rfl (hW.len kd9 (n := 3) rfl (by decide)) (vp_b bd6 (by decide) (by decide)) eq10 dX11_restore_14 ?_
      refine lv_if_ne (tgt := 20) hx hb dX11_restore_15 (by decide) (fun cn13 => ?_) (fun cn13 => ?_)
      · skip
        have bd14 : (1 : Int) ≤ zi11.toInt ∧ zi11.toInt ≤ 1 := r_ne_lo cn13 bd12 (toi bc_0) (by decide) (by decide)
        refine lv_aload_n hx hb dX11_restore_20 rfl (lv_at hl 0 rfl) ?_
        obtain ⟨qa16, eq15, kd17⟩ := rd_12005 ok0 kd900
        refine p_get (ci := 11) (v := .ref qa16) (C := RX11) (T := TX11) (N := 17) hx hb hT iw_X11 hown hK hw hW kd900 (by decide) rfl rfl 5 (by decide) eq15 (hT _ tb_662) (fun _ h9 => h9) dX11_restore_21 ?_
        refine lv_aload_n hx hb dX11_restore_24 rfl (lv_at hl 0 rfl) ?_
        obtain ⟨qa19, eq18, kd20⟩ := rd_12010 ok0 kd900
        refine p_get (ci := 11) (v := .ref qa19) (C := RX11) (T := TX11) (N := 17) hx hb hT iw_X11 hown hK hw hW kd900 (by decide) rfl rfl 10 (by decide) eq18 (hT _ tb_667) (fun _ h9 => h9) dX11_restore_25 ?_
        refine lv_iload_n hx hb dX11_restore_28 rfl (lv_at hl 1 rfl) ?_
        obtain ⟨qa22, eq21, kd23⟩ := rd_57000 ok0 kd20 ((zi901 : Int32).toNatClampNeg)
        refine p_aald (v := qa22) hx hb hK hw hW kd20 (by decide) rfl (by decide) (by decide) rfl (hW.len kd20 (n := 3) rfl (by decide)) (vp_b bd6 (by decide) (by decide)) eq21 dX11_restore_29 ?_
        refine kq_v hw hS hA (va_runV (As := [.ref qa22]) (rest := []) ⟨hx, hb, hml, hown, hT⟩ (cX7_copyFrom_0 l G cy ev K ln Ls hW _ hp0 ok0 qa16 qa22 kd17 kd23) (cwV 1 hT (good_V tb_1047 tb_1044 tb_1045 tb_1046 tb_115) rfl rfl rfl (by decide +kernel) ⟨Nat.le_of_ble_eq_true rfl, Nat.le_of_ble_eq_true rfl⟩) (pool_preV (ci := 7) hK hE hS hA hw hW kd17 (by decide) rfl) rfl rfl hl.1 rfl (lv_room (Nat.le_of_ble_eq_true rfl)) dX11_restore_30 ⟨Nat.le_of_ble_eq_true rfl, Nat.le_of_ble_eq_true rfl⟩) (fun hp24 H locs hq27 hw hS => ?_)
        obtain ⟨ok25, F26⟩ := hq27
        have hw : PW G cy K ln Ls A hp24 H := hw
        refine lv_aload_n hx hb dX11_restore_33 rfl (lv_at hl 0 rfl) ?_
        obtain ⟨qa30, eq29, kd31⟩ := rd_12000 ok25 kd900
        refine p_get (ci := 11) (v := .ref qa30) (C := RX11) (T := TX11) (N := 17) hx hb hT iw_X11 hown hK hw hW kd900 (by decide) rfl rfl 0 (by decide) eq29 (hT _ tb_657) (fun _ h9 => h9) dX11_restore_34 ?_
        refine lv_aload_n hx hb dX11_restore_37 rfl (lv_at hl 0 rfl) ?_
        obtain ⟨qa33, eq32, kd34⟩ := rd_12011 ok25 kd900
        refine p_get (ci := 11) (v := .ref qa33) (C := RX11) (T := TX11) (N := 17) hx hb hT iw_X11 hown hK hw hW kd900 (by decide) rfl rfl 11 (by decide) eq32 (hT _ tb_668) (fun _ h9 => h9) dX11_restore_38 ?_
        refine lv_iload_n hx hb dX11_restore_41 rfl (lv_at hl 1 rfl) ?_
        obtain ⟨qa36, eq35, kd37⟩ := rd_58000 ok25 kd34 ((zi901 : Int32).toNatClampNeg)
        refine p_aald (v := qa36) hx hb hK hw hW kd34 (by decide) rfl (by decide) (by decide) rfl (hW.len kd34 (n := 3) rfl (by decide)) (vp_b bd6 (by decide) (by decide)) eq35 dX11_restore_42 ?_
        refine kq_v hw hS hA (va_runV (As := [.ref qa36]) (rest := []) ⟨hx, hb, hml, hown, hT⟩ (cX8_copyFrom_0 l G cy ev K ln Ls hW _ hp24 ok25 qa30 qa36 kd31 kd37) (cwV 1 hT (good_V tb_1347 tb_1344 tb_1345 tb_1346 tb_106) rfl rfl rfl (by decide +kernel) ⟨Nat.le_of_ble_eq_true rfl, Nat.le_of_ble_eq_true rfl⟩) (pool_preV (ci := 8) hK hE hS hA hw hW kd31 (by decide) rfl) rfl rfl hl.1 rfl (lv_room (Nat.le_of_ble_eq_true rfl)) dX11_restore_43 ⟨Nat.le_of_ble_eq_true rfl, Nat.le_of_ble_eq_true rfl⟩) (fun hp38 H locs hq41 hw hS => ?_)
        obtain ⟨ok39, F40⟩ := hq41
        have hw : PW G cy K ln Ls A hp38 H := hw
        refine lv_aload_n hx hb dX11_restore_46 rfl (lv_at hl 0 rfl) ?_
        refine lv_iconst (v := 0) hx hb dX11_restore_47 (by decide) ?_
        refine p_put (ci := 11) (v := .int 0) (ty := .int) (C := RX11) (T := TX11) (N := 17) hx hb hT iw_X11 tyX11 tyX11_ok nmX11 hown hK hw hS hW kd900 (by decide) rfl rfl 8 (by decide) (hT _ tb_665) (fun _ h9 => h9) rfl (by decide +kernel) rfl rfl dX11_restore_48 (fun hp43 eh44 H locs hw hS => ?_)
        have ok45 := wr_12008 bc_0 (by decide) (by decide) ok39 kd900 eh44
        refine lv_aload_n hx hb dX11_restore_51 rfl (lv_at hl 0 rfl) ?_
        refine kq_v hw hS hA (va_runV (As := []) (rest := []) ⟨hx, hb, hml, hown, hT⟩ (cX11_forgetSearches_0 l G cy ev K ln Ls hW _ hp43 ok45 qa900 kd900) (cwV 0 hT (good_V tb_977 tb_974 tb_976 tb_26 tb_105) rfl rfl rfl (by decide +kernel) ⟨Nat.le_of_ble_eq_true rfl, Nat.le_of_ble_eq_true rfl⟩) (pool_preV (ci := 11) hK hE hS hA hw hW kd900 (by decide) rfl) rfl rfl hl.1 rfl (lv_room (Nat.le_of_ble_eq_true rfl)) dX11_restore_52 ⟨Nat.le_of_ble_eq_true rfl, Nat.le_of_ble_eq_true rfl⟩) (fun hp46 H locs hq49 hw hS => ?_)
        obtain ⟨ok47, F48⟩ := hq49
        have hw : PW G cy K ln Ls A hp46 H := hw
        refine lv_iconst (v := 1) hx hb dX11_restore_55 (by decide) ?_
        rw [hQ]
        exact kz_i hx hb hr hlocks hS (nz_n bc_1 (by decide) (by decide)) hp46 hw ⟨ok47, (Fr.tr (Fr.put (cq := 12008) (Fr.tr (Fr.tr (Fr.rf) F26 (by decide)) F40 (by decide)) eh44 kd900 (cd_o (by decide)) (by decide)) F48 (by decide)), (b_wid2 bc_1 (by decide) (by decide)), (fun _ => b_wid2 bd6 (by decide) (by decide))⟩ (Nat.le_of_ble_eq_true rfl) (Nat.le_of_ble_eq_true rfl) dX11_restore_56
      · skip
        have bd51 : (0 : Int) ≤ zi11.toInt ∧ zi11.toInt ≤ 0 := r_eq_x cn13 bd12 bc_0 (by decide) (by decide)
        refine lv_iconst (v := 0) hx hb dX11_restore_18 (by decide) ?_
        rw [hQ]
        exact kz_i hx hb hr hlocks hS (nz_n bc_0 (by decide) (by decide)) hp0 hw ⟨ok0, (Fr.rf), (b_wid2 bc_0 (by decide) (by decide)), (fun h => absurd h (by decide))⟩ (Nat.le_of_ble_eq_true rfl) (Nat.le_of_ble_eq_true rfl) dX11_restore_19

set_option maxRecDepth 100000 in
set_option maxHeartbeats 4000000 in
theorem cX11_heldSlots_0 (l : Launch) (G : va_G) (cy : Nat → ClassId) (ev : Ew) (K ln : Nat → Nat) (Ls : List Nat) (hW : SW K ln Ls) (sz : Nat) (hp0 : Nat → Nat → Value) (ok0 : Ok K hp0) (qa900 : Nat) (kd900 : K qa900 = 12) : Met l yX11_heldSlots (WS yX11_heldSlots cX11_heldSlots 3 (some .int)) { frames := 0, cells := 0, slots := 0, locals := 0 } (PB2 [.ref qa900] sz G cy ev (va_pl Ls (cellOf cy K ln hp0))) (QBi (S := (Nat → Nat → Value)) (fun (r : Int32) (u : (Nat → Nat → Value)) => Ok K u ∧ Fr [] K hp0 u) G (fun u => va_pl Ls (cellOf cy K ln u)) (va_A (va_pl Ls (cellOf cy K ln hp0)) sz)) 0 0 (va_A (va_pl Ls (cellOf cy K ln hp0)) sz) := by
  refine met_of2 (y := yX11_heldSlots) (L := 3) (av := [.ref qa900]) (Qc := fun A => QBi (S := (Nat → Nat → Value)) (fun (r : Int32) (u : (Nat → Nat → Value)) => Ok K u ∧ Fr [] K hp0 u) G (fun u => va_pl Ls (cellOf cy K ln u)) A) (plainFor_of_name (by decide)) (Nat.le_of_ble_eq_true rfl) ?_
  intro p e s m below meth c hsz hx hb hr hml hown hT hlocks hin hK A hA hE hw hS ls hl
  have hw : PW G cy K ln Ls A hp0 s.heap := hw
  have hown : s.vm.findClass "LieClock" = some m.cls := hown
  have hl : lv_has ls 3 [(0, .ref qa900)] := hl
  obtain ⟨Q, hQ⟩ : ∃ Q : State → Prop, Q = MQ below (QBi (S := (Nat → Nat → Value)) (fun (r : Int32) (u : (Nat → Nat → Value)) => Ok K u ∧ Fr [] K hp0 u) G (fun u => va_pl Ls (cellOf cy K ln u)) A) ([.ref qa900] : List Value).toArray s 0 0 A := ⟨_, rfl⟩
  rw [← hQ]
  refine lv_iconst (v := 0) hx hb dX11_heldSlots_0 (by decide) ?_
  refine lv_istore_n (lv' := [(1, .int 0), (0, .ref qa900)]) hx hb dX11_heldSlots_1 rfl hl (by decide) rfl (fun ls hl => ?_)
  refine lv_iconst (v := 0) hx hb dX11_heldSlots_2 (by decide) ?_
  refine lv_istore_n (lv' := [(2, .int 0), (1, .int 0), (0, .ref qa900)]) hx hb dX11_heldSlots_3 rfl hl (by decide) rfl (fun ls hl => ?_)
  have lp408 : ∀ (n406 : Nat) (zi355 : Int32) (zi356 : Int32) (H : Heap) (locs : List Loc) (ls : Array Slot), 3 - zi356.toInt < (n406 : Int) → ((0 : Int) ≤ zi356.toInt ∧ zi356.toInt ≤ 3) → lv_has ls 3 [(0, .ref qa900), (1, .int zi355), (2, .int zi356)] → PW G cy K ln Ls A hp0 H → va_S A s.heap H locs → W p l e ({ frames := 0, cells := 0, slots := 0, locals := 0 } : Room) s m ([.ref qa900] : List Value).toArray below meth c H locs 0 0 Q (F0 m 4 ls []) := by
    intro n406
    induction n406 with
    | zero =>
      intro zi355 zi356 H locs ls hm409 bd357 hl hw hS
      exact absurd hm409 (by have := bd357; omega)
    | succ n406 ih407 =>
      intro zi355 zi356 H locs ls hm409 bd357 hl hw hS
      refine lv_iload_n hx hb dX11_heldSlots_4 rfl (lv_at hl 2 rfl) ?_
      refine lv_iconst (v := 3) hx hb dX11_heldSlots_5 (by decide) ?_
      refine lv_icmp_ge (tgt := 32) hx hb dX11_heldSlots_6 (by decide) (fun cn410 => ?_) (fun cn410 => ?_)
      · skip
        have bd434 : (3 : Int) ≤ zi356.toInt ∧ zi356.toInt ≤ 3 := r_le_y cn410 bc_3 bd357 (by decide) (by decide)
        refine lv_iload_n hx hb dX11_heldSlots_32 rfl (lv_at hl 1 rfl) ?_
        rw [hQ]
        exact kz_i hx hb hr hlocks hS rfl hp0 hw ⟨ok0, (Fr.rf)⟩ (Nat.le_of_ble_eq_true rfl) (Nat.le_of_ble_eq_true rfl) dX11_heldSlots_33
      · skip
        have bd435 : (0 : Int) ≤ zi356.toInt ∧ zi356.toInt ≤ 2 := r_lt_x (Int32.not_le.mp cn410) bd357 bc_3 (by decide) (by decide)
        refine lv_iload_n hx hb dX11_heldSlots_9 rfl (lv_at hl 1 rfl) ?_
        refine lv_aload_n hx hb dX11_heldSlots_10 rfl (lv_at hl 0 rfl) ?_
        obtain ⟨qa437, eq436, kd438⟩ := rd_12012 ok0 kd900
        refine p_get (ci := 11) (v := .ref qa437) (C := RX11) (T := TX11) (N := 17) hx hb hT iw_X11 hown hK hw hW kd900 (by decide) rfl rfl 12 (by decide) eq436 (hT _ tb_669) (fun _ h9 => h9) dX11_heldSlots_11 ?_
        refine lv_iload_n hx hb dX11_heldSlots_14 rfl (lv_at hl 2 rfl) ?_
        obtain ⟨zi440, eq439, bd441⟩ := rd_59000 ok0 kd438 ((zi356 : Int32).toNatClampNeg)
        refine p_zald (v := zi440) hx hb hK hw hW kd438 (by decide) rfl (hW.len kd438 (n := 3) rfl (by decide)) (vp_b bd435 (by decide) (by decide)) eq439 dX11_heldSlots_15 ?_
        have jn447 : ∀ (zi445 : Int32) (H : Heap) (locs : List Loc) (ls : Array Slot), ((0 : Int) ≤ zi445.toInt ∧ zi445.toInt ≤ 1) → lv_has ls 3 [(0, .ref qa900), (2, .int zi356)] → PW G cy K ln Ls A hp0 H → va_S A s.heap H locs → W p l e ({ frames := 0, cells := 0, slots := 0, locals := 0 } : Room) s m ([.ref qa900] : List Value).toArray below meth c H locs 0 0 Q (F0 m 24 ls [.int zi445, .int zi355]) := by
          intro zi445 H locs ls bd446 hl hw hS
          refine lv_iadd hx hb dX11_heldSlots_24 (lv_topi (fun zi448 ea449 => ?_))
          refine lv_istore_n (lv' := [(1, .int zi448), (0, .ref qa900), (2, .int zi356)]) hx hb dX11_heldSlots_25 rfl hl (by decide) rfl (fun ls hl => ?_)
          obtain ⟨zi450, ea451⟩ : ∃ z : Int32, z = zi356 + 1 := ⟨_, rfl⟩
          have bd452 : (1 : Int) ≤ zi450.toInt ∧ zi450.toInt ≤ 3 := b_iadd ea451 bd435 bc_1 (by decide) (by decide) (by decide) (by decide)
          have qe453 : zi450.toInt = (zi356 : Int32).toInt + (1 : Int32).toInt := e_iadd ea451 bd435 bc_1 (by decide) (by decide)
          have qe454 : zi450.toInt = zi356.toInt + 1 := by have ha : (1 : Int32).toInt = 1 := (by decide); rw [ha] at qe453; exact qe453
          refine lv_iinc (v := zi450) (lv' := [(2, .int zi450), (1, .int zi448), (0, .ref qa900)]) hx hb dX11_heldSlots_26 hl (k := 2) rfl ea451.symm (by decide) rfl (fun ls hl => ?_)
          refine lv_goto (tgt := 4) hx hb dX11_heldSlots_29 (by decide) ?_
          exact ih407 zi448 zi450 _ _ ls (by have := hm409; have := qe454; omega) (b_wid2 bd452 (by decide) (by decide)) (lv_sub hl [2, 1, 0] rfl) hw hS
        refine lv_if_eq (tgt := 23) hx hb dX11_heldSlots_16 (by decide) (fun cn442 => ?_) (fun cn442 => ?_)
        · skip
          have bd455 : (0 : Int) ≤ zi440.toInt ∧ zi440.toInt ≤ 0 := r_eq_x cn442 bd441 bc_0 (by decide) (by decide)
          refine lv_iconst (v := 0) hx hb dX11_heldSlots_23 (by decide) ?_
          exact jn447 0 _ _ ls (b_wid2 bc_0 (by decide) (by decide)) (lv_sub hl [0, 2] rfl) hw hS
        · skip
          have bd456 : (1 : Int) ≤ zi440.toInt ∧ zi440.toInt ≤ 1 := r_ne_lo cn442 bd441 (toi bc_0) (by decide) (by decide)
          refine lv_iconst (v := 1) hx hb dX11_heldSlots_19 (by decide) ?_
          refine lv_goto (tgt := 24) hx hb dX11_heldSlots_20 (by decide) ?_
          exact jn447 1 _ _ ls (b_wid2 bc_1 (by decide) (by decide)) (lv_sub hl [0, 2] rfl) hw hS
  exact lp408 _ 0 0 _ _ ls (lp_in _) (b_wid2 bc_0 (by decide) (by decide)) (lv_sub hl [2, 1, 0] rfl) hw hS

set_option maxRecDepth 100000 in
set_option maxHeartbeats 4000000 in
theorem cX11_count_0 (l : Launch) (G : va_G) (cy : Nat → ClassId) (ev : Ew) (K ln : Nat → Nat) (Ls : List Nat) (hW : SW K ln Ls) (sz : Nat) (hp0 : Nat → Nat → Value) (ok0 : Ok K hp0) (qa900 : Nat) (zi901 : Int32) (kd900 : K qa900 = 12) : Met l yX11_count (WS yX11_count cX11_count 2 (some .int)) { frames := 1, cells := 0, slots := 0, locals := 22 } (PB2 [.ref qa900, .int zi901] sz G cy ev (va_pl Ls (cellOf cy K ln hp0))) (QBi (S := (Nat → Nat → Value)) (fun (r : Int32) (u : (Nat → Nat → Value)) => Ok K u ∧ Fr [] K hp0 u) G (fun u => va_pl Ls (cellOf cy K ln u)) (va_A (va_pl Ls (cellOf cy K ln hp0)) sz)) 0 0 (va_A (va_pl Ls (cellOf cy K ln hp0)) sz) := by
  refine met_of2 (y := yX11_count) (L := 2) (av := [.ref qa900, .int zi901]) (Qc := fun A => QBi (S := (Nat → Nat → Value)) (fun (r : Int32) (u : (Nat → Nat → Value)) => Ok K u ∧ Fr [] K hp0 u) G (fun u => va_pl Ls (cellOf cy K ln u)) A) (plainFor_of_name (by decide)) (Nat.le_of_ble_eq_true rfl) ?_
  intro p e s m below meth c hsz hx hb hr hml hown hT hlocks hin hK A hA hE hw hS ls hl
  have hw : PW G cy K ln Ls A hp0 s.heap := hw
  have hown : s.vm.findClass "LieClock" = some m.cls := hown
  have hl : lv_has ls 2 [(0, .ref qa900), (1, .int zi901)] := hl
  obtain ⟨Q, hQ⟩ : ∃ Q : State → Prop, Q = MQ below (QBi (S := (Nat → Nat → Value)) (fun (r : Int32) (u : (Nat → Nat → Value)) => Ok K u ∧ Fr [] K hp0 u) G (fun u => va_pl Ls (cellOf cy K ln u)) A) ([.ref qa900, .int zi901] : List Value).toArray s 0 0 A := ⟨_, rfl⟩
  rw [← hQ]
  refine lv_iload_n hx hb dX11_count_0 rfl (lv_at hl 1 rfl) ?_
  by_cases cn1 : zi901 = 0
  · skip
    refine lv_tableIn (tgt := 64) hx hb dX11_count_1 (by rw [cn1]; decide) (by rw [cn1]; decide) (by rw [cn1]; rfl) (by decide) ?_
    have bd25 : (0 : Int) ≤ zi901.toInt ∧ zi901.toInt ≤ 0 := r_eq_x cn1 (b_all zi901) bc_0 (by decide) (by decide)
    refine lv_aload_n hx hb dX11_count_64 rfl (lv_at hl 0 rfl) ?_
    obtain ⟨qa27, eq26, kd28⟩ := rd_12003 ok0 kd900
    refine p_get (ci := 11) (v := .ref qa27) (C := RX11) (T := TX11) (N := 17) hx hb hT iw_X11 hown hK hw hW kd900 (by decide) rfl rfl 3 (by decide) eq26 (hT _ tb_660) (fun _ h9 => h9) dX11_count_65 ?_
    obtain ⟨zi30, eq29, bd31⟩ := rd_11000 ok0 kd28
    refine p_getN (ci := 10) (v := .int zi30) (C := RX10) (T := TX10) (N := 20) hx hb hT iw_X10 hown hK hw hW kd28 (by decide) rfl rfl 0 (by decide) eq29 (hK.fl nw_82) (fun _ h9 => h9) dX11_count_68 ?_
    rw [hQ]
    exact kz_i hx hb hr hlocks hS rfl hp0 hw ⟨ok0, (Fr.rf)⟩ (Nat.le_of_ble_eq_true rfl) (Nat.le_of_ble_eq_true rfl) dX11_count_71
  by_cases cn2 : zi901 = 1
  · skip
    refine lv_tableIn (tgt := 72) hx hb dX11_count_1 (by rw [cn2]; decide) (by rw [cn2]; decide) (by rw [cn2]; rfl) (by decide) ?_
    have bd32 : (1 : Int) ≤ zi901.toInt ∧ zi901.toInt ≤ 1 := r_eq_x cn2 (b_all zi901) bc_1 (by decide) (by decide)
    refine lv_aload_n hx hb dX11_count_72 rfl (lv_at hl 0 rfl) ?_
    obtain ⟨qa34, eq33, kd35⟩ := rd_12003 ok0 kd900
    refine p_get (ci := 11) (v := .ref qa34) (C := RX11) (T := TX11) (N := 17) hx hb hT iw_X11 hown hK hw hW kd900 (by decide) rfl rfl 3 (by decide) eq33 (hT _ tb_660) (fun _ h9 => h9) dX11_count_73 ?_
    obtain ⟨zi37, eq36, bd38⟩ := rd_11003 ok0 kd35
    refine p_getN (ci := 10) (v := .int zi37) (C := RX10) (T := TX10) (N := 20) hx hb hT iw_X10 hown hK hw hW kd35 (by decide) rfl rfl 3 (by decide) eq36 (hK.fl nw_91) (fun _ h9 => h9) dX11_count_76 ?_
    rw [hQ]
    exact kz_i hx hb hr hlocks hS rfl hp0 hw ⟨ok0, (Fr.rf)⟩ (Nat.le_of_ble_eq_true rfl) (Nat.le_of_ble_eq_true rfl) dX11_count_79
  by_cases cn3 : zi901 = 2
  · skip
    refine lv_tableIn (tgt := 80) hx hb dX11_count_1 (by rw [cn3]; decide) (by rw [cn3]; decide) (by rw [cn3]; rfl) (by decide) ?_
    have bd39 : (2 : Int) ≤ zi901.toInt ∧ zi901.toInt ≤ 2 := r_eq_x cn3 (b_all zi901) bc_2 (by decide) (by decide)
    refine lv_aload_n hx hb dX11_count_80 rfl (lv_at hl 0 rfl) ?_
    obtain ⟨qa41, eq40, kd42⟩ := rd_12003 ok0 kd900
    refine p_get (ci := 11) (v := .ref qa41) (C := RX11) (T := TX11) (N := 17) hx hb hT iw_X11 hown hK hw hW kd900 (by decide) rfl rfl 3 (by decide) eq40 (hT _ tb_660) (fun _ h9 => h9) dX11_count_81 ?_
    obtain ⟨zi44, eq43, bd45⟩ := rd_11004 ok0 kd42
    refine p_getN (ci := 10) (v := .int zi44) (C := RX10) (T := TX10) (N := 20) hx hb hT iw_X10 hown hK hw hW kd42 (by decide) rfl rfl 4 (by decide) eq43 (hK.fl nw_100) (fun _ h9 => h9) dX11_count_84 ?_
    rw [hQ]
    exact kz_i hx hb hr hlocks hS rfl hp0 hw ⟨ok0, (Fr.rf)⟩ (Nat.le_of_ble_eq_true rfl) (Nat.le_of_ble_eq_true rfl) dX11_count_87
  by_cases cn4 : zi901 = 3
  · skip
    refine lv_tableIn (tgt := 88) hx hb dX11_count_1 (by rw [cn4]; decide) (by rw [cn4]; decide) (by rw [cn4]; rfl) (by decide) ?_
    have bd46 : (3 : Int) ≤ zi901.toInt ∧ zi901.toInt ≤ 3 := r_eq_x cn4 (b_all zi901) bc_3 (by decide) (by decide)
    refine lv_aload_n hx hb dX11_count_88 rfl (lv_at hl 0 rfl) ?_
    obtain ⟨qa48, eq47, kd49⟩ := rd_12003 ok0 kd900
    refine p_get (ci := 11) (v := .ref qa48) (C := RX11) (T := TX11) (N := 17) hx hb hT iw_X11 hown hK hw hW kd900 (by decide) rfl rfl 3 (by decide) eq47 (hT _ tb_660) (fun _ h9 => h9) dX11_count_89 ?_
    obtain ⟨zi51, eq50, bd52⟩ := rd_11007 ok0 kd49
    refine p_getN (ci := 10) (v := .int zi51) (C := RX10) (T := TX10) (N := 20) hx hb hT iw_X10 hown hK hw hW kd49 (by decide) rfl rfl 7 (by decide) eq50 (hK.fl nw_111) (fun _ h9 => h9) dX11_count_92 ?_
    rw [hQ]
    exact kz_i hx hb hr hlocks hS rfl hp0 hw ⟨ok0, (Fr.rf)⟩ (Nat.le_of_ble_eq_true rfl) (Nat.le_of_ble_eq_true rfl) dX11_count_95
  by_cases cn5 : zi901 = 4
  · skip
    refine lv_tableIn (tgt := 96) hx hb dX11_count_1 (by rw [cn5]; decide) (by rw [cn5]; decide) (by rw [cn5]; rfl) (by decide) ?_
    have bd53 : (4 : Int) ≤ zi901.toInt ∧ zi901.toInt ≤ 4 := r_eq_x cn5 (b_all zi901) bc_4 (by decide) (by decide)
    refine lv_aload_n hx hb dX11_count_96 rfl (lv_at hl 0 rfl) ?_
    obtain ⟨qa55, eq54, kd56⟩ := rd_12005 ok0 kd900
    refine p_get (ci := 11) (v := .ref qa55) (C := RX11) (T := TX11) (N := 17) hx hb hT iw_X11 hown hK hw hW kd900 (by decide) rfl rfl 5 (by decide) eq54 (hT _ tb_662) (fun _ h9 => h9) dX11_count_97 ?_
    obtain ⟨zi58, eq57⟩ := rd_8003 ok0 kd56
    refine p_getN (ci := 7) (v := .int zi58) (C := RX7) (T := TX7) (N := 13) hx hb hT iw_X7 hown hK hw hW kd56 (by decide) rfl rfl 3 (by decide) eq57 (hK.fl nw_321) (fun _ h9 => h9) dX11_count_100 ?_
    refine kq_i hw hS hA (va_runS (As := [.int zi58]) (rest := []) ⟨hx, hb, hml, hown, hT⟩ (cJ6_bitCount_0f7a4_0 l G cy ev K ln Ls hW _ hp0 ok0 zi58) (va_cwS 1 hT (good_S tb_1010 tb_1008 tb_1009 tb_126) rfl rfl rfl (by decide +kernel) ⟨Nat.le_of_ble_eq_true rfl, Nat.le_of_ble_eq_true rfl⟩) (PB2.preS hK hE hS hA hw) rfl rfl hl.1 rfl (lv_room (Nat.le_of_ble_eq_true rfl)) dX11_count_103 ⟨Nat.le_of_ble_eq_true rfl, Nat.le_of_ble_eq_true rfl⟩) (fun zi63 hp59 H locs hq62 hw hS => ?_)
    obtain ⟨ok60, F61, bd64, ef65⟩ := hq62
    obtain rfl : hp0 = hp59 := (Fr.nil F61).symm
    have hw : PW G cy K ln Ls A hp0 H := hw
    rw [hQ]
    exact kz_i hx hb hr hlocks hS rfl hp0 hw ⟨ok0, (Fr.rf)⟩ (Nat.le_of_ble_eq_true rfl) (Nat.le_of_ble_eq_true rfl) dX11_count_106
  by_cases cn6 : zi901 = 5
  · skip
    refine lv_tableIn (tgt := 107) hx hb dX11_count_1 (by rw [cn6]; decide) (by rw [cn6]; decide) (by rw [cn6]; rfl) (by decide) ?_
    have bd66 : (5 : Int) ≤ zi901.toInt ∧ zi901.toInt ≤ 5 := r_eq_x cn6 (b_all zi901) bc_5 (by decide) (by decide)
    refine lv_aload_n hx hb dX11_count_107 rfl (lv_at hl 0 rfl) ?_
    obtain ⟨qa68, eq67, kd69⟩ := rd_12005 ok0 kd900
    refine p_get (ci := 11) (v := .ref qa68) (C := RX11) (T := TX11) (N := 17) hx hb hT iw_X11 hown hK hw hW kd900 (by decide) rfl rfl 5 (by decide) eq67 (hT _ tb_662) (fun _ h9 => h9) dX11_count_108 ?_
    obtain ⟨zi71, eq70⟩ := rd_8001 ok0 kd69
    refine p_getN (ci := 7) (v := .int zi71) (C := RX7) (T := TX7) (N := 13) hx hb hT iw_X7 hown hK hw hW kd69 (by decide) rfl rfl 1 (by decide) eq70 (hK.fl nw_315) (fun _ h9 => h9) dX11_count_111 ?_
    refine kq_i hw hS hA (va_runS (As := [.int zi71]) (rest := []) ⟨hx, hb, hml, hown, hT⟩ (cJ6_bitCount_0f7a4_0 l G cy ev K ln Ls hW _ hp0 ok0 zi71) (va_cwS 1 hT (good_S tb_1010 tb_1008 tb_1009 tb_126) rfl rfl rfl (by decide +kernel) ⟨Nat.le_of_ble_eq_true rfl, Nat.le_of_ble_eq_true rfl⟩) (PB2.preS hK hE hS hA hw) rfl rfl hl.1 rfl (lv_room (Nat.le_of_ble_eq_true rfl)) dX11_count_114 ⟨Nat.le_of_ble_eq_true rfl, Nat.le_of_ble_eq_true rfl⟩) (fun zi76 hp72 H locs hq75 hw hS => ?_)
    obtain ⟨ok73, F74, bd77, ef78⟩ := hq75
    obtain rfl : hp0 = hp72 := (Fr.nil F74).symm
    have hw : PW G cy K ln Ls A hp0 H := hw
    rw [hQ]
    exact kz_i hx hb hr hlocks hS rfl hp0 hw ⟨ok0, (Fr.rf)⟩ (Nat.le_of_ble_eq_true rfl) (Nat.le_of_ble_eq_true rfl) dX11_count_117
  by_cases cn7 : zi901 = 6
  · skip
    refine lv_tableIn (tgt := 118) hx hb dX11_count_1 (by rw [cn7]; decide) (by rw [cn7]; decide) (by rw [cn7]; rfl) (by decide) ?_
    have bd79 : (6 : Int) ≤ zi901.toInt ∧ zi901.toInt ≤ 6 := r_eq_x cn7 (b_all zi901) bc_6 (by decide) (by decide)
    refine lv_aload_n hx hb dX11_count_118 rfl (lv_at hl 0 rfl) ?_
    obtain ⟨qa81, eq80, kd82⟩ := rd_12005 ok0 kd900
    refine p_get (ci := 11) (v := .ref qa81) (C := RX11) (T := TX11) (N := 17) hx hb hT iw_X11 hown hK hw hW kd900 (by decide) rfl rfl 5 (by decide) eq80 (hT _ tb_662) (fun _ h9 => h9) dX11_count_119 ?_
    obtain ⟨zi84, eq83⟩ := rd_8002 ok0 kd82
    refine p_getN (ci := 7) (v := .int zi84) (C := RX7) (T := TX7) (N := 13) hx hb hT iw_X7 hown hK hw hW kd82 (by decide) rfl rfl 2 (by decide) eq83 (hK.fl nw_319) (fun _ h9 => h9) dX11_count_122 ?_
    refine kq_i hw hS hA (va_runS (As := [.int zi84]) (rest := []) ⟨hx, hb, hml, hown, hT⟩ (cJ6_bitCount_0f7a4_0 l G cy ev K ln Ls hW _ hp0 ok0 zi84) (va_cwS 1 hT (good_S tb_1010 tb_1008 tb_1009 tb_126) rfl rfl rfl (by decide +kernel) ⟨Nat.le_of_ble_eq_true rfl, Nat.le_of_ble_eq_true rfl⟩) (PB2.preS hK hE hS hA hw) rfl rfl hl.1 rfl (lv_room (Nat.le_of_ble_eq_true rfl)) dX11_count_125 ⟨Nat.le_of_ble_eq_true rfl, Nat.le_of_ble_eq_true rfl⟩) (fun zi89 hp85 H locs hq88 hw hS => ?_)
    obtain ⟨ok86, F87, bd90, ef91⟩ := hq88
    obtain rfl : hp0 = hp85 := (Fr.nil F87).symm
    have hw : PW G cy K ln Ls A hp0 H := hw
    rw [hQ]
    exact kz_i hx hb hr hlocks hS rfl hp0 hw ⟨ok0, (Fr.rf)⟩ (Nat.le_of_ble_eq_true rfl) (Nat.le_of_ble_eq_true rfl) dX11_count_128
  by_cases cn8 : zi901 = 7
  · skip
    refine lv_tableIn (tgt := 129) hx hb dX11_count_1 (by rw [cn8]; decide) (by rw [cn8]; decide) (by rw [cn8]; rfl) (by decide) ?_
    have bd92 : (7 : Int) ≤ zi901.toInt ∧ zi901.toInt ≤ 7 := r_eq_x cn8 (b_all zi901) bc_7 (by decide) (by decide)
    refine lv_aload_n hx hb dX11_count_129 rfl (lv_at hl 0 rfl) ?_
    obtain ⟨qa94, eq93, kd95⟩ := rd_12005 ok0 kd900
    refine p_get (ci := 11) (v := .ref qa94) (C := RX11) (T := TX11) (N := 17) hx hb hT iw_X11 hown hK hw hW kd900 (by decide) rfl rfl 5 (by decide) eq93 (hT _ tb_662) (fun _ h9 => h9) dX11_count_130 ?_
    obtain ⟨zi97, eq96⟩ := rd_8004 ok0 kd95
    refine p_getN (ci := 7) (v := .int zi97) (C := RX7) (T := TX7) (N := 13) hx hb hT iw_X7 hown hK hw hW kd95 (by decide) rfl rfl 4 (by decide) eq96 (hK.fl nw_324) (fun _ h9 => h9) dX11_count_133 ?_
    rw [hQ]
    exact kz_i hx hb hr hlocks hS rfl hp0 hw ⟨ok0, (Fr.rf)⟩ (Nat.le_of_ble_eq_true rfl) (Nat.le_of_ble_eq_true rfl) dX11_count_136
  by_cases cn9 : zi901 = 8
  · skip
    refine lv_tableIn (tgt := 137) hx hb dX11_count_1 (by rw [cn9]; decide) (by rw [cn9]; decide) (by rw [cn9]; rfl) (by decide) ?_
    have bd98 : (8 : Int) ≤ zi901.toInt ∧ zi901.toInt ≤ 8 := r_eq_x cn9 (b_all zi901) bc_8 (by decide) (by decide)
    refine lv_aload_n hx hb dX11_count_137 rfl (lv_at hl 0 rfl) ?_
    obtain ⟨qa100, eq99, kd101⟩ := rd_12016 ok0 kd900
    refine p_get (ci := 11) (v := .ref qa100) (C := RX11) (T := TX11) (N := 17) hx hb hT iw_X11 hown hK hw hW kd900 (by decide) rfl rfl 16 (by decide) eq99 (hT _ tb_673) (fun _ h9 => h9) dX11_count_138 ?_
    obtain ⟨zi103, eq102, bd104⟩ := rd_2003 ok0 kd101
    refine p_getN (ci := 1) (v := .int zi103) (C := RX1) (T := TX1) (N := 8) hx hb hT iw_X1 hown hK hw hW kd101 (by decide) rfl rfl 3 (by decide) eq102 (hK.fl nw_528) (fun _ h9 => h9) dX11_count_141 ?_
    rw [hQ]
    exact kz_i hx hb hr hlocks hS rfl hp0 hw ⟨ok0, (Fr.rf)⟩ (Nat.le_of_ble_eq_true rfl) (Nat.le_of_ble_eq_true rfl) dX11_count_144
  by_cases cn10 : zi901 = 9
  · skip
    refine lv_tableIn (tgt := 145) hx hb dX11_count_1 (by rw [cn10]; decide) (by rw [cn10]; decide) (by rw [cn10]; rfl) (by decide) ?_
    have bd105 : (9 : Int) ≤ zi901.toInt ∧ zi901.toInt ≤ 9 := r_eq_x cn10 (b_all zi901) bc_9 (by decide) (by decide)
    refine lv_aload_n hx hb dX11_count_145 rfl (lv_at hl 0 rfl) ?_
    obtain ⟨qa107, eq106, kd108⟩ := rd_12000 ok0 kd900
    refine p_get (ci := 11) (v := .ref qa107) (C := RX11) (T := TX11) (N := 17) hx hb hT iw_X11 hown hK hw hW kd900 (by decide) rfl rfl 0 (by decide) eq106 (hT _ tb_657) (fun _ h9 => h9) dX11_count_146 ?_
    obtain ⟨zi110, eq109, bd111⟩ := rd_9001 ok0 kd108
    refine p_getN (ci := 8) (v := .int zi110) (C := RX8) (T := TX8) (N := 2) hx hb hT iw_X8 hown hK hw hW kd108 (by decide) rfl rfl 1 (by decide) eq109 (hK.fl nw_39) (fun _ h9 => h9) dX11_count_149 ?_
    rw [hQ]
    exact kz_i hx hb hr hlocks hS rfl hp0 hw ⟨ok0, (Fr.rf)⟩ (Nat.le_of_ble_eq_true rfl) (Nat.le_of_ble_eq_true rfl) dX11_count_152
  by_cases cn11 : zi901 = 10
  · skip
    refine lv_tableIn (tgt := 153) hx hb dX11_count_1 (by rw [cn11]; decide) (by rw [cn11]; decide) (by rw [cn11]; rfl) (by decide) ?_
    have bd112 : (10 : Int) ≤ zi901.toInt ∧ zi901.toInt ≤ 10 := r_eq_x cn11 (b_all zi901) bc_10 (by decide) (by decide)
    refine lv_aload_n hx hb dX11_count_153 rfl (lv_at hl 0 rfl) ?_
    obtain ⟨zi114, eq113, bd115⟩ := rd_12008 ok0 kd900
    refine p_get (ci := 11) (v := .int zi114) (C := RX11) (T := TX11) (N := 17) hx hb hT iw_X11 hown hK hw hW kd900 (by decide) rfl rfl 8 (by decide) eq113 (hT _ tb_665) (fun _ h9 => h9) dX11_count_154 ?_
    rw [hQ]
    exact kz_i hx hb hr hlocks hS rfl hp0 hw ⟨ok0, (Fr.rf)⟩ (Nat.le_of_ble_eq_true rfl) (Nat.le_of_ble_eq_true rfl) dX11_count_157
  by_cases cn12 : zi901 = 11
  · skip
    refine lv_tableIn (tgt := 158) hx hb dX11_count_1 (by rw [cn12]; decide) (by rw [cn12]; decide) (by rw [cn12]; rfl) (by decide) ?_
    have bd116 : (11 : Int) ≤ zi901.toInt ∧ zi901.toInt ≤ 11 := r_eq_x cn12 (b_all zi901) bc_11 (by decide) (by decide)
    refine lv_aload_n hx hb dX11_count_158 rfl (lv_at hl 0 rfl) ?_
    refine kq_i hw hS hA (va_runV (As := []) (rest := []) ⟨hx, hb, hml, hown, hT⟩ (cX11_heldSlots_0 l G cy ev K ln Ls hW _ hp0 ok0 qa900 kd900) (cwV 0 hT (good_V tb_1360 tb_1357 tb_1359 tb_46 tb_105) rfl rfl rfl (by decide +kernel) ⟨Nat.le_of_ble_eq_true rfl, Nat.le_of_ble_eq_true rfl⟩) (pool_preV (ci := 11) hK hE hS hA hw hW kd900 (by decide) rfl) rfl rfl hl.1 rfl (lv_room (Nat.le_of_ble_eq_true rfl)) dX11_count_159 ⟨Nat.le_of_ble_eq_true rfl, Nat.le_of_ble_eq_true rfl⟩) (fun zi121 hp117 H locs hq120 hw hS => ?_)
    obtain ⟨ok118, F119⟩ := hq120
    obtain rfl : hp0 = hp117 := (Fr.nil F119).symm
    have hw : PW G cy K ln Ls A hp0 H := hw
    rw [hQ]
    exact kz_i hx hb hr hlocks hS rfl hp0 hw ⟨ok0, (Fr.rf)⟩ (Nat.le_of_ble_eq_true rfl) (Nat.le_of_ble_eq_true rfl) dX11_count_162
  have nn13 : zi901.toInt ≠ 0 := fun e => cn1 (Int32.toInt_inj.mp (e.trans (by decide)))
  have nn14 : zi901.toInt ≠ 1 := fun e => cn2 (Int32.toInt_inj.mp (e.trans (by decide)))
  have nn15 : zi901.toInt ≠ 2 := fun e => cn3 (Int32.toInt_inj.mp (e.trans (by decide)))
  have nn16 : zi901.toInt ≠ 3 := fun e => cn4 (Int32.toInt_inj.mp (e.trans (by decide)))
  have nn17 : zi901.toInt ≠ 4 := fun e => cn5 (Int32.toInt_inj.mp (e.trans (by decide)))
  have nn18 : zi901.toInt ≠ 5 := fun e => cn6 (Int32.toInt_inj.mp (e.trans (by decide)))
  have nn19 : zi901.toInt ≠ 6 := fun e => cn7 (Int32.toInt_inj.mp (e.trans (by decide)))
  have nn20 : zi901.toInt ≠ 7 := fun e => cn8 (Int32.toInt_inj.mp (e.trans (by decide)))
  have nn21 : zi901.toInt ≠ 8 := fun e => cn9 (Int32.toInt_inj.mp (e.trans (by decide)))
  have nn22 : zi901.toInt ≠ 9 := fun e => cn10 (Int32.toInt_inj.mp (e.trans (by decide)))
  have nn23 : zi901.toInt ≠ 10 := fun e => cn11 (Int32.toInt_inj.mp (e.trans (by decide)))
  have nn24 : zi901.toInt ≠ 11 := fun e => cn12 (Int32.toInt_inj.mp (e.trans (by decide)))
  refine lv_tableOut (tgt := 163) hx hb dX11_count_1 (by have := (b_all zi901); omega) (by decide) ?_
  refine lv_iconst (v := (-1)) hx hb dX11_count_163 (by decide) ?_
  rw [hQ]
  exact kz_i hx hb hr hlocks hS rfl hp0 hw ⟨ok0, (Fr.rf)⟩ (Nat.le_of_ble_eq_true rfl) (Nat.le_of_ble_eq_true rfl) dX11_count_164
