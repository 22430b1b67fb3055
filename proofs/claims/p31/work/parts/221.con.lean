set_option maxRecDepth 100000 in
set_option maxHeartbeats 4000000 in
theorem cX12_order_0 (l : Launch) (G : va_G) (cy : Nat → ClassId) (ev : Ew) (K ln : Nat → Nat) (Ls : List Nat) (hW : SW K ln Ls) (sz : Nat) (hp0 : Nat → Nat → Value) (ok0 : Ok K hp0) (qa900 : Nat) (zi901 : Int32) (zi902 : Int32) (kd900 : K qa900 = 13) (bd902 : ((0 : Int) ≤ zi902.toInt ∧ zi902.toInt ≤ 1)) (pdLW : LW hp0 qa900) : Met l yX12_order (WS yX12_order cX12_order 3 (some .int)) { frames := 5, cells := 0, slots := 0, locals := 129 } (PB2 [.ref qa900, .int zi901, .int zi902] sz G cy ev (va_pl Ls (cellOf cy K ln hp0))) (QBi (S := (Nat → Nat → Value)) (fun (r : Int32) (u : (Nat → Nat → Value)) => Ok K u ∧ Fr [13048, 13051, 13057, 90000, 91000, 93000, 96000, 97000] K hp0 u) G (fun u => va_pl Ls (cellOf cy K ln u)) (va_A (va_pl Ls (cellOf cy K ln hp0)) sz)) 0 0 (va_A (va_pl Ls (cellOf cy K ln hp0)) sz) := by
  refine met_of2 (y := yX12_order) (L := 3) (av := [.ref qa900, .int zi901, .int zi902]) (Qc := fun A => QBi (S := (Nat → Nat → Value)) (fun (r : Int32) (u : (Nat → Nat → Value)) => Ok K u ∧ Fr [13048, 13051, 13057, 90000, 91000, 93000, 96000, 97000] K hp0 u) G (fun u => va_pl Ls (cellOf cy K ln u)) A) (plainFor_of_name (by decide)) (Nat.le_of_ble_eq_true rfl) ?_
  intro p e s m below meth c hsz hx hb hr hml hown hT hlocks hin hK A hA hE hw hS ls hl
  have hw : PW G cy K ln Ls A hp0 s.heap := hw
  have hown : s.vm.findClass "LieClockModel" = some m.cls := hown
  have hl : lv_has ls 3 [(0, .ref qa900), (1, .int zi901), (2, .int zi902)] := hl
  obtain ⟨Q, hQ⟩ : ∃ Q : State → Prop, Q = MQ below (QBi (S := (Nat → Nat → Value)) (fun (r : Int32) (u : (Nat → Nat → Value)) => Ok K u ∧ Fr [13048, 13051, 13057, 90000, 91000, 93000, 96000, 97000] K hp0 u) G (fun u => va_pl Ls (cellOf cy K ln u)) A) ([.ref qa900, .int zi901, .int zi902] : List Value).toArray s 0 0 A := ⟨_, rfl⟩
  rw [← hQ]
  refine lv_aload_n hx hb dX12_order_0 rfl (lv_at hl 0 rfl) ?_
  refine lv_iload_n hx hb dX12_order_1 rfl (lv_at hl 1 rfl) ?_
  refine kq_i hw hS hA (va_runV (As := [.int zi901]) (rest := []) ⟨hx, hb, hml, hown, hT⟩ (cX12_isSet_0 l G cy ev K ln Ls hW _ hp0 ok0 qa900 zi901 kd900) (cwV 1 hT (good_V tb_1879 tb_1876 tb_1878 tb_97 tb_122) rfl rfl rfl (by decide +kernel) ⟨Nat.le_of_ble_eq_true rfl, Nat.le_of_ble_eq_true rfl⟩) (pool_preV (ci := 12) hK hE hS hA hw hW kd900 (by decide) rfl) rfl rfl hl.1 rfl (lv_room (Nat.le_of_ble_eq_true rfl)) dX12_order_2 ⟨Nat.le_of_ble_eq_true rfl, Nat.le_of_ble_eq_true rfl⟩) (fun zi5 hp1 H locs hq4 hw hS => ?_)
  obtain ⟨ok2, F3, bd6, hc7⟩ := hq4
  obtain rfl : hp0 = hp1 := (Fr.nil F3).symm
  have hw : PW G cy K ln Ls A hp0 H := hw
  rcases b01 bd6 with cn8 | cn8
  · skip
    subst cn8
    refine lv_if_eq (tgt := 26) hx hb dX12_order_5 (by decide) (fun _ => ?_) (fun c => absurd (d_eq bc_0 bc_0) c)
    refine lv_ldcw (v := (-1000000)) hx hb hown (hT _ tb_1789) dX12_order_26 ?_
    rw [hQ]
    exact kz_i hx hb hr hlocks hS rfl hp0 hw ⟨ok0, (Fr.rf)⟩ (Nat.le_of_ble_eq_true rfl) (Nat.le_of_ble_eq_true rfl) dX12_order_29
  · skip
    subst cn8
    have bd9 : (0 : Int) ≤ zi901.toInt ∧ zi901.toInt ≤ 65535 := b_meet (b_all zi901) (hc7 rfl) (by decide) (by decide)
    refine lv_if_eq (tgt := 26) hx hb dX12_order_5 (by decide) (fun c => absurd c (d_ne bc_1 bc_0 (by decide))) (fun _ => ?_)
    refine lv_iload_n hx hb dX12_order_8 rfl (lv_at hl 1 rfl) ?_
    refine kq_i hw hS hA (va_runS (As := [.int zi901]) (rest := []) ⟨hx, hb, hml, hown, hT⟩ (cX12_bits_0 l G cy ev K ln Ls hW _ hp0 ok0 zi901) (va_cwS 1 hT (good_S tb_1776 tb_1774 tb_1775 tb_122) rfl rfl rfl (by decide +kernel) ⟨Nat.le_of_ble_eq_true rfl, Nat.le_of_ble_eq_true rfl⟩) (PB2.preS hK hE hS hA hw) rfl rfl hl.1 rfl (lv_room (Nat.le_of_ble_eq_true rfl)) dX12_order_9 ⟨Nat.le_of_ble_eq_true rfl, Nat.le_of_ble_eq_true rfl⟩) (fun zi14 hp10 H locs hq13 hw hS => ?_)
    obtain ⟨ok11, F12, bd15, ef16, xq17⟩ := hq13
    obtain rfl : hp0 = hp10 := (Fr.nil F12).symm
    have hw : PW G cy K ln Ls A hp0 H := hw
    refine lv_bipush (v := 7) hx hb dX12_order_12 (by decide) ?_
    refine lv_icmp_ge (tgt := 26) hx hb dX12_order_14 (by decide) (fun cn18 => ?_) (fun cn18 => ?_)
    · skip
      have bd19 : (7 : Int) ≤ zi14.toInt ∧ zi14.toInt ≤ 16 := r_le_y cn18 bc_7 bd15 (by decide) (by decide)
      refine lv_ldcw (v := (-1000000)) hx hb hown (hT _ tb_1789) dX12_order_26 ?_
      rw [hQ]
      exact kz_i hx hb hr hlocks hS rfl hp0 hw ⟨ok0, (Fr.rf)⟩ (Nat.le_of_ble_eq_true rfl) (Nat.le_of_ble_eq_true rfl) dX12_order_29
    · skip
      have bd20 : (0 : Int) ≤ zi14.toInt ∧ zi14.toInt ≤ 6 := r_lt_x (Int32.not_le.mp cn18) bd15 bc_7 (by decide) (by decide)
      refine lv_aload_n hx hb dX12_order_17 rfl (lv_at hl 0 rfl) ?_
      refine lv_iload_n hx hb dX12_order_18 rfl (lv_at hl 1 rfl) ?_
      refine lv_iload_n hx hb dX12_order_19 rfl (lv_at hl 2 rfl) ?_
      refine kq_i hw hS hA (va_runV (As := [.int zi901, .int zi902]) (rest := []) ⟨hx, hb, hml, hown, hT⟩ (cX12_orders_0 l G cy ev K ln Ls hW _ hp0 ok0 qa900 zi901 zi902 kd900 (b_wid2 bd902 (by decide) (by decide)) pdLW (by have := xq17; omega)) (cwV 2 hT (good_V tb_1883 tb_1880 tb_1882 tb_98 tb_122) rfl rfl rfl (by decide +kernel) ⟨Nat.le_of_ble_eq_true rfl, Nat.le_of_ble_eq_true rfl⟩) (pool_preV (ci := 12) hK hE hS hA hw hW kd900 (by decide) rfl) rfl rfl hl.1 rfl (lv_room (Nat.le_of_ble_eq_true rfl)) dX12_order_20 ⟨Nat.le_of_ble_eq_true rfl, Nat.le_of_ble_eq_true rfl⟩) (fun zi25 hp21 H locs hq24 hw hS => ?_)
      obtain ⟨ok22, F23⟩ := hq24
      have hw : PW G cy K ln Ls A hp21 H := hw
      refine lv_goto (tgt := 29) hx hb dX12_order_23 (by decide) ?_
      rw [hQ]
      exact kz_i hx hb hr hlocks hS rfl hp21 hw ⟨ok22, (Fr.tr (Fr.rf) F23 (by decide))⟩ (Nat.le_of_ble_eq_true rfl) (Nat.le_of_ble_eq_true rfl) dX12_order_29

set_option maxRecDepth 100000 in
set_option maxHeartbeats 4000000 in
theorem cX12_orderAt_0 (l : Launch) (G : va_G) (cy : Nat → ClassId) (ev : Ew) (K ln : Nat → Nat) (Ls : List Nat) (hW : SW K ln Ls) (sz : Nat) (hp0 : Nat → Nat → Value) (ok0 : Ok K hp0) (qa900 : Nat) (zi901 : Int32) (zi902 : Int32) (zi903 : Int32) (kd900 : K qa900 = 13) (bd902 : ((0 : Int) ≤ zi902.toInt ∧ zi902.toInt ≤ 1)) (pdLW : LW hp0 qa900) : Met l yX12_orderAt (WS yX12_orderAt cX12_orderAt 4 (some .int)) { frames := 5, cells := 0, slots := 0, locals := 129 } (PB2 [.ref qa900, .int zi901, .int zi902, .int zi903] sz G cy ev (va_pl Ls (cellOf cy K ln hp0))) (QBi (S := (Nat → Nat → Value)) (fun (r : Int32) (u : (Nat → Nat → Value)) => Ok K u ∧ Fr [13048, 13051, 13057, 90000, 91000, 93000, 96000, 97000] K hp0 u) G (fun u => va_pl Ls (cellOf cy K ln u)) (va_A (va_pl Ls (cellOf cy K ln hp0)) sz)) 0 0 (va_A (va_pl Ls (cellOf cy K ln hp0)) sz) := by
  refine met_of2 (y := yX12_orderAt) (L := 4) (av := [.ref qa900, .int zi901, .int zi902, .int zi903]) (Qc := fun A => QBi (S := (Nat → Nat → Value)) (fun (r : Int32) (u : (Nat → Nat → Value)) => Ok K u ∧ Fr [13048, 13051, 13057, 90000, 91000, 93000, 96000, 97000] K hp0 u) G (fun u => va_pl Ls (cellOf cy K ln u)) A) (plainFor_of_name (by decide)) (Nat.le_of_ble_eq_true rfl) ?_
  intro p e s m below meth c hsz hx hb hr hml hown hT hlocks hin hK A hA hE hw hS ls hl
  have hw : PW G cy K ln Ls A hp0 s.heap := hw
  have hown : s.vm.findClass "LieClockModel" = some m.cls := hown
  have hl : lv_has ls 4 [(0, .ref qa900), (1, .int zi901), (2, .int zi902), (3, .int zi903)] := hl
  obtain ⟨Q, hQ⟩ : ∃ Q : State → Prop, Q = MQ below (QBi (S := (Nat → Nat → Value)) (fun (r : Int32) (u : (Nat → Nat → Value)) => Ok K u ∧ Fr [13048, 13051, 13057, 90000, 91000, 93000, 96000, 97000] K hp0 u) G (fun u => va_pl Ls (cellOf cy K ln u)) A) ([.ref qa900, .int zi901, .int zi902, .int zi903] : List Value).toArray s 0 0 A := ⟨_, rfl⟩
  rw [← hQ]
  refine lv_aload_n hx hb dX12_orderAt_0 rfl (lv_at hl 0 rfl) ?_
  refine lv_iload_n hx hb dX12_orderAt_1 rfl (lv_at hl 1 rfl) ?_
  refine kq_i hw hS hA (va_runV (As := [.int zi901]) (rest := []) ⟨hx, hb, hml, hown, hT⟩ (cX12_isSet_0 l G cy ev K ln Ls hW _ hp0 ok0 qa900 zi901 kd900) (cwV 1 hT (good_V tb_1879 tb_1876 tb_1878 tb_97 tb_122) rfl rfl rfl (by decide +kernel) ⟨Nat.le_of_ble_eq_true rfl, Nat.le_of_ble_eq_true rfl⟩) (pool_preV (ci := 12) hK hE hS hA hw hW kd900 (by decide) rfl) rfl rfl hl.1 rfl (lv_room (Nat.le_of_ble_eq_true rfl)) dX12_orderAt_2 ⟨Nat.le_of_ble_eq_true rfl, Nat.le_of_ble_eq_true rfl⟩) (fun zi5 hp1 H locs hq4 hw hS => ?_)
  obtain ⟨ok2, F3, bd6, hc7⟩ := hq4
  obtain rfl : hp0 = hp1 := (Fr.nil F3).symm
  have hw : PW G cy K ln Ls A hp0 H := hw
  rcases b01 bd6 with cn8 | cn8
  · skip
    subst cn8
    refine lv_if_eq (tgt := 31) hx hb dX12_orderAt_5 (by decide) (fun _ => ?_) (fun c => absurd (d_eq bc_0 bc_0) c)
    refine lv_iconst (v := (-1)) hx hb dX12_orderAt_31 (by decide) ?_
    rw [hQ]
    exact kz_i hx hb hr hlocks hS rfl hp0 hw ⟨ok0, (Fr.rf)⟩ (Nat.le_of_ble_eq_true rfl) (Nat.le_of_ble_eq_true rfl) dX12_orderAt_32
  · skip
    subst cn8
    have bd9 : (0 : Int) ≤ zi901.toInt ∧ zi901.toInt ≤ 65535 := b_meet (b_all zi901) (hc7 rfl) (by decide) (by decide)
    refine lv_if_eq (tgt := 31) hx hb dX12_orderAt_5 (by decide) (fun c => absurd c (d_ne bc_1 bc_0 (by decide))) (fun _ => ?_)
    refine lv_iload_n hx hb dX12_orderAt_8 rfl (lv_at hl 1 rfl) ?_
    refine kq_i hw hS hA (va_runS (As := [.int zi901]) (rest := []) ⟨hx, hb, hml, hown, hT⟩ (cX12_bits_0 l G cy ev K ln Ls hW _ hp0 ok0 zi901) (va_cwS 1 hT (good_S tb_1776 tb_1774 tb_1775 tb_122) rfl rfl rfl (by decide +kernel) ⟨Nat.le_of_ble_eq_true rfl, Nat.le_of_ble_eq_true rfl⟩) (PB2.preS hK hE hS hA hw) rfl rfl hl.1 rfl (lv_room (Nat.le_of_ble_eq_true rfl)) dX12_orderAt_9 ⟨Nat.le_of_ble_eq_true rfl, Nat.le_of_ble_eq_true rfl⟩) (fun zi14 hp10 H locs hq13 hw hS => ?_)
    obtain ⟨ok11, F12, bd15, ef16, xq17⟩ := hq13
    obtain rfl : hp0 = hp10 := (Fr.nil F12).symm
    have hw : PW G cy K ln Ls A hp0 H := hw
    refine lv_bipush (v := 6) hx hb dX12_orderAt_12 (by decide) ?_
    refine lv_icmp_gt (tgt := 31) hx hb dX12_orderAt_14 (by decide) (fun cn18 => ?_) (fun cn18 => ?_)
    · skip
      have bd19 : (7 : Int) ≤ zi14.toInt ∧ zi14.toInt ≤ 16 := r_lt_y cn18 bc_6 bd15 (by decide) (by decide)
      refine lv_iconst (v := (-1)) hx hb dX12_orderAt_31 (by decide) ?_
      rw [hQ]
      exact kz_i hx hb hr hlocks hS rfl hp0 hw ⟨ok0, (Fr.rf)⟩ (Nat.le_of_ble_eq_true rfl) (Nat.le_of_ble_eq_true rfl) dX12_orderAt_32
    · skip
      have bd20 : (0 : Int) ≤ zi14.toInt ∧ zi14.toInt ≤ 6 := r_le_x (Int32.not_lt.mp cn18) bd15 bc_6 (by decide) (by decide)
      refine lv_iload_n hx hb dX12_orderAt_17 rfl (lv_at hl 3 rfl) ?_
      refine lv_iconst (v := 0) hx hb dX12_orderAt_18 (by decide) ?_
      refine lv_iload_n hx hb dX12_orderAt_19 rfl (lv_at hl 1 rfl) ?_
      refine kq_i hw hS hA (va_runS (As := [.int zi901]) (rest := [.int 0, .int zi903]) ⟨hx, hb, hml, hown, hT⟩ (cX12_bits_0 l G cy ev K ln Ls hW _ hp0 ok0 zi901) (va_cwS 1 hT (good_S tb_1776 tb_1774 tb_1775 tb_122) rfl rfl rfl (by decide +kernel) ⟨Nat.le_of_ble_eq_true rfl, Nat.le_of_ble_eq_true rfl⟩) (PB2.preS hK hE hS hA hw) rfl rfl hl.1 rfl (lv_room (Nat.le_of_ble_eq_true rfl)) dX12_orderAt_20 ⟨Nat.le_of_ble_eq_true rfl, Nat.le_of_ble_eq_true rfl⟩) (fun zi25 hp21 H locs hq24 hw hS => ?_)
      obtain ⟨ok22, F23, bd26, ef27, xq28⟩ := hq24
      obtain rfl : hp0 = hp21 := (Fr.nil F23).symm
      have hw : PW G cy K ln Ls A hp0 H := hw
      have hx29 : zi14 = zi25 := ef16.trans ef27.symm
      subst hx29
      refine lv_iconst (v := 1) hx hb dX12_orderAt_23 (by decide) ?_
      refine lv_isub hx hb dX12_orderAt_24 (lv_topi (fun zi30 ea31 => ?_))
      have bd32 : (-1 : Int) ≤ zi30.toInt ∧ zi30.toInt ≤ 5 := b_isub ea31 bd20 bc_1 (by decide) (by decide) (by decide) (by decide)
      have qe33 : zi30.toInt = (zi14 : Int32).toInt - (1 : Int32).toInt := e_isub ea31 bd20 bc_1 (by decide) (by decide)
      have qe34 : zi30.toInt = zi14.toInt - 1 := by have ha : (1 : Int32).toInt = 1 := (by decide); rw [ha] at qe33; exact qe33
      refine kq_i hw hS hA (va_runS (As := [.int zi903, .int 0, .int zi30]) (rest := []) ⟨hx, hb, hml, hown, hT⟩ (cX12_in_2 l G cy ev K ln Ls hW _ hp0 ok0 zi903 0 zi30 (b_wid2 bc_0 (by decide) (by decide)) (b_wid2 bd32 (by decide) (by decide))) (va_cwS 3 hT (good_S tb_1734 tb_1732 tb_1733 tb_122) rfl rfl rfl (by decide +kernel) ⟨Nat.le_of_ble_eq_true rfl, Nat.le_of_ble_eq_true rfl⟩) (PB2.preS hK hE hS hA hw) rfl rfl hl.1 rfl (lv_room (Nat.le_of_ble_eq_true rfl)) dX12_orderAt_25 ⟨Nat.le_of_ble_eq_true rfl, Nat.le_of_ble_eq_true rfl⟩) (fun zi39 hp35 H locs hq38 hw hS => ?_)
      obtain ⟨ok36, F37, bd40, hc41, hc42⟩ := hq38
      obtain rfl : hp0 = hp35 := (Fr.nil F37).symm
      have hw : PW G cy K ln Ls A hp0 H := hw
      rcases b01 bd40 with cn43 | cn43
      · skip
        subst cn43
        refine lv_if_ne (tgt := 33) hx hb dX12_orderAt_28 (by decide) (fun c => absurd (d_eq bc_0 bc_0) c) (fun _ => ?_)
        refine lv_iconst (v := (-1)) hx hb dX12_orderAt_31 (by decide) ?_
        rw [hQ]
        exact kz_i hx hb hr hlocks hS rfl hp0 hw ⟨ok0, (Fr.rf)⟩ (Nat.le_of_ble_eq_true rfl) (Nat.le_of_ble_eq_true rfl) dX12_orderAt_32
      · skip
        subst cn43
        have bd44 : (0 : Int) ≤ zi903.toInt ∧ zi903.toInt ≤ 5 := b_meet (b_all zi903) (hc41 rfl) (by decide) (by decide)
        have bd45 : (0 : Int) ≤ zi30.toInt ∧ zi30.toInt ≤ 5 := b_meet bd32 (hc42 rfl) (by decide) (by decide)
        have bd46 : (1 : Int) ≤ zi14.toInt ∧ zi14.toInt ≤ 6 := (by have := qe34; have := bd45; have := bd20; have := bc_1; omega)
        refine lv_if_ne (tgt := 33) hx hb dX12_orderAt_28 (by decide) (fun _ => ?_) (fun c => absurd c (d_ne bc_1 bc_0 (by decide)))
        refine lv_aload_n hx hb dX12_orderAt_33 rfl (lv_at hl 0 rfl) ?_
        refine lv_iload_n hx hb dX12_orderAt_34 rfl (lv_at hl 1 rfl) ?_
        refine lv_iload_n hx hb dX12_orderAt_35 rfl (lv_at hl 2 rfl) ?_
        refine kq_i hw hS hA (va_runV (As := [.int zi901, .int zi902]) (rest := []) ⟨hx, hb, hml, hown, hT⟩ (cX12_orders_0 l G cy ev K ln Ls hW _ hp0 ok0 qa900 zi901 zi902 kd900 (b_wid2 bd902 (by decide) (by decide)) pdLW (by have := xq17; omega)) (cwV 2 hT (good_V tb_1883 tb_1880 tb_1882 tb_98 tb_122) rfl rfl rfl (by decide +kernel) ⟨Nat.le_of_ble_eq_true rfl, Nat.le_of_ble_eq_true rfl⟩) (pool_preV (ci := 12) hK hE hS hA hw hW kd900 (by decide) rfl) rfl rfl hl.1 rfl (lv_room (Nat.le_of_ble_eq_true rfl)) dX12_orderAt_36 ⟨Nat.le_of_ble_eq_true rfl, Nat.le_of_ble_eq_true rfl⟩) (fun zi51 hp47 H locs hq50 hw hS => ?_)
        obtain ⟨ok48, F49⟩ := hq50
        have hw : PW G cy K ln Ls A hp47 H := hw
        refine lv_ldcw (v := (-200000)) hx hb hown (hT _ tb_1896) dX12_orderAt_39 ?_
        refine lv_icmp_ge (tgt := 49) hx hb dX12_orderAt_42 (by decide) (fun cn52 => ?_) (fun cn52 => ?_)
        · skip
          have bd53 : (-200000 : Int) ≤ zi51.toInt ∧ zi51.toInt ≤ 2147483647 := r_le_y cn52 bc_m200000 (b_all zi51) (by decide) (by decide)
          refine lv_aload_n hx hb dX12_orderAt_49 rfl (lv_at hl 0 rfl) ?_
          obtain ⟨qa55, eq54, kd56⟩ := rd_13059 ok48 kd900
          refine p_get (ci := 12) (v := .ref qa55) (C := RX12) (T := TX12) (N := 69) hx hb hT iw_X12 hown hK hw hW kd900 (by decide) rfl rfl 59 (by decide) eq54 (hT _ tb_1433) (fun _ h9 => h9) dX12_orderAt_50 ?_
          refine lv_iload_n hx hb dX12_orderAt_53 rfl (lv_at hl 3 rfl) ?_
          obtain ⟨zi58, eq57⟩ := rd_97000 ok48 kd56 ((zi903 : Int32).toNatClampNeg)
          refine p_iald (v := zi58) hx hb hK hw hW kd56 (by decide) rfl (hW.len kd56 (n := 6) rfl (by decide)) (vp_b bd44 (by decide) (by decide)) eq57 dX12_orderAt_54 ?_
          rw [hQ]
          exact kz_i hx hb hr hlocks hS rfl hp47 hw ⟨ok48, (Fr.tr (Fr.rf) F49 (by decide))⟩ (Nat.le_of_ble_eq_true rfl) (Nat.le_of_ble_eq_true rfl) dX12_orderAt_55
        · skip
          have bd59 : (-2147483648 : Int) ≤ zi51.toInt ∧ zi51.toInt ≤ -200001 := r_lt_x (Int32.not_le.mp cn52) (b_all zi51) bc_m200000 (by decide) (by decide)
          refine lv_iconst (v := (-1)) hx hb dX12_orderAt_45 (by decide) ?_
          refine lv_goto (tgt := 55) hx hb dX12_orderAt_46 (by decide) ?_
          rw [hQ]
          exact kz_i hx hb hr hlocks hS rfl hp47 hw ⟨ok48, (Fr.tr (Fr.rf) F49 (by decide))⟩ (Nat.le_of_ble_eq_true rfl) (Nat.le_of_ble_eq_true rfl) dX12_orderAt_55

set_option maxRecDepth 100000 in
set_option maxHeartbeats 4000000 in
theorem cX12_never_0 (l : Launch) (G : va_G) (cy : Nat → ClassId) (ev : Ew) (K ln : Nat → Nat) (Ls : List Nat) (hW : SW K ln Ls) (sz : Nat) (hp0 : Nat → Nat → Value) (ok0 : Ok K hp0) (qa900 : Nat) (zi901 : Int32) (zi902 : Int32) (kd900 : K qa900 = 13) (pdLW : LW hp0 qa900) : Met l yX12_never (WS yX12_never cX12_never 5 (some .int)) { frames := 4, cells := 0, slots := 0, locals := 103 } (PB2 [.ref qa900, .int zi901, .int zi902] sz G cy ev (va_pl Ls (cellOf cy K ln hp0))) (QBi (S := (Nat → Nat → Value)) (fun (r : Int32) (u : (Nat → Nat → Value)) => Ok K u ∧ Fr [13048, 13051, 13052, 13057, 90000, 91000, 93000, 96000] K hp0 u ∧ ((-1 : Int) ≤ r.toInt ∧ r.toInt ≤ 1)) G (fun u => va_pl Ls (cellOf cy K ln u)) (va_A (va_pl Ls (cellOf cy K ln hp0)) sz)) 0 0 (va_A (va_pl Ls (cellOf cy K ln hp0)) sz) := by
  refine met_of2 (y := yX12_never) (L := 5) (av := [.ref qa900, .int zi901, .int zi902]) (Qc := fun A => QBi (S := (Nat → Nat → Value)) (fun (r : Int32) (u : (Nat → Nat → Value)) => Ok K u ∧ Fr [13048, 13051, 13052, 13057, 90000, 91000, 93000, 96000] K hp0 u ∧ ((-1 : Int) ≤ r.toInt ∧ r.toInt ≤ 1)) G (fun u => va_pl Ls (cellOf cy K ln u)) A) (plainFor_of_name (by decide)) (Nat.le_of_ble_eq_true rfl) ?_
  intro p e s m below meth c hsz hx hb hr hml hown hT hlocks hin hK A hA hE hw hS ls hl
  have hw : PW G cy K ln Ls A hp0 s.heap := hw
  have hown : s.vm.findClass "LieClockModel" = some m.cls := hown
  have hl : lv_has ls 5 [(0, .ref qa900), (1, .int zi901), (2, .int zi902)] := hl
  obtain ⟨Q, hQ⟩ : ∃ Q : State → Prop, Q = MQ below (QBi (S := (Nat → Nat → Value)) (fun (r : Int32) (u : (Nat → Nat → Value)) => Ok K u ∧ Fr [13048, 13051, 13052, 13057, 90000, 91000, 93000, 96000] K hp0 u ∧ ((-1 : Int) ≤ r.toInt ∧ r.toInt ≤ 1)) G (fun u => va_pl Ls (cellOf cy K ln u)) A) ([.ref qa900, .int zi901, .int zi902] : List Value).toArray s 0 0 A := ⟨_, rfl⟩
  rw [← hQ]
  refine lv_aload_n hx hb dX12_never_0 rfl (lv_at hl 0 rfl) ?_
  refine lv_iload_n hx hb dX12_never_1 rfl (lv_at hl 1 rfl) ?_
  refine kq_i hw hS hA (va_runV (As := [.int zi901]) (rest := []) ⟨hx, hb, hml, hown, hT⟩ (cX12_isSet_0 l G cy ev K ln Ls hW _ hp0 ok0 qa900 zi901 kd900) (cwV 1 hT (good_V tb_1879 tb_1876 tb_1878 tb_97 tb_122) rfl rfl rfl (by decide +kernel) ⟨Nat.le_of_ble_eq_true rfl, Nat.le_of_ble_eq_true rfl⟩) (pool_preV (ci := 12) hK hE hS hA hw hW kd900 (by decide) rfl) rfl rfl hl.1 rfl (lv_room (Nat.le_of_ble_eq_true rfl)) dX12_never_2 ⟨Nat.le_of_ble_eq_true rfl, Nat.le_of_ble_eq_true rfl⟩) (fun zi5 hp1 H locs hq4 hw hS => ?_)
  obtain ⟨ok2, F3, bd6, hc7⟩ := hq4
  obtain rfl : hp0 = hp1 := (Fr.nil F3).symm
  have hw : PW G cy K ln Ls A hp0 H := hw
  rcases b01 bd6 with cn8 | cn8
  · skip
    subst cn8
    refine lv_if_eq (tgt := 17) hx hb dX12_never_5 (by decide) (fun _ => ?_) (fun c => absurd (d_eq bc_0 bc_0) c)
    refine lv_iconst (v := (-1)) hx hb dX12_never_17 (by decide) ?_
    rw [hQ]
    exact kz_i hx hb hr hlocks hS rfl hp0 hw ⟨ok0, (Fr.rf), (b_wid2 bc_m1 (by decide) (by decide))⟩ (Nat.le_of_ble_eq_true rfl) (Nat.le_of_ble_eq_true rfl) dX12_never_18
  · skip
    subst cn8
    have bd9 : (0 : Int) ≤ zi901.toInt ∧ zi901.toInt ≤ 65535 := b_meet (b_all zi901) (hc7 rfl) (by decide) (by decide)
    refine lv_if_eq (tgt := 17) hx hb dX12_never_5 (by decide) (fun c => absurd c (d_ne bc_1 bc_0 (by decide))) (fun _ => ?_)
    refine lv_iload_n hx hb dX12_never_8 rfl (lv_at hl 1 rfl) ?_
    refine kq_i hw hS hA (va_runS (As := [.int zi901]) (rest := []) ⟨hx, hb, hml, hown, hT⟩ (cX12_bits_0 l G cy ev K ln Ls hW _ hp0 ok0 zi901) (va_cwS 1 hT (good_S tb_1776 tb_1774 tb_1775 tb_122) rfl rfl rfl (by decide +kernel) ⟨Nat.le_of_ble_eq_true rfl, Nat.le_of_ble_eq_true rfl⟩) (PB2.preS hK hE hS hA hw) rfl rfl hl.1 rfl (lv_room (Nat.le_of_ble_eq_true rfl)) dX12_never_9 ⟨Nat.le_of_ble_eq_true rfl, Nat.le_of_ble_eq_true rfl⟩) (fun zi14 hp10 H locs hq13 hw hS => ?_)
    obtain ⟨ok11, F12, bd15, ef16, xq17⟩ := hq13
    obtain rfl : hp0 = hp10 := (Fr.nil F12).symm
    have hw : PW G cy K ln Ls A hp0 H := hw
    refine lv_bipush (v := 6) hx hb dX12_never_12 (by decide) ?_
    refine lv_icmp_le (tgt := 19) hx hb dX12_never_14 (by decide) (fun cn18 => ?_) (fun cn18 => ?_)
    · skip
      have bd19 : (0 : Int) ≤ zi14.toInt ∧ zi14.toInt ≤ 6 := r_le_x cn18 bd15 bc_6 (by decide) (by decide)
      refine lv_aload_n hx hb dX12_never_19 rfl (lv_at hl 0 rfl) ?_
      refine lv_iload_n hx hb dX12_never_20 rfl (lv_at hl 1 rfl) ?_
      refine kq_v hw hS hA (va_runV (As := [.int zi901]) (rest := []) ⟨hx, hb, hml, hown, hT⟩ (cX12_fillsOrder_0 l G cy ev K ln Ls hW _ hp0 ok0 qa900 zi901 kd900 (by have := xq17; omega)) (cwV 1 hT (good_V tb_1887 tb_1884 tb_1886 tb_99 tb_122) rfl rfl rfl (by decide +kernel) ⟨Nat.le_of_ble_eq_true rfl, Nat.le_of_ble_eq_true rfl⟩) (pool_preV (ci := 12) hK hE hS hA hw hW kd900 (by decide) rfl) rfl rfl hl.1 rfl (lv_room (Nat.le_of_ble_eq_true rfl)) dX12_never_21 ⟨Nat.le_of_ble_eq_true rfl, Nat.le_of_ble_eq_true rfl⟩) (fun hp20 H locs hq23 hw hS => ?_)
      obtain ⟨ok21, F22, xq25⟩ := hq23
      have hw : PW G cy K ln Ls A hp20 H := hw
      refine lv_iconst (v := 1) hx hb dX12_never_24 (by decide) ?_
      refine lv_istore_n (lv' := [(3, .int 1), (0, .ref qa900), (1, .int zi901), (2, .int zi902)]) hx hb dX12_never_25 rfl hl (by decide) rfl (fun ls hl => ?_)
      have lp1381 : ∀ (n1379 : Nat) (hp839 : Nat → Nat → Value)  (H : Heap) (locs : List Loc) (ls : Array Slot), 16777216 - VOx (mA hp839 qa900 58) < (n1379 : Int) → Ok K hp839 → Fr [13048, 13051, 13052, 90000, 91000, 93000, 96000] K hp20 hp839 → (DSx hp839 qa900) → lv_has ls 5 [(0, .ref qa900), (2, .int zi902), (3, .int 1)] → PW G cy K ln Ls A hp839 H → va_S A s.heap H locs → W p l e ({ frames := 4, cells := 0, slots := 0, locals := 103 } : Room) s m ([.ref qa900, .int zi901, .int zi902] : List Value).toArray below meth c H locs 0 0 Q (F0 m 26 ls []) := by
        intro n1379
        induction n1379 with
        | zero =>
          intro hp839 H locs ls hm1382 ok841 F840 jx842 hl hw hS
          exact absurd hm1382 (by have := VOx_le (ord_b ok841 kd900); omega)
        | succ n1379 ih1380 =>
          intro hp839 H locs ls hm1382 ok841 F840 jx842 hl hw hS
          refine lv_iload_n hx hb dX12_never_26 rfl (lv_at hl 2 rfl) ?_
          refine lv_if_eq (tgt := 91) hx hb dX12_never_27 (by decide) (fun c => absurd c (d_ne bc_1 bc_0 (by decide))) (fun _ => ?_)
          obtain ⟨qa1384, eq1383, kd1385⟩ := rd_13058 ok841 kd900
          refine lv_aload_n hx hb dX12_never_30 rfl (lv_at hl 0 rfl) ?_
          refine kq_v hw hS hA (va_runV (As := []) (rest := []) ⟨hx, hb, hml, hown, hT⟩ (cX12_copies_0 l G cy ev K ln Ls hW _ hp839 ok841 qa900 kd900) (cwV 0 hT (good_V tb_1769 tb_1766 tb_1768 tb_81 tb_122) rfl rfl rfl (by decide +kernel) ⟨Nat.le_of_ble_eq_true rfl, Nat.le_of_ble_eq_true rfl⟩) (pool_preV (ci := 12) hK hE hS hA hw hW kd900 (by decide) rfl) rfl rfl hl.1 rfl (lv_room (Nat.le_of_ble_eq_true rfl)) dX12_never_31 ⟨Nat.le_of_ble_eq_true rfl, Nat.le_of_ble_eq_true rfl⟩) (fun hp1386 H locs hq1389 hw hS => ?_)
          obtain ⟨ok1387, F1388⟩ := hq1389
          have hw : PW G cy K ln Ls A hp1386 H := hw
          refine lv_aload_n hx hb dX12_never_34 rfl (lv_at hl 0 rfl) ?_
          refine lv_iload_n hx hb dX12_never_35 rfl (lv_at hl 1 rfl) ?_
          refine p_put (ci := 12) (v := .int zi902) (ty := .int) (C := RX12) (T := TX12) (N := 69) hx hb hT iw_X12 tyX12 tyX12_ok nmX12 hown hK hw hS hW kd900 (by decide) rfl rfl 52 (by decide) (hT _ tb_1426) (fun _ h9 => h9) rfl (by decide +kernel) rfl rfl dX12_never_36 (fun hp1391 eh1392 H locs hw hS => ?_)
          have ok1393 := wr_13052 ok1387 kd900 eh1392
          refine lv_aload_n hx hb dX12_never_39 rfl (lv_at hl 0 rfl) ?_
          refine lv_iconst (v := 0) hx hb dX12_never_40 (by decide) ?_
          refine p_put (ci := 12) (v := .int 0) (ty := .boolean) (C := RX12) (T := TX12) (N := 69) hx hb hT iw_X12 tyX12 tyX12_ok nmX12 hown hK hw hS hW kd900 (by decide) rfl rfl 51 (by decide) (hT _ tb_1425) (fun _ h9 => h9) rfl (by decide +kernel) (nz_n bc_0 (by decide) (by decide)) (nz_f bc_0 (by decide) (by decide)) dX12_never_41 (fun hp1394 eh1395 H locs hw hS => ?_)
          have ok1396 := wr_13051 bc_0 (by decide) (by decide) ok1393 kd900 eh1395
          refine lv_iconst (v := 0) hx hb dX12_never_44 (by decide) ?_
          refine lv_istore (lv' := [(4, .int 0), (0, .ref qa900), (2, .int zi902), (3, .int 1)]) hx hb dX12_never_45 hl (by decide) rfl (fun ls hl => ?_)
          have lp1585 : ∀ (n1583 : Nat) (hp1531 : Nat → Nat → Value) (zi1530 : Int32) (H : Heap) (locs : List Loc) (ls : Array Slot), 6 - zi1530.toInt < (n1583 : Int) → Ok K hp1531 → Fr [13048, 13051, 90000, 91000, 93000] K hp1394 hp1531 → ((0 : Int) ≤ zi1530.toInt ∧ zi1530.toInt ≤ 6) → lv_has ls 5 [(0, .ref qa900), (2, .int zi902), (4, .int zi1530)] → PW G cy K ln Ls A hp1531 H → va_S A s.heap H locs → W p l e ({ frames := 4, cells := 0, slots := 0, locals := 103 } : Room) s m ([.ref qa900, .int zi901, .int zi902] : List Value).toArray below meth c H locs 0 0 Q (F0 m 47 ls []) := by
            intro n1583
            induction n1583 with
            | zero =>
              intro hp1531 zi1530 H locs ls hm1586 ok1533 F1532 bd1534 hl hw hS
              exact absurd hm1586 (by have := bd1534; omega)
            | succ n1583 ih1584 =>
              intro hp1531 zi1530 H locs ls hm1586 ok1533 F1532 bd1534 hl hw hS
              refine lv_iload hx hb dX12_never_47 (lv_at hl 2 rfl) ?_
              refine lv_aload_n hx hb dX12_never_49 rfl (lv_at hl 0 rfl) ?_
              obtain ⟨zi1588, eq1587, bd1589⟩ := rd_13057 ok1533 kd900
              refine p_get (ci := 12) (v := .int zi1588) (C := RX12) (T := TX12) (N := 69) hx hb hT iw_X12 hown hK hw hW kd900 (by decide) rfl rfl 57 (by decide) eq1587 (hT _ tb_1431) (fun _ h9 => h9) dX12_never_50 ?_
              refine lv_icmp_ge (tgt := 74) hx hb dX12_never_53 (by decide) (fun cn1590 => ?_) (fun cn1590 => ?_)
              · skip
                have tf1611 : zi1588.toInt ≤ zi1530.toInt := (fa_le _ _).mp cn1590
                refine lv_aload_n hx hb dX12_never_74 rfl (lv_at hl 0 rfl) ?_
                obtain ⟨zi1613, eq1612, bd1614⟩ := rd_13051 ok1533 kd900
                refine p_get (ci := 12) (v := .int zi1613) (C := RX12) (T := TX12) (N := 69) hx hb hT iw_X12 hown hK hw hW kd900 (by decide) rfl rfl 51 (by decide) eq1612 (hT _ tb_1425) (fun _ h9 => h9) dX12_never_75 ?_
                refine lv_if_ne (tgt := 83) hx hb dX12_never_78 (by decide) (fun cn1615 => ?_) (fun cn1615 => ?_)
                · skip
                  have tf1616 : (zi1613 : Int32).toInt ≠ (0 : Int32).toInt := fun e => cn1615 (Int32.toInt_inj.mp e)
                  have := toi bc_0
                  have bd1617 : (1 : Int) ≤ zi1613.toInt ∧ zi1613.toInt ≤ 1 := r_ne_lo cn1615 bd1614 (toi bc_0) (by decide) (by decide)
                  have eq1619 : hp1531 qa900 58 = .ref qa1384 := Eq.trans (Fr.at (cq := 13058) F1532 kd900 (cd_o (by decide)) (by decide)) (Eq.trans (up_at eh1395 (Or.inr (by decide))) (Eq.trans (up_at eh1392 (Or.inr (by decide))) (Eq.trans (Fr.at (cq := 13058) F1388 kd900 (cd_o (by decide)) (by decide)) eq1383)))
                  have mq1618 : mA hp1531 qa900 58 = mA hp839 qa900 58 := (mA_eq eq1383 eq1619 (Eq.trans (show hp1531 qa1384 = hp1394 qa1384 from (funext fun i => Fr.at (cq := 96000) F1532 kd1385 (cd_a (by decide)) (by decide))) (Eq.trans (show hp1394 qa1384 = hp1391 qa1384 from (by rw [eh1395]; exact up2_row (kd_ne kd1385 kd900 (by decide)))) (Eq.trans (show hp1391 qa1384 = hp1386 qa1384 from (by rw [eh1392]; exact up2_row (kd_ne kd1385 kd900 (by decide)))) (show hp1386 qa1384 = hp839 qa1384 from (funext fun i => Fr.at (cq := 96000) F1388 kd1385 (cd_a (by decide)) (by decide)))))))
                  refine lv_aload_n hx hb dX12_never_83 rfl (lv_at hl 0 rfl) ?_
                  have pd1620 : DSx hp1531 qa900 := DSx_fr ok841 kd900 (show Fr [13048, 13051, 13052, 90000, 91000, 93000] K hp839 hp1531 from (Fr.tr (Fr.put (cq := 13051) (Fr.put (cq := 13052) (Fr.tr (Fr.rf) F1388 (by decide)) eh1392 kd900 (cd_o (by decide)) (by decide)) eh1395 kd900 (cd_o (by decide)) (by decide)) F1532 (by decide))) (by decide) jx842
                  refine kq_i hw hS hA (va_runV (As := []) (rest := []) ⟨hx, hb, hml, hown, hT⟩ (cX12_nextOrder_0 l G cy ev K ln Ls hW _ hp1531 ok1533 qa900 kd900 pd1620) (cwV 0 hT (good_V tb_1891 tb_1888 tb_1890 tb_100 tb_122) rfl rfl rfl (by decide +kernel) ⟨Nat.le_of_ble_eq_true rfl, Nat.le_of_ble_eq_true rfl⟩) (pool_preV (ci := 12) hK hE hS hA hw hW kd900 (by decide) rfl) rfl rfl hl.1 rfl (lv_room (Nat.le_of_ble_eq_true rfl)) dX12_never_84 ⟨Nat.le_of_ble_eq_true rfl, Nat.le_of_ble_eq_true rfl⟩) (fun zi1625 hp1621 H locs hq1624 hw hS => ?_)
                  obtain ⟨ok1622, F1623, bd1626, xq1627, xq1628⟩ := hq1624
                  have hw : PW G cy K ln Ls A hp1621 H := hw
                  rcases b01 bd1626 with cn1629 | cn1629
                  · skip
                    subst cn1629
                    refine lv_istore_n (lv' := [(3, .int 0), (0, .ref qa900), (2, .int zi902), (4, .int zi1530)]) hx hb dX12_never_87 rfl hl (by decide) rfl (fun ls hl => ?_)
                    refine lv_goto (tgt := 26) hx hb dX12_never_88 (by decide) ?_
                    refine lv_iload_n hx hb dX12_never_26 rfl (lv_at hl 0 rfl) ?_
                    refine lv_if_eq (tgt := 91) hx hb dX12_never_27 (by decide) (fun _ => ?_) (fun c => absurd (d_eq bc_0 bc_0) c)
                    refine lv_iconst (v := 0) hx hb dX12_never_91 (by decide) ?_
                    rw [hQ]
                    exact kz_i hx hb hr hlocks hS rfl hp1621 hw ⟨ok1622, (Fr.tr (Fr.tr (Fr.put (cq := 13051) (Fr.put (cq := 13052) (Fr.tr (Fr.tr (Fr.tr (Fr.rf) F22 (by decide)) F840 (by decide)) F1388 (by decide)) eh1392 kd900 (cd_o (by decide)) (by decide)) eh1395 kd900 (cd_o (by decide)) (by decide)) F1532 (by decide)) F1623 (by decide)), (b_wid2 bc_0 (by decide) (by decide))⟩ (Nat.le_of_ble_eq_true rfl) (Nat.le_of_ble_eq_true rfl) dX12_never_92
                  · skip
                    subst cn1629
                    refine lv_istore_n (lv' := [(3, .int 1), (0, .ref qa900), (2, .int zi902), (4, .int zi1530)]) hx hb dX12_never_87 rfl hl (by decide) rfl (fun ls hl => ?_)
                    have hv1630 : VOx (mA hp839 qa900 58) < VOx (mA hp1621 qa900 58) := by have q9 := xq1628 rfl; rw [mq1618] at q9; exact q9
                    refine lv_goto (tgt := 26) hx hb dX12_never_88 (by decide) ?_
                    exact ih1380 hp1621 _ _ ls (by have := hm1382; have := hv1630; omega) ok1622 (Fr.tr (Fr.tr (Fr.put (cq := 13051) (Fr.put (cq := 13052) (Fr.tr (Fr.tr (Fr.rf) F840 (by decide)) F1388 (by decide)) eh1392 kd900 (cd_o (by decide)) (by decide)) eh1395 kd900 (cd_o (by decide)) (by decide)) F1532 (by decide)) F1623 (by decide)) (xq1627 rfl) (lv_sub hl [1, 2, 0] rfl) hw hS
                · skip
                  have bd1631 : (0 : Int) ≤ zi1613.toInt ∧ zi1613.toInt ≤ 0 := r_eq_x cn1615 bd1614 bc_0 (by decide) (by decide)
                  refine lv_iconst (v := 1) hx hb dX12_never_81 (by decide) ?_
                  rw [hQ]
                  exact kz_i hx hb hr hlocks hS rfl hp1531 hw ⟨ok1533, (Fr.tr (Fr.put (cq := 13051) (Fr.put (cq := 13052) (Fr.tr (Fr.tr (Fr.tr (Fr.rf) F22 (by decide)) F840 (by decide)) F1388 (by decide)) eh1392 kd900 (cd_o (by decide)) (by decide)) eh1395 kd900 (cd_o (by decide)) (by decide)) F1532 (by decide)), (b_wid2 bc_1 (by decide) (by decide))⟩ (Nat.le_of_ble_eq_true rfl) (Nat.le_of_ble_eq_true rfl) dX12_never_82
              · skip
                have tf1632 : zi1530.toInt < zi1588.toInt := (fa_lt _ _).mp (Int32.not_le.mp cn1590)
                have bd1633 : (0 : Int) ≤ zi1530.toInt ∧ zi1530.toInt ≤ 5 := r_lt_x (Int32.not_le.mp cn1590) bd1534 bd1589 (by decide) (by decide)
                have bd1634 : (1 : Int) ≤ zi1588.toInt ∧ zi1588.toInt ≤ 6 := r_lt_y (Int32.not_le.mp cn1590) bd1534 bd1589 (by decide) (by decide)
                refine lv_aload_n hx hb dX12_never_56 rfl (lv_at hl 0 rfl) ?_
                refine lv_aload_n hx hb dX12_never_57 rfl (lv_at hl 0 rfl) ?_
                have eq1635 : hp1531 qa900 58 = .ref qa1384 := Eq.trans (Fr.at (cq := 13058) F1532 kd900 (cd_o (by decide)) (by decide)) (Eq.trans (up_at eh1395 (Or.inr (by decide))) (Eq.trans (up_at eh1392 (Or.inr (by decide))) (Eq.trans (Fr.at (cq := 13058) F1388 kd900 (cd_o (by decide)) (by decide)) eq1383)))
                refine p_get (ci := 12) (v := .ref qa1384) (C := RX12) (T := TX12) (N := 69) hx hb hT iw_X12 hown hK hw hW kd900 (by decide) rfl rfl 58 (by decide) eq1635 (hT _ tb_1432) (fun _ h9 => h9) dX12_never_58 ?_
                refine lv_iload hx hb dX12_never_61 (lv_at hl 2 rfl) ?_
                obtain ⟨zi1637, eq1636, bd1638⟩ := rd_96000 ok1533 kd1385 ((zi1530 : Int32).toNatClampNeg)
                refine p_iald (v := zi1637) hx hb hK hw hW kd1385 (by decide) rfl (hW.len kd1385 (n := 6) rfl (by decide)) (vp_b bd1633 (by decide) (by decide)) eq1636 dX12_never_63 ?_
                have pd1639 : LW hp1531 qa900 := LW_fr ok0 kd900 (show Fr [13048, 13051, 13052, 13057, 90000, 91000, 93000, 96000] K hp0 hp1531 from (Fr.tr (Fr.put (cq := 13051) (Fr.put (cq := 13052) (Fr.tr (Fr.tr (Fr.tr (Fr.rf) F22 (by decide)) F840 (by decide)) F1388 (by decide)) eh1392 kd900 (cd_o (by decide)) (by decide)) eh1395 kd900 (cd_o (by decide)) (by decide)) F1532 (by decide))) (by decide) pdLW
                refine kq_i hw hS hA (va_runV (As := [.int zi1637]) (rest := []) ⟨hx, hb, hml, hown, hT⟩ (cX12_sayNow_0 l G cy ev K ln Ls hW _ hp1531 ok1533 qa900 zi1637 kd900 (b_wid2 bd1638 (by decide) (by decide)) pd1639) (cwV 1 hT (good_V tb_1809 tb_1806 tb_1808 tb_87 tb_122) rfl rfl rfl (by decide +kernel) ⟨Nat.le_of_ble_eq_true rfl, Nat.le_of_ble_eq_true rfl⟩) (pool_preV (ci := 12) hK hE hS hA hw hW kd900 (by decide) rfl) rfl rfl hl.1 rfl (lv_room (Nat.le_of_ble_eq_true rfl)) dX12_never_64 ⟨Nat.le_of_ble_eq_true rfl, Nat.le_of_ble_eq_true rfl⟩) (fun zi1644 hp1640 H locs hq1643 hw hS => ?_)
                obtain ⟨ok1641, F1642, bd1645⟩ := hq1643
                have hw : PW G cy K ln Ls A hp1640 H := hw
                refine lv_pop hx hb dX12_never_67 rfl ?_
                obtain ⟨zi1646, ea1647⟩ : ∃ z : Int32, z = zi1530 + 1 := ⟨_, rfl⟩
                have bd1648 : (1 : Int) ≤ zi1646.toInt ∧ zi1646.toInt ≤ 6 := b_iadd ea1647 bd1633 bc_1 (by decide) (by decide) (by decide) (by decide)
                have qe1649 : zi1646.toInt = (zi1530 : Int32).toInt + (1 : Int32).toInt := e_iadd ea1647 bd1633 bc_1 (by decide) (by decide)
                have qe1650 : zi1646.toInt = zi1530.toInt + 1 := by have ha : (1 : Int32).toInt = 1 := (by decide); rw [ha] at qe1649; exact qe1649
                refine lv_iinc (v := zi1646) (lv' := [(4, .int zi1646), (0, .ref qa900), (2, .int zi902)]) hx hb dX12_never_68 hl (k := 2) rfl ea1647.symm (by decide) rfl (fun ls hl => ?_)
                refine lv_goto (tgt := 47) hx hb dX12_never_71 (by decide) ?_
                exact ih1584 hp1640 zi1646 _ _ ls (by have := hm1586; have := qe1650; omega) ok1641 (Fr.tr (Fr.tr (Fr.rf) F1532 (by decide)) F1642 (by decide)) (b_wid2 bd1648 (by decide) (by decide)) (lv_sub hl [1, 2, 0] rfl) hw hS
          exact lp1585 _ hp1394 0 _ _ ls (lp_in _) ok1396 (Fr.rf) (b_wid2 bc_0 (by decide) (by decide)) (lv_sub hl [1, 2, 0] rfl) hw hS
      exact lp1381 _ hp20 _ _ ls (lp_in _) ok21 (Fr.rf) xq25 (lv_sub hl [1, 3, 0] rfl) hw hS
    · skip
      have bd1651 : (7 : Int) ≤ zi14.toInt ∧ zi14.toInt ≤ 16 := r_lt_y (Int32.not_le.mp cn18) bc_6 bd15 (by decide) (by decide)
      refine lv_iconst (v := (-1)) hx hb dX12_never_17 (by decide) ?_
      rw [hQ]
      exact kz_i hx hb hr hlocks hS rfl hp0 hw ⟨ok0, (Fr.rf), (b_wid2 bc_m1 (by decide) (by decide))⟩ (Nat.le_of_ble_eq_true rfl) (Nat.le_of_ble_eq_true rfl) dX12_never_18

set_option maxRecDepth 100000 in
set_option maxHeartbeats 4000000 in
theorem cX12_fillsSets_0 (l : Launch) (G : va_G) (cy : Nat → ClassId) (ev : Ew) (K ln : Nat → Nat) (Ls : List Nat) (hW : SW K ln Ls) (sz : Nat) (hp0 : Nat → Nat → Value) (ok0 : Ok K hp0) (qa900 : Nat) (zi901 : Int32) (kd900 : K qa900 = 13) : Met l yX12_fillsSets (WS yX12_fillsSets cX12_fillsSets 4 none) { frames := 1, cells := 0, slots := 0, locals := 24 } (PB2 [.ref qa900, .int zi901] sz G cy ev (va_pl Ls (cellOf cy K ln hp0))) (QBv (S := (Nat → Nat → Value)) (fun u : (Nat → Nat → Value) => Ok K u ∧ Fr [98000] K hp0 u) G (fun u => va_pl Ls (cellOf cy K ln u)) (va_A (va_pl Ls (cellOf cy K ln hp0)) sz)) 0 0 (va_A (va_pl Ls (cellOf cy K ln hp0)) sz) := by
  refine met_of2 (y := yX12_fillsSets) (L := 4) (av := [.ref qa900, .int zi901]) (Qc := fun A => QBv (S := (Nat → Nat → Value)) (fun u : (Nat → Nat → Value) => Ok K u ∧ Fr [98000] K hp0 u) G (fun u => va_pl Ls (cellOf cy K ln u)) A) (plainFor_of_name (by decide)) (Nat.le_of_ble_eq_true rfl) ?_
  intro p e s m below meth c hsz hx hb hr hml hown hT hlocks hin hK A hA hE hw hS ls hl
  have hw : PW G cy K ln Ls A hp0 s.heap := hw
  have hown : s.vm.findClass "LieClockModel" = some m.cls := hown
  have hl : lv_has ls 4 [(0, .ref qa900), (1, .int zi901)] := hl
  obtain ⟨Q, hQ⟩ : ∃ Q : State → Prop, Q = MQ below (QBv (S := (Nat → Nat → Value)) (fun u : (Nat → Nat → Value) => Ok K u ∧ Fr [98000] K hp0 u) G (fun u => va_pl Ls (cellOf cy K ln u)) A) ([.ref qa900, .int zi901] : List Value).toArray s 0 0 A := ⟨_, rfl⟩
  rw [← hQ]
  refine lv_aload_n hx hb dX12_fillsSets_0 rfl (lv_at hl 0 rfl) ?_
  obtain ⟨qa2, eq1, kd3⟩ := rd_13060 ok0 kd900
  refine p_get (ci := 12) (v := .ref qa2) (C := RX12) (T := TX12) (N := 69) hx hb hT iw_X12 hown hK hw hW kd900 (by decide) rfl rfl 60 (by decide) eq1 (hT _ tb_1434) (fun _ h9 => h9) dX12_fillsSets_1 ?_
  refine lv_iconst (v := 0) hx hb dX12_fillsSets_4 (by decide) ?_
  refine lv_aload_n hx hb dX12_fillsSets_5 rfl (lv_at hl 0 rfl) ?_
  refine lv_aload_n hx hb dX12_fillsSets_6 rfl (lv_at hl 0 rfl) ?_
  obtain ⟨qa5, eq4, kd6⟩ := rd_13049 ok0 kd900
  refine p_get (ci := 12) (v := .ref qa5) (C := RX12) (T := TX12) (N := 69) hx hb hT iw_X12 hown hK hw hW kd900 (by decide) rfl rfl 49 (by decide) eq4 (hT _ tb_1423) (fun _ h9 => h9) dX12_fillsSets_7 ?_
  refine lv_iconst (v := 3) hx hb dX12_fillsSets_10 (by decide) ?_
  obtain ⟨zi8, eq7⟩ := rd_92000 ok0 kd6 ((3 : Int32).toNatClampNeg)
  refine p_iald (v := zi8) hx hb hK hw hW kd6 (by decide) rfl (hW.len kd6 (n := 40) rfl (by decide)) (vp_b bc_3 (by decide) (by decide)) eq7 dX12_fillsSets_11 ?_
  refine kq_l hw hS hA (va_runV (As := [.int zi8]) (rest := [.int 0, .ref qa2]) ⟨hx, hb, hml, hown, hT⟩ (cX12_mayBe_0 l G cy ev K ln Ls hW _ hp0 ok0 qa900 zi8 kd900) (cwV 1 hT (good_V tb_1784 tb_1781 tb_1783 tb_84 tb_122) rfl rfl rfl (by decide +kernel) ⟨Nat.le_of_ble_eq_true rfl, Nat.le_of_ble_eq_true rfl⟩) (pool_preV (ci := 12) hK hE hS hA hw hW kd900 (by decide) rfl) rfl rfl hl.1 rfl (lv_room (Nat.le_of_ble_eq_true rfl)) dX12_fillsSets_12 ⟨Nat.le_of_ble_eq_true rfl, Nat.le_of_ble_eq_true rfl⟩) (fun wl13 hp9 H locs hq12 hw hS => ?_)
  obtain ⟨ok10, F11⟩ := hq12
  obtain rfl : hp0 = hp9 := (Fr.nil F11).symm
  have hw : PW G cy K ln Ls A hp0 H := hw
  refine p_last (x := wl13) hx hb hK hw hS hW kd3 (by decide) rfl (hW.len kd3 (n := 65536) rfl (by decide)) (vp_b bc_0 (by decide) (by decide)) dX12_fillsSets_15 (fun hp14 eh15 H locs hw hS => ?_)
  have ok16 := wr_98000 ok0 kd3 eh15
  refine lv_iconst (v := 1) hx hb dX12_fillsSets_16 (by decide) ?_
  refine lv_istore_n (lv' := [(2, .int 1), (0, .ref qa900), (1, .int zi901)]) hx hb dX12_fillsSets_17 rfl hl (by decide) rfl (fun ls hl => ?_)
  have lp2162 : ∀ (n2160 : Nat) (hp1806 : Nat → Nat → Value) (zi1805 : Int32) (H : Heap) (locs : List Loc) (ls : Array Slot), 65536 - zi1805.toInt < (n2160 : Int) → Ok K hp1806 → Fr [98000] K hp14 hp1806 → ((1 : Int) ≤ zi1805.toInt ∧ zi1805.toInt ≤ 65536) → lv_has ls 4 [(0, .ref qa900), (1, .int zi901), (2, .int zi1805)] → PW G cy K ln Ls A hp1806 H → va_S A s.heap H locs → W p l e ({ frames := 1, cells := 0, slots := 0, locals := 24 } : Room) s m ([.ref qa900, .int zi901] : List Value).toArray below meth c H locs 0 0 Q (F0 m 18 ls []) := by
    intro n2160
    induction n2160 with
    | zero =>
      intro hp1806 zi1805 H locs ls hm2163 ok1808 F1807 bd1809 hl hw hS
      exact absurd hm2163 (by have := bd1809; omega)
    | succ n2160 ih2161 =>
      intro hp1806 zi1805 H locs ls hm2163 ok1808 F1807 bd1809 hl hw hS
      refine lv_iload_n hx hb dX12_fillsSets_18 rfl (lv_at hl 2 rfl) ?_
      refine lv_iconst (v := 1) hx hb dX12_fillsSets_19 (by decide) ?_
      refine lv_aload_n hx hb dX12_fillsSets_20 rfl (lv_at hl 0 rfl) ?_
      obtain ⟨qa2165, eq2164, kd2166⟩ := rd_13028 ok1808 kd900
      refine p_get (ci := 12) (v := .ref qa2165) (C := RX12) (T := TX12) (N := 69) hx hb hT iw_X12 hown hK hw hW kd900 (by decide) rfl rfl 28 (by decide) eq2164 (hT _ tb_1402) (fun _ h9 => h9) dX12_fillsSets_21 ?_
      refine lv_aload_n hx hb dX12_fillsSets_24 rfl (lv_at hl 0 rfl) ?_
      obtain ⟨zi2168, eq2167, bd2169⟩ := rd_13018 ok1808 kd900
      refine p_get (ci := 12) (v := .int zi2168) (C := RX12) (T := TX12) (N := 69) hx hb hT iw_X12 hown hK hw hW kd900 (by decide) rfl rfl 18 (by decide) eq2167 (hT _ tb_1392) (fun _ h9 => h9) dX12_fillsSets_25 ?_
      obtain ⟨zi2171, eq2170, bd2172⟩ := rd_74000 ok1808 kd2166 ((zi2168 : Int32).toNatClampNeg)
      refine p_iald (v := zi2171) hx hb hK hw hW kd2166 (by decide) rfl (hW.len kd2166 (n := 2) rfl (by decide)) (vp_b bd2169 (by decide) (by decide)) eq2170 dX12_fillsSets_28 ?_
      refine lv_ishl hx hb dX12_fillsSets_29 (lv_topi (fun zi2173 ea2174 => ?_))
      have bd2175 : (1 : Int) ≤ zi2173.toInt ∧ zi2173.toInt ≤ 65536 := b_shl1 16 ea2174 bd2172 (by decide) (by decide) (by decide) (by decide) (by decide)
      refine lv_icmp_ge (tgt := 91) hx hb dX12_fillsSets_30 (by decide) (fun cn2176 => ?_) (fun cn2176 => ?_)
      · skip
        have tf2177 : zi2173.toInt ≤ zi1805.toInt := (fa_le _ _).mp cn2176
        rw [hQ]
        exact kz_v hx hb hr hlocks hS hp1806 hw ⟨ok1808, (Fr.tr (Fr.put (cq := 98000) (Fr.rf) eh15 kd3 (cd_a (by decide)) (by decide)) F1807 (by decide))⟩ (Nat.le_of_ble_eq_true rfl) (Nat.le_of_ble_eq_true rfl) dX12_fillsSets_91
      · skip
        have tf2178 : zi1805.toInt < zi2173.toInt := (fa_lt _ _).mp (Int32.not_le.mp cn2176)
        have bd2179 : (1 : Int) ≤ zi1805.toInt ∧ zi1805.toInt ≤ 65535 := r_lt_x (Int32.not_le.mp cn2176) bd1809 bd2175 (by decide) (by decide)
        have bd2180 : (2 : Int) ≤ zi2173.toInt ∧ zi2173.toInt ≤ 65536 := r_lt_y (Int32.not_le.mp cn2176) bd1809 bd2175 (by decide) (by decide)
        refine lv_iconst (v := 0) hx hb dX12_fillsSets_33 (by decide) ?_
        refine lv_istore_n (lv' := [(3, .int 0), (0, .ref qa900), (1, .int zi901), (2, .int zi1805)]) hx hb dX12_fillsSets_34 rfl hl (by decide) rfl (fun ls hl => ?_)
        have lp2256 : ∀ (n2254 : Nat) (zi2219 : Int32) (H : Heap) (locs : List Loc) (ls : Array Slot), 15 - zi2219.toInt < (n2254 : Int) → ((0 : Int) ≤ zi2219.toInt ∧ zi2219.toInt ≤ 15) → ((zi1805 : Int32).toInt % ((2 ^ (zi2219 : Int32).toInt.toNat : Nat) : Int) = 0) → lv_has ls 4 [(0, .ref qa900), (1, .int zi901), (2, .int zi1805), (3, .int zi2219)] → PW G cy K ln Ls A hp1806 H → va_S A s.heap H locs → W p l e ({ frames := 1, cells := 0, slots := 0, locals := 24 } : Room) s m ([.ref qa900, .int zi901] : List Value).toArray below meth c H locs 0 0 Q (F0 m 35 ls []) := by
          intro n2254
          induction n2254 with
          | zero =>
            intro zi2219 H locs ls hm2257 bd2221 jx2220 hl hw hS
            exact absurd hm2257 (by have := bd2221; omega)
          | succ n2254 ih2255 =>
            intro zi2219 H locs ls hm2257 bd2221 jx2220 hl hw hS
            refine lv_iload_n hx hb dX12_fillsSets_35 rfl (lv_at hl 2 rfl) ?_
            refine lv_iload_n hx hb dX12_fillsSets_36 rfl (lv_at hl 3 rfl) ?_
            refine lv_ishr hx hb dX12_fillsSets_37 (lv_topi (fun zi2258 ea2259 => ?_))
            refine lv_iconst (v := 1) hx hb dX12_fillsSets_38 (by decide) ?_
            refine lv_iand hx hb dX12_fillsSets_39 (lv_topi (fun zi2260 ea2261 => ?_))
            have bd2262 : (0 : Int) ≤ zi2260.toInt ∧ zi2260.toInt ≤ 1 := b_and_r ea2261 bc_1 (by decide) (by decide) (by decide)
            refine lv_if_ne (tgt := 49) hx hb dX12_fillsSets_40 (by decide) (fun cn2263 => ?_) (fun cn2263 => ?_)
            · skip
              have tf2274 : (zi2260 : Int32).toInt ≠ (0 : Int32).toInt := fun e => cn2263 (Int32.toInt_inj.mp e)
              have := toi bc_0
              have bd2275 : (1 : Int) ≤ zi2260.toInt ∧ zi2260.toInt ≤ 1 := r_ne_lo cn2263 bd2262 (toi bc_0) (by decide) (by decide)
              refine lv_aload_n hx hb dX12_fillsSets_49 rfl (lv_at hl 0 rfl) ?_
              have eq2276 : hp1806 qa900 60 = .ref qa2 := Eq.trans (Fr.at (cq := 13060) F1807 kd900 (cd_o (by decide)) (by decide)) (Eq.trans (up_at eh15 (Or.inl (kd_ne kd900 kd3 (by decide)))) eq1)
              refine p_get (ci := 12) (v := .ref qa2) (C := RX12) (T := TX12) (N := 69) hx hb hT iw_X12 hown hK hw hW kd900 (by decide) rfl rfl 60 (by decide) eq2276 (hT _ tb_1434) (fun _ h9 => h9) dX12_fillsSets_50 ?_
              refine lv_iload_n hx hb dX12_fillsSets_53 rfl (lv_at hl 2 rfl) ?_
              refine lv_iload_n hx hb dX12_fillsSets_54 rfl (lv_at hl 2 rfl) ?_
              refine lv_iload_n hx hb dX12_fillsSets_55 rfl (lv_at hl 1 rfl) ?_
              refine lv_iconst (v := (-1)) hx hb dX12_fillsSets_56 (by decide) ?_
              refine lv_ixor hx hb dX12_fillsSets_57 (lv_topi (fun zi2277 ea2278 => ?_))
              refine lv_iand hx hb dX12_fillsSets_58 (lv_topi (fun zi2279 ea2280 => ?_))
              have bd2281 : (0 : Int) ≤ zi2279.toInt ∧ zi2279.toInt ≤ 65535 := b_and_l ea2280 bd2179 (by decide) (by decide) (by decide)
              have jn2303 : ∀ (wl2302 : Int64) (H : Heap) (locs : List Loc) (ls : Array Slot), lv_has ls 4 [(0, .ref qa900), (1, .int zi901), (2, .int zi1805)] → PW G cy K ln Ls A hp1806 H → va_S A s.heap H locs → W p l e ({ frames := 1, cells := 0, slots := 0, locals := 24 } : Room) s m ([.ref qa900, .int zi901] : List Value).toArray below meth c H locs 0 0 Q (F0 m 84 ls [.long wl2302, .int zi1805, .ref qa2]) := by
                intro wl2302 H locs ls hl hw hS
                refine p_last (x := wl2302) hx hb hK hw hS hW kd3 (by decide) rfl (hW.len kd3 (n := 65536) rfl (by decide)) (vp_b bd2179 (by decide) (by decide)) dX12_fillsSets_84 (fun hp2304 eh2305 H locs hw hS => ?_)
                have ok2306 := wr_98000 ok1808 kd3 eh2305
                obtain ⟨zi2307, ea2308⟩ : ∃ z : Int32, z = zi1805 + 1 := ⟨_, rfl⟩
                have bd2309 : (2 : Int) ≤ zi2307.toInt ∧ zi2307.toInt ≤ 65536 := b_iadd ea2308 bd2179 bc_1 (by decide) (by decide) (by decide) (by decide)
                have qe2310 : zi2307.toInt = (zi1805 : Int32).toInt + (1 : Int32).toInt := e_iadd ea2308 bd2179 bc_1 (by decide) (by decide)
                have qe2311 : zi2307.toInt = zi1805.toInt + 1 := by have ha : (1 : Int32).toInt = 1 := (by decide); rw [ha] at qe2310; exact qe2310
                refine lv_iinc (v := zi2307) (lv' := [(2, .int zi2307), (0, .ref qa900), (1, .int zi901)]) hx hb dX12_fillsSets_85 hl (k := 2) rfl ea2308.symm (by decide) rfl (fun ls hl => ?_)
                refine lv_goto (tgt := 18) hx hb dX12_fillsSets_88 (by decide) ?_
                exact ih2161 hp2304 zi2307 _ _ ls (by have := hm2163; have := qe2311; omega) ok2306 (Fr.put (cq := 98000) (Fr.tr (Fr.rf) F1807 (by decide)) eh2305 kd3 (cd_a (by decide)) (by decide)) (b_wid2 bd2309 (by decide) (by decide)) (lv_sub hl [1, 2, 0] rfl) hw hS
              refine lv_if_eq (tgt := 66) hx hb dX12_fillsSets_59 (by decide) (fun cn2282 => ?_) (fun cn2282 => ?_)
              · skip
                have bd2312 : (0 : Int) ≤ zi2279.toInt ∧ zi2279.toInt ≤ 0 := r_eq_x cn2282 bd2281 bc_0 (by decide) (by decide)
                refine lv_aload_n hx hb dX12_fillsSets_66 rfl (lv_at hl 0 rfl) ?_
                refine p_get (ci := 12) (v := .ref qa2) (C := RX12) (T := TX12) (N := 69) hx hb hT iw_X12 hown hK hw hW kd900 (by decide) rfl rfl 60 (by decide) eq2276 (hT _ tb_1434) (fun _ h9 => h9) dX12_fillsSets_67 ?_
                refine lv_iload_n hx hb dX12_fillsSets_70 rfl (lv_at hl 2 rfl) ?_
                refine lv_iconst (v := 1) hx hb dX12_fillsSets_71 (by decide) ?_
                refine lv_iload_n hx hb dX12_fillsSets_72 rfl (lv_at hl 3 rfl) ?_
                refine lv_ishl hx hb dX12_fillsSets_73 (lv_topi (fun zi2313 ea2314 => ?_))
                have bd2315 : (1 : Int) ≤ zi2313.toInt ∧ zi2313.toInt ≤ 32768 := b_shl1 15 ea2314 bd2221 (by decide) (by decide) (by decide) (by decide) (by decide)
                refine lv_iconst (v := (-1)) hx hb dX12_fillsSets_74 (by decide) ?_
                refine lv_ixor hx hb dX12_fillsSets_75 (lv_topi (fun zi2316 ea2317 => ?_))
                refine lv_iand hx hb dX12_fillsSets_76 (lv_topi (fun zi2318 ea2319 => ?_))
                have bd2320 : (0 : Int) ≤ zi2318.toInt ∧ zi2318.toInt ≤ 65535 := b_and_l ea2319 bd2179 (by decide) (by decide) (by decide)
                obtain ⟨wl2322, eq2321⟩ := rd_98000 ok1808 kd3 ((zi2318 : Int32).toNatClampNeg)
                refine p_lald (v := wl2322) hx hb hK hw hW kd3 (by decide) rfl (hW.len kd3 (n := 65536) rfl (by decide)) (vp_b bd2320 (by decide) (by decide)) eq2321 dX12_fillsSets_77 ?_
                refine lv_aload_n hx hb dX12_fillsSets_78 rfl (lv_at hl 0 rfl) ?_
                refine lv_iload_n hx hb dX12_fillsSets_79 rfl (lv_at hl 3 rfl) ?_
                refine kq_l hw hS hA (va_runV (As := [.int zi2219]) (rest := [.long wl2322, .int zi1805, .ref qa2]) ⟨hx, hb, hml, hown, hT⟩ (cX12_holdsOf_0 l G cy ev K ln Ls hW _ hp1806 ok1808 qa900 zi2219 kd900 (b_wid2 bd2221 (by decide) (by decide))) (cwV 1 hT (good_V tb_1750 tb_1747 tb_1749 tb_78 tb_122) rfl rfl rfl (by decide +kernel) ⟨Nat.le_of_ble_eq_true rfl, Nat.le_of_ble_eq_true rfl⟩) (pool_preV (ci := 12) hK hE hS hA hw hW kd900 (by decide) rfl) rfl rfl hl.1 rfl (lv_room (Nat.le_of_ble_eq_true rfl)) dX12_fillsSets_80 ⟨Nat.le_of_ble_eq_true rfl, Nat.le_of_ble_eq_true rfl⟩) (fun wl2327 hp2323 H locs hq2326 hw hS => ?_)
                obtain ⟨ok2324, F2325⟩ := hq2326
                obtain rfl : hp1806 = hp2323 := (Fr.nil F2325).symm
                have hw : PW G cy K ln Ls A hp1806 H := hw
                refine lv_land hx hb dX12_fillsSets_83 (lv_topl (fun wl2328 _ => ?_))
                exact jn2303 wl2328 _ _ ls (lv_sub hl [0, 1, 2] rfl) hw hS
              · skip
                have tf2329 : (zi2279 : Int32).toInt ≠ (0 : Int32).toInt := fun e => cn2282 (Int32.toInt_inj.mp e)
                have := toi bc_0
                have bd2330 : (1 : Int) ≤ zi2279.toInt ∧ zi2279.toInt ≤ 65535 := r_ne_lo cn2282 bd2281 (toi bc_0) (by decide) (by decide)
                refine lv_lconst (v := 0) hx hb dX12_fillsSets_62 (by decide) ?_
                refine lv_goto (tgt := 84) hx hb dX12_fillsSets_63 (by decide) ?_
                exact jn2303 0 _ _ ls (lv_sub hl [0, 1, 2] rfl) hw hS
            · skip
              have bd2331 : (0 : Int) ≤ zi2260.toInt ∧ zi2260.toInt ≤ 0 := r_eq_x cn2263 bd2262 bc_0 (by decide) (by decide)
              have pw2332 := pw_step2 ea2259 ea2261 (by have := bd2331; omega) (b_wid2 bd2179 (by decide) (by decide)) (b_wid2 bd2221 (by decide) (by decide)) jx2220
              have pw23321 := pw2332.1
              have bd2333 : (0 : Int) ≤ zi2219.toInt ∧ zi2219.toInt ≤ 14 := (by omega)
              obtain ⟨zi2334, ea2335⟩ : ∃ z : Int32, z = zi2219 + 1 := ⟨_, rfl⟩
              have bd2336 : (1 : Int) ≤ zi2334.toInt ∧ zi2334.toInt ≤ 15 := b_iadd ea2335 bd2333 bc_1 (by decide) (by decide) (by decide) (by decide)
              have qe2337 : zi2334.toInt = (zi2219 : Int32).toInt + (1 : Int32).toInt := e_iadd ea2335 bd2333 bc_1 (by decide) (by decide)
              have qe2338 : zi2334.toInt = zi2219.toInt + 1 := by have ha : (1 : Int32).toInt = 1 := (by decide); rw [ha] at qe2337; exact qe2337
              refine lv_iinc (v := zi2334) (lv' := [(3, .int zi2334), (0, .ref qa900), (1, .int zi901), (2, .int zi1805)]) hx hb dX12_fillsSets_43 hl (k := 3) rfl ea2335.symm (by decide) rfl (fun ls hl => ?_)
              refine lv_goto (tgt := 35) hx hb dX12_fillsSets_46 (by decide) ?_
              exact ih2255 zi2334 _ _ ls (by have := hm2257; have := qe2338; omega) (b_wid2 bd2336 (by decide) (by decide)) (by rw [show (zi2334 : Int32).toInt.toNat = (zi2219 : Int32).toInt.toNat + 1 from by omega]; exact pw2332.2) (lv_sub hl [1, 2, 3, 0] rfl) hw hS
        exact lp2256 _ 0 _ _ ls (lp_in _) (b_wid2 bc_0 (by decide) (by decide)) (pw_zero _) (lv_sub hl [1, 2, 3, 0] rfl) hw hS
  exact lp2162 _ hp14 1 _ _ ls (lp_in _) ok16 (Fr.rf) (b_wid2 bc_1 (by decide) (by decide)) (lv_sub hl [1, 2, 0] rfl) hw hS

set_option maxRecDepth 100000 in
set_option maxHeartbeats 4000000 in
theorem cX12_smallest_0 (l : Launch) (G : va_G) (cy : Nat → ClassId) (ev : Ew) (K ln : Nat → Nat) (Ls : List Nat) (hW : SW K ln Ls) (sz : Nat) (hp0 : Nat → Nat → Value) (ok0 : Ok K hp0) (qa900 : Nat) (kd900 : K qa900 = 13) : Met l yX12_smallest (WS yX12_smallest cX12_smallest 3 (some .int)) { frames := 2, cells := 0, slots := 0, locals := 47 } (PB2 [.ref qa900] sz G cy ev (va_pl Ls (cellOf cy K ln hp0))) (QBi (S := (Nat → Nat → Value)) (fun (r : Int32) (u : (Nat → Nat → Value)) => Ok K u ∧ Fr [98000] K hp0 u ∧ ((-2 : Int) ≤ r.toInt ∧ r.toInt ≤ 70000)) G (fun u => va_pl Ls (cellOf cy K ln u)) (va_A (va_pl Ls (cellOf cy K ln hp0)) sz)) 0 0 (va_A (va_pl Ls (cellOf cy K ln hp0)) sz) := by
  refine met_of2 (y := yX12_smallest) (L := 3) (av := [.ref qa900]) (Qc := fun A => QBi (S := (Nat → Nat → Value)) (fun (r : Int32) (u : (Nat → Nat → Value)) => Ok K u ∧ Fr [98000] K hp0 u ∧ ((-2 : Int) ≤ r.toInt ∧ r.toInt ≤ 70000)) G (fun u => va_pl Ls (cellOf cy K ln u)) A) (plainFor_of_name (by decide)) (Nat.le_of_ble_eq_true rfl) ?_
  intro p e s m below meth c hsz hx hb hr hml hown hT hlocks hin hK A hA hE hw hS ls hl
  have hw : PW G cy K ln Ls A hp0 s.heap := hw
  have hown : s.vm.findClass "LieClockModel" = some m.cls := hown
  have hl : lv_has ls 3 [(0, .ref qa900)] := hl
  obtain ⟨Q, hQ⟩ : ∃ Q : State → Prop, Q = MQ below (QBi (S := (Nat → Nat → Value)) (fun (r : Int32) (u : (Nat → Nat → Value)) => Ok K u ∧ Fr [98000] K hp0 u ∧ ((-2 : Int) ≤ r.toInt ∧ r.toInt ≤ 70000)) G (fun u => va_pl Ls (cellOf cy K ln u)) A) ([.ref qa900] : List Value).toArray s 0 0 A := ⟨_, rfl⟩
  rw [← hQ]
  refine lv_aload_n hx hb dX12_smallest_0 rfl (lv_at hl 0 rfl) ?_
  refine lv_ldcw (v := 65535) hx hb hown (hT _ tb_1905) dX12_smallest_1 ?_
  refine kq_v hw hS hA (va_runV (As := [.int 65535]) (rest := []) ⟨hx, hb, hml, hown, hT⟩ (cX12_fillsSets_0 l G cy ev K ln Ls hW _ hp0 ok0 qa900 65535 kd900) (cwV 1 hT (good_V tb_1909 tb_1906 tb_1908 tb_101 tb_122) rfl rfl rfl (by decide +kernel) ⟨Nat.le_of_ble_eq_true rfl, Nat.le_of_ble_eq_true rfl⟩) (pool_preV (ci := 12) hK hE hS hA hw hW kd900 (by decide) rfl) rfl rfl hl.1 rfl (lv_room (Nat.le_of_ble_eq_true rfl)) dX12_smallest_4 ⟨Nat.le_of_ble_eq_true rfl, Nat.le_of_ble_eq_true rfl⟩) (fun hp1 H locs hq4 hw hS => ?_)
  obtain ⟨ok2, F3⟩ := hq4
  have hw : PW G cy K ln Ls A hp1 H := hw
  refine lv_bipush (v := (-2)) hx hb dX12_smallest_7 (by decide) ?_
  refine lv_istore_n (lv' := [(1, .int (-2)), (0, .ref qa900)]) hx hb dX12_smallest_9 rfl hl (by decide) rfl (fun ls hl => ?_)
  refine lv_iconst (v := 1) hx hb dX12_smallest_10 (by decide) ?_
  refine lv_istore_n (lv' := [(2, .int 1), (1, .int (-2)), (0, .ref qa900)]) hx hb dX12_smallest_11 rfl hl (by decide) rfl (fun ls hl => ?_)
  have lp1004 : ∀ (n1002 : Nat) (zi844 : Int32) (zi845 : Int32) (H : Heap) (locs : List Loc) (ls : Array Slot), 65536 - zi845.toInt < (n1002 : Int) → ((-2 : Int) ≤ zi844.toInt ∧ zi844.toInt ≤ 70000) → ((1 : Int) ≤ zi845.toInt ∧ zi845.toInt ≤ 65536) → lv_has ls 3 [(0, .ref qa900), (1, .int zi844), (2, .int zi845)] → PW G cy K ln Ls A hp1 H → va_S A s.heap H locs → W p l e ({ frames := 2, cells := 0, slots := 0, locals := 47 } : Room) s m ([.ref qa900] : List Value).toArray below meth c H locs 0 0 Q (F0 m 12 ls []) := by
    intro n1002
    induction n1002 with
    | zero =>
      intro zi844 zi845 H locs ls hm1005 bd846 bd847 hl hw hS
      exact absurd hm1005 (by have := bd847; omega)
    | succ n1002 ih1003 =>
      intro zi844 zi845 H locs ls hm1005 bd846 bd847 hl hw hS
      refine lv_iload_n hx hb dX12_smallest_12 rfl (lv_at hl 2 rfl) ?_
      refine lv_iconst (v := 1) hx hb dX12_smallest_13 (by decide) ?_
      refine lv_aload_n hx hb dX12_smallest_14 rfl (lv_at hl 0 rfl) ?_
      obtain ⟨qa1007, eq1006, kd1008⟩ := rd_13028 ok2 kd900
      refine p_get (ci := 12) (v := .ref qa1007) (C := RX12) (T := TX12) (N := 69) hx hb hT iw_X12 hown hK hw hW kd900 (by decide) rfl rfl 28 (by decide) eq1006 (hT _ tb_1402) (fun _ h9 => h9) dX12_smallest_15 ?_
      refine lv_aload_n hx hb dX12_smallest_18 rfl (lv_at hl 0 rfl) ?_
      obtain ⟨zi1010, eq1009, bd1011⟩ := rd_13018 ok2 kd900
      refine p_get (ci := 12) (v := .int zi1010) (C := RX12) (T := TX12) (N := 69) hx hb hT iw_X12 hown hK hw hW kd900 (by decide) rfl rfl 18 (by decide) eq1009 (hT _ tb_1392) (fun _ h9 => h9) dX12_smallest_19 ?_
      obtain ⟨zi1013, eq1012, bd1014⟩ := rd_74000 ok2 kd1008 ((zi1010 : Int32).toNatClampNeg)
      refine p_iald (v := zi1013) hx hb hK hw hW kd1008 (by decide) rfl (hW.len kd1008 (n := 2) rfl (by decide)) (vp_b bd1011 (by decide) (by decide)) eq1012 dX12_smallest_22 ?_
      refine lv_ishl hx hb dX12_smallest_23 (lv_topi (fun zi1015 ea1016 => ?_))
      have bd1017 : (1 : Int) ≤ zi1015.toInt ∧ zi1015.toInt ≤ 65536 := b_shl1 16 ea1016 bd1014 (by decide) (by decide) (by decide) (by decide) (by decide)
      refine lv_icmp_ge (tgt := 61) hx hb dX12_smallest_24 (by decide) (fun cn1018 => ?_) (fun cn1018 => ?_)
      · skip
        refine lv_iload_n hx hb dX12_smallest_61 rfl (lv_at hl 1 rfl) ?_
        rw [hQ]
        exact kz_i hx hb hr hlocks hS rfl hp1 hw ⟨ok2, (Fr.tr (Fr.rf) F3 (by decide)), (b_wid2 bd846 (by decide) (by decide))⟩ (Nat.le_of_ble_eq_true rfl) (Nat.le_of_ble_eq_true rfl) dX12_smallest_62
      · skip
        have bd1083 : (1 : Int) ≤ zi845.toInt ∧ zi845.toInt ≤ 65535 := r_lt_x (Int32.not_le.mp cn1018) bd847 bd1017 (by decide) (by decide)
        have bd1084 : (2 : Int) ≤ zi1015.toInt ∧ zi1015.toInt ≤ 65536 := r_lt_y (Int32.not_le.mp cn1018) bd847 bd1017 (by decide) (by decide)
        refine lv_aload_n hx hb dX12_smallest_27 rfl (lv_at hl 0 rfl) ?_
        obtain ⟨qa1086, eq1085, kd1087⟩ := rd_13060 ok2 kd900
        refine p_get (ci := 12) (v := .ref qa1086) (C := RX12) (T := TX12) (N := 69) hx hb hT iw_X12 hown hK hw hW kd900 (by decide) rfl rfl 60 (by decide) eq1085 (hT _ tb_1434) (fun _ h9 => h9) dX12_smallest_28 ?_
        refine lv_iload_n hx hb dX12_smallest_31 rfl (lv_at hl 2 rfl) ?_
        obtain ⟨wl1089, eq1088⟩ := rd_98000 ok2 kd1087 ((zi845 : Int32).toNatClampNeg)
        refine p_lald (v := wl1089) hx hb hK hw hW kd1087 (by decide) rfl (hW.len kd1087 (n := 65536) rfl (by decide)) (vp_b bd1083 (by decide) (by decide)) eq1088 dX12_smallest_32 ?_
        refine lv_lconst (v := 0) hx hb dX12_smallest_33 (by decide) ?_
        refine W.lcmp hx hb dX12_smallest_34 (lv_topi (fun zi1090 ea1091 => ?_))
        have jn1118 : ∀ (zi1116 : Int32) (H : Heap) (locs : List Loc) (ls : Array Slot), ((-2 : Int) ≤ zi1116.toInt ∧ zi1116.toInt ≤ 70000) → lv_has ls 3 [(0, .ref qa900), (1, .int zi1116), (2, .int zi845)] → PW G cy K ln Ls A hp1 H → va_S A s.heap H locs → W p l e ({ frames := 2, cells := 0, slots := 0, locals := 47 } : Room) s m ([.ref qa900] : List Value).toArray below meth c H locs 0 0 Q (F0 m 55 ls []) := by
          intro zi1116 H locs ls bd1117 hl hw hS
          obtain ⟨zi1119, ea1120⟩ : ∃ z : Int32, z = zi845 + 1 := ⟨_, rfl⟩
          have bd1121 : (2 : Int) ≤ zi1119.toInt ∧ zi1119.toInt ≤ 65536 := b_iadd ea1120 bd1083 bc_1 (by decide) (by decide) (by decide) (by decide)
          have qe1122 : zi1119.toInt = (zi845 : Int32).toInt + (1 : Int32).toInt := e_iadd ea1120 bd1083 bc_1 (by decide) (by decide)
          have qe1123 : zi1119.toInt = zi845.toInt + 1 := by have ha : (1 : Int32).toInt = 1 := (by decide); rw [ha] at qe1122; exact qe1122
          refine lv_iinc (v := zi1119) (lv' := [(2, .int zi1119), (0, .ref qa900), (1, .int zi1116)]) hx hb dX12_smallest_55 hl (k := 2) rfl ea1120.symm (by decide) rfl (fun ls hl => ?_)
          refine lv_goto (tgt := 12) hx hb dX12_smallest_58 (by decide) ?_
          exact ih1003 zi1116 zi1119 _ _ ls (by have := hm1005; have := qe1123; omega) (b_wid2 bd1117 (by decide) (by decide)) (b_wid2 bd1121 (by decide) (by decide)) (lv_sub hl [1, 2, 0] rfl) hw hS
        refine lv_if_ne (tgt := 55) hx hb dX12_smallest_35 (by decide) (fun cn1092 => ?_) (fun cn1092 => ?_)
        · skip
          exact jn1118 zi844 _ _ ls (b_wid2 bd846 (by decide) (by decide)) (lv_sub hl [0, 1, 2] rfl) hw hS
        · skip
          have bd1124 : (0 : Int) ≤ zi1090.toInt ∧ zi1090.toInt ≤ 0 := r_eq_x cn1092 (b_all zi1090) bc_0 (by decide) (by decide)
          refine lv_iload_n hx hb dX12_smallest_38 rfl (lv_at hl 1 rfl) ?_
          refine lv_if_lt (tgt := 53) hx hb dX12_smallest_39 (by decide) (fun cn1125 => ?_) (fun cn1125 => ?_)
          · skip
            have bd1126 : (-2 : Int) ≤ zi844.toInt ∧ zi844.toInt ≤ -1 := r_lt_x cn1125 bd846 bc_0 (by decide) (by decide)
            refine lv_iload_n hx hb dX12_smallest_53 rfl (lv_at hl 2 rfl) ?_
            refine lv_istore_n (lv' := [(1, .int zi845), (0, .ref qa900), (2, .int zi845)]) hx hb dX12_smallest_54 rfl hl (by decide) rfl (fun ls hl => ?_)
            exact jn1118 zi845 _ _ ls (b_wid2 bd1083 (by decide) (by decide)) (lv_sub hl [1, 0, 2] rfl) hw hS
          · skip
            have bd1127 : (0 : Int) ≤ zi844.toInt ∧ zi844.toInt ≤ 70000 := r_le_y (Int32.not_lt.mp cn1125) bc_0 bd846 (by decide) (by decide)
            refine lv_iload_n hx hb dX12_smallest_42 rfl (lv_at hl 2 rfl) ?_
            refine kq_i hw hS hA (va_runS (As := [.int zi845]) (rest := []) ⟨hx, hb, hml, hown, hT⟩ (cX12_bits_0 l G cy ev K ln Ls hW _ hp1 ok2 zi845) (va_cwS 1 hT (good_S tb_1776 tb_1774 tb_1775 tb_122) rfl rfl rfl (by decide +kernel) ⟨Nat.le_of_ble_eq_true rfl, Nat.le_of_ble_eq_true rfl⟩) (PB2.preS hK hE hS hA hw) rfl rfl hl.1 rfl (lv_room (Nat.le_of_ble_eq_true rfl)) dX12_smallest_43 ⟨Nat.le_of_ble_eq_true rfl, Nat.le_of_ble_eq_true rfl⟩) (fun zi1132 hp1128 H locs hq1131 hw hS => ?_)
            obtain ⟨ok1129, F1130, bd1133, ef1134, xq1135⟩ := hq1131
            obtain rfl : hp1 = hp1128 := (Fr.nil F1130).symm
            have hw : PW G cy K ln Ls A hp1 H := hw
            refine lv_iload_n hx hb dX12_smallest_46 rfl (lv_at hl 1 rfl) ?_
            refine kq_i hw hS hA (va_runS (As := [.int zi844]) (rest := [.int zi1132]) ⟨hx, hb, hml, hown, hT⟩ (cX12_bits_0 l G cy ev K ln Ls hW _ hp1 ok2 zi844) (va_cwS 1 hT (good_S tb_1776 tb_1774 tb_1775 tb_122) rfl rfl rfl (by decide +kernel) ⟨Nat.le_of_ble_eq_true rfl, Nat.le_of_ble_eq_true rfl⟩) (PB2.preS hK hE hS hA hw) rfl rfl hl.1 rfl (lv_room (Nat.le_of_ble_eq_true rfl)) dX12_smallest_47 ⟨Nat.le_of_ble_eq_true rfl, Nat.le_of_ble_eq_true rfl⟩) (fun zi1140 hp1136 H locs hq1139 hw hS => ?_)
            obtain ⟨ok1137, F1138, bd1141, ef1142, xq1143⟩ := hq1139
            obtain rfl : hp1 = hp1136 := (Fr.nil F1138).symm
            have hw : PW G cy K ln Ls A hp1 H := hw
            refine lv_icmp_ge (tgt := 55) hx hb dX12_smallest_50 (by decide) (fun cn1144 => ?_) (fun cn1144 => ?_)
            · skip
              exact jn1118 zi844 _ _ ls (b_wid2 bd1127 (by decide) (by decide)) (lv_sub hl [0, 1, 2] rfl) hw hS
            · skip
              have bd1145 : (0 : Int) ≤ zi1132.toInt ∧ zi1132.toInt ≤ 15 := r_lt_x (Int32.not_le.mp cn1144) bd1133 bd1141 (by decide) (by decide)
              have bd1146 : (1 : Int) ≤ zi1140.toInt ∧ zi1140.toInt ≤ 16 := r_lt_y (Int32.not_le.mp cn1144) bd1133 bd1141 (by decide) (by decide)
              refine lv_iload_n hx hb dX12_smallest_53 rfl (lv_at hl 2 rfl) ?_
              refine lv_istore_n (lv' := [(1, .int zi845), (0, .ref qa900), (2, .int zi845)]) hx hb dX12_smallest_54 rfl hl (by decide) rfl (fun ls hl => ?_)
              exact jn1118 zi845 _ _ ls (b_wid2 bd1083 (by decide) (by decide)) (lv_sub hl [1, 0, 2] rfl) hw hS
  exact lp1004 _ ((-2)) 1 _ _ ls (lp_in _) (b_wid2 bc_m2 (by decide) (by decide)) (b_wid2 bc_1 (by decide) (by decide)) (lv_sub hl [2, 1, 0] rfl) hw hS

set_option maxRecDepth 100000 in
set_option maxHeartbeats 4000000 in
theorem cX12_states_0 (l : Launch) (G : va_G) (cy : Nat → ClassId) (ev : Ew) (K ln : Nat → Nat) (Ls : List Nat) (hW : SW K ln Ls) (sz : Nat) (hp0 : Nat → Nat → Value) (ok0 : Ok K hp0) (qa900 : Nat) (zi901 : Int32) (kd900 : K qa900 = 13) : Met l yX12_states (WS yX12_states cX12_states 5 (some .int)) { frames := 2, cells := 0, slots := 0, locals := 43 } (PB2 [.ref qa900, .int zi901] sz G cy ev (va_pl Ls (cellOf cy K ln hp0))) (QBi (S := (Nat → Nat → Value)) (fun (r : Int32) (u : (Nat → Nat → Value)) => Ok K u ∧ Fr [] K hp0 u) G (fun u => va_pl Ls (cellOf cy K ln u)) (va_A (va_pl Ls (cellOf cy K ln hp0)) sz)) 0 0 (va_A (va_pl Ls (cellOf cy K ln hp0)) sz) := by
  refine met_of2 (y := yX12_states) (L := 5) (av := [.ref qa900, .int zi901]) (Qc := fun A => QBi (S := (Nat → Nat → Value)) (fun (r : Int32) (u : (Nat → Nat → Value)) => Ok K u ∧ Fr [] K hp0 u) G (fun u => va_pl Ls (cellOf cy K ln u)) A) (plainFor_of_name (by decide)) (Nat.le_of_ble_eq_true rfl) ?_
  intro p e s m below meth c hsz hx hb hr hml hown hT hlocks hin hK A hA hE hw hS ls hl
  have hw : PW G cy K ln Ls A hp0 s.heap := hw
  have hown : s.vm.findClass "LieClockModel" = some m.cls := hown
  have hl : lv_has ls 5 [(0, .ref qa900), (1, .int zi901)] := hl
  obtain ⟨Q, hQ⟩ : ∃ Q : State → Prop, Q = MQ below (QBi (S := (Nat → Nat → Value)) (fun (r : Int32) (u : (Nat → Nat → Value)) => Ok K u ∧ Fr [] K hp0 u) G (fun u => va_pl Ls (cellOf cy K ln u)) A) ([.ref qa900, .int zi901] : List Value).toArray s 0 0 A := ⟨_, rfl⟩
  rw [← hQ]
  refine lv_aload_n hx hb dX12_states_0 rfl (lv_at hl 0 rfl) ?_
  refine lv_iload_n hx hb dX12_states_1 rfl (lv_at hl 1 rfl) ?_
  refine kq_i hw hS hA (va_runV (As := [.int zi901]) (rest := []) ⟨hx, hb, hml, hown, hT⟩ (cX12_isSet_0 l G cy ev K ln Ls hW _ hp0 ok0 qa900 zi901 kd900) (cwV 1 hT (good_V tb_1879 tb_1876 tb_1878 tb_97 tb_122) rfl rfl rfl (by decide +kernel) ⟨Nat.le_of_ble_eq_true rfl, Nat.le_of_ble_eq_true rfl⟩) (pool_preV (ci := 12) hK hE hS hA hw hW kd900 (by decide) rfl) rfl rfl hl.1 rfl (lv_room (Nat.le_of_ble_eq_true rfl)) dX12_states_2 ⟨Nat.le_of_ble_eq_true rfl, Nat.le_of_ble_eq_true rfl⟩) (fun zi5 hp1 H locs hq4 hw hS => ?_)
  obtain ⟨ok2, F3, bd6, hc7⟩ := hq4
  obtain rfl : hp0 = hp1 := (Fr.nil F3).symm
  have hw : PW G cy K ln Ls A hp0 H := hw
  rcases b01 bd6 with cn8 | cn8
  · skip
    subst cn8
    refine lv_if_ne (tgt := 10) hx hb dX12_states_5 (by decide) (fun c => absurd (d_eq bc_0 bc_0) c) (fun _ => ?_)
    refine lv_iconst (v := (-1)) hx hb dX12_states_8 (by decide) ?_
    rw [hQ]
    exact kz_i hx hb hr hlocks hS rfl hp0 hw ⟨ok0, (Fr.rf)⟩ (Nat.le_of_ble_eq_true rfl) (Nat.le_of_ble_eq_true rfl) dX12_states_9
  · skip
    subst cn8
    have bd9 : (0 : Int) ≤ zi901.toInt ∧ zi901.toInt ≤ 65535 := b_meet (b_all zi901) (hc7 rfl) (by decide) (by decide)
    refine lv_if_ne (tgt := 10) hx hb dX12_states_5 (by decide) (fun _ => ?_) (fun c => absurd c (d_ne bc_1 bc_0 (by decide)))
    refine lv_aload_n hx hb dX12_states_10 rfl (lv_at hl 0 rfl) ?_
    refine lv_aload_n hx hb dX12_states_11 rfl (lv_at hl 0 rfl) ?_
    obtain ⟨qa11, eq10, kd12⟩ := rd_13049 ok0 kd900
    refine p_get (ci := 12) (v := .ref qa11) (C := RX12) (T := TX12) (N := 69) hx hb hT iw_X12 hown hK hw hW kd900 (by decide) rfl rfl 49 (by decide) eq10 (hT _ tb_1423) (fun _ h9 => h9) dX12_states_12 ?_
    refine lv_iconst (v := 3) hx hb dX12_states_15 (by decide) ?_
    obtain ⟨zi14, eq13⟩ := rd_92000 ok0 kd12 ((3 : Int32).toNatClampNeg)
    refine p_iald (v := zi14) hx hb hK hw hW kd12 (by decide) rfl (hW.len kd12 (n := 40) rfl (by decide)) (vp_b bc_3 (by decide) (by decide)) eq13 dX12_states_16 ?_
    refine kq_l hw hS hA (va_runV (As := [.int zi14]) (rest := []) ⟨hx, hb, hml, hown, hT⟩ (cX12_mayBe_0 l G cy ev K ln Ls hW _ hp0 ok0 qa900 zi14 kd900) (cwV 1 hT (good_V tb_1784 tb_1781 tb_1783 tb_84 tb_122) rfl rfl rfl (by decide +kernel) ⟨Nat.le_of_ble_eq_true rfl, Nat.le_of_ble_eq_true rfl⟩) (pool_preV (ci := 12) hK hE hS hA hw hW kd900 (by decide) rfl) rfl rfl hl.1 rfl (lv_room (Nat.le_of_ble_eq_true rfl)) dX12_states_17 ⟨Nat.le_of_ble_eq_true rfl, Nat.le_of_ble_eq_true rfl⟩) (fun wl19 hp15 H locs hq18 hw hS => ?_)
    obtain ⟨ok16, F17⟩ := hq18
    obtain rfl : hp0 = hp15 := (Fr.nil F17).symm
    have hw : PW G cy K ln Ls A hp0 H := hw
    refine lv_lstore_n (lv' := [(2, .long wl19), (0, .ref qa900), (1, .int zi901)]) hx hb dX12_states_20 rfl hl (by decide) rfl (fun ls hl => ?_)
    refine lv_iconst (v := 0) hx hb dX12_states_21 (by decide) ?_
    refine lv_istore (lv' := [(4, .int 0), (2, .long wl19), (0, .ref qa900), (1, .int zi901)]) hx hb dX12_states_22 hl (by decide) rfl (fun ls hl => ?_)
    have lp319 : ∀ (n317 : Nat) (wl232 : Int64) (zi233 : Int32) (H : Heap) (locs : List Loc) (ls : Array Slot), 16 - zi233.toInt < (n317 : Int) → ((0 : Int) ≤ zi233.toInt ∧ zi233.toInt ≤ 16) → lv_has ls 5 [(0, .ref qa900), (1, .int zi901), (2, .long wl232), (4, .int zi233)] → PW G cy K ln Ls A hp0 H → va_S A s.heap H locs → W p l e ({ frames := 2, cells := 0, slots := 0, locals := 43 } : Room) s m ([.ref qa900, .int zi901] : List Value).toArray below meth c H locs 0 0 Q (F0 m 24 ls []) := by
      intro n317
      induction n317 with
      | zero =>
        intro wl232 zi233 H locs ls hm320 bd234 hl hw hS
        exact absurd hm320 (by have := bd234; omega)
      | succ n317 ih318 =>
        intro wl232 zi233 H locs ls hm320 bd234 hl hw hS
        refine lv_iload hx hb dX12_states_24 (lv_at hl 3 rfl) ?_
        refine lv_aload_n hx hb dX12_states_26 rfl (lv_at hl 0 rfl) ?_
        obtain ⟨qa322, eq321, kd323⟩ := rd_13028 ok0 kd900
        refine p_get (ci := 12) (v := .ref qa322) (C := RX12) (T := TX12) (N := 69) hx hb hT iw_X12 hown hK hw hW kd900 (by decide) rfl rfl 28 (by decide) eq321 (hT _ tb_1402) (fun _ h9 => h9) dX12_states_27 ?_
        refine lv_aload_n hx hb dX12_states_30 rfl (lv_at hl 0 rfl) ?_
        obtain ⟨zi325, eq324, bd326⟩ := rd_13018 ok0 kd900
        refine p_get (ci := 12) (v := .int zi325) (C := RX12) (T := TX12) (N := 69) hx hb hT iw_X12 hown hK hw hW kd900 (by decide) rfl rfl 18 (by decide) eq324 (hT _ tb_1392) (fun _ h9 => h9) dX12_states_31 ?_
        obtain ⟨zi328, eq327, bd329⟩ := rd_74000 ok0 kd323 ((zi325 : Int32).toNatClampNeg)
        refine p_iald (v := zi328) hx hb hK hw hW kd323 (by decide) rfl (hW.len kd323 (n := 2) rfl (by decide)) (vp_b bd326 (by decide) (by decide)) eq327 dX12_states_34 ?_
        refine lv_icmp_ge (tgt := 63) hx hb dX12_states_35 (by decide) (fun cn330 => ?_) (fun cn330 => ?_)
        · skip
          refine lv_lload_n hx hb dX12_states_63 rfl (lv_at hl 2 rfl) ?_
          refine kq_i hw hS hA (va_runS (As := [.long wl232]) (rest := []) ⟨hx, hb, hml, hown, hT⟩ (cX12_many_0 l G cy ev K ln Ls hW _ hp0 ok0 wl232) (va_cwS 1 hT (good_S tb_1757 tb_1755 tb_1756 tb_122) rfl rfl rfl (by decide +kernel) ⟨Nat.le_of_ble_eq_true rfl, Nat.le_of_ble_eq_true rfl⟩) (PB2.preS hK hE hS hA hw) rfl rfl hl.1 rfl (lv_room (Nat.le_of_ble_eq_true rfl)) dX12_states_64 ⟨Nat.le_of_ble_eq_true rfl, Nat.le_of_ble_eq_true rfl⟩) (fun zi366 hp362 H locs hq365 hw hS => ?_)
          obtain ⟨ok363, F364⟩ := hq365
          obtain rfl : hp0 = hp362 := (Fr.nil F364).symm
          have hw : PW G cy K ln Ls A hp0 H := hw
          rw [hQ]
          exact kz_i hx hb hr hlocks hS rfl hp0 hw ⟨ok0, (Fr.rf)⟩ (Nat.le_of_ble_eq_true rfl) (Nat.le_of_ble_eq_true rfl) dX12_states_67
        · skip
          have bd367 : (0 : Int) ≤ zi233.toInt ∧ zi233.toInt ≤ 15 := r_lt_x (Int32.not_le.mp cn330) bd234 bd329 (by decide) (by decide)
          have bd368 : (1 : Int) ≤ zi328.toInt ∧ zi328.toInt ≤ 16 := r_lt_y (Int32.not_le.mp cn330) bd234 bd329 (by decide) (by decide)
          refine lv_iload_n hx hb dX12_states_38 rfl (lv_at hl 1 rfl) ?_
          refine lv_iload hx hb dX12_states_39 (lv_at hl 3 rfl) ?_
          refine lv_ishr hx hb dX12_states_41 (lv_topi (fun zi369 ea370 => ?_))
          refine lv_iconst (v := 1) hx hb dX12_states_42 (by decide) ?_
          refine lv_iand hx hb dX12_states_43 (lv_topi (fun zi371 ea372 => ?_))
          have bd373 : (0 : Int) ≤ zi371.toInt ∧ zi371.toInt ≤ 1 := b_and_r ea372 bc_1 (by decide) (by decide) (by decide)
          refine lv_iconst (v := 1) hx hb dX12_states_44 (by decide) ?_
          have jn384 : ∀ (wl383 : Int64) (H : Heap) (locs : List Loc) (ls : Array Slot), lv_has ls 5 [(0, .ref qa900), (1, .int zi901), (2, .long wl383), (4, .int zi233)] → PW G cy K ln Ls A hp0 H → va_S A s.heap H locs → W p l e ({ frames := 2, cells := 0, slots := 0, locals := 43 } : Room) s m ([.ref qa900, .int zi901] : List Value).toArray below meth c H locs 0 0 Q (F0 m 57 ls []) := by
            intro wl383 H locs ls hl hw hS
            obtain ⟨zi385, ea386⟩ : ∃ z : Int32, z = zi233 + 1 := ⟨_, rfl⟩
            have bd387 : (1 : Int) ≤ zi385.toInt ∧ zi385.toInt ≤ 16 := b_iadd ea386 bd367 bc_1 (by decide) (by decide) (by decide) (by decide)
            have qe388 : zi385.toInt = (zi233 : Int32).toInt + (1 : Int32).toInt := e_iadd ea386 bd367 bc_1 (by decide) (by decide)
            have qe389 : zi385.toInt = zi233.toInt + 1 := by have ha : (1 : Int32).toInt = 1 := (by decide); rw [ha] at qe388; exact qe388
            refine lv_iinc (v := zi385) (lv' := [(4, .int zi385), (0, .ref qa900), (1, .int zi901), (2, .long wl383)]) hx hb dX12_states_57 hl (k := 3) rfl ea386.symm (by decide) rfl (fun ls hl => ?_)
            refine lv_goto (tgt := 24) hx hb dX12_states_60 (by decide) ?_
            exact ih318 wl383 zi385 _ _ ls (by have := hm320; have := qe389; omega) (b_wid2 bd387 (by decide) (by decide)) (lv_sub hl [1, 2, 3, 0] rfl) hw hS
          refine lv_icmp_ne (tgt := 57) hx hb dX12_states_45 (by decide) (fun cn374 => ?_) (fun cn374 => ?_)
          · skip
            have bd390 : (0 : Int) ≤ zi371.toInt ∧ zi371.toInt ≤ 0 := r_ne_hi cn374 bd373 (toi bc_1) (by decide) (by decide)
            exact jn384 wl232 _ _ ls (lv_sub hl [0, 1, 2, 3] rfl) hw hS
          · skip
            have bd391 : (1 : Int) ≤ zi371.toInt ∧ zi371.toInt ≤ 1 := r_eq_x cn374 bd373 bc_1 (by decide) (by decide)
            refine lv_lload_n hx hb dX12_states_48 rfl (lv_at hl 2 rfl) ?_
            refine lv_aload_n hx hb dX12_states_49 rfl (lv_at hl 0 rfl) ?_
            refine lv_iload hx hb dX12_states_50 (lv_at hl 3 rfl) ?_
            refine kq_l hw hS hA (va_runV (As := [.int zi233]) (rest := [.long wl232]) ⟨hx, hb, hml, hown, hT⟩ (cX12_holdsOf_0 l G cy ev K ln Ls hW _ hp0 ok0 qa900 zi233 kd900 (b_wid2 bd367 (by decide) (by decide))) (cwV 1 hT (good_V tb_1750 tb_1747 tb_1749 tb_78 tb_122) rfl rfl rfl (by decide +kernel) ⟨Nat.le_of_ble_eq_true rfl, Nat.le_of_ble_eq_true rfl⟩) (pool_preV (ci := 12) hK hE hS hA hw hW kd900 (by decide) rfl) rfl rfl hl.1 rfl (lv_room (Nat.le_of_ble_eq_true rfl)) dX12_states_52 ⟨Nat.le_of_ble_eq_true rfl, Nat.le_of_ble_eq_true rfl⟩) (fun wl396 hp392 H locs hq395 hw hS => ?_)
            obtain ⟨ok393, F394⟩ := hq395
            obtain rfl : hp0 = hp392 := (Fr.nil F394).symm
            have hw : PW G cy K ln Ls A hp0 H := hw
            refine lv_land hx hb dX12_states_55 (lv_topl (fun wl397 _ => ?_))
            refine lv_lstore_n (lv' := [(2, .long wl397), (0, .ref qa900), (1, .int zi901), (4, .int zi233)]) hx hb dX12_states_56 rfl hl (by decide) rfl (fun ls hl => ?_)
            exact jn384 wl397 _ _ ls (lv_sub hl [1, 2, 0, 3] rfl) hw hS
    exact lp319 _ wl19 0 _ _ ls (lp_in _) (b_wid2 bc_0 (by decide) (by decide)) (lv_sub hl [2, 3, 1, 0] rfl) hw hS

set_option maxRecDepth 100000 in
set_option maxHeartbeats 4000000 in
theorem cX12_looks_0 (l : Launch) (G : va_G) (cy : Nat → ClassId) (ev : Ew) (K ln : Nat → Nat) (Ls : List Nat) (hW : SW K ln Ls) (sz : Nat) (hp0 : Nat → Nat → Value) (ok0 : Ok K hp0) (qa900 : Nat) (zi901 : Int32) (kd900 : K qa900 = 13) : Met l yX12_looks (WS yX12_looks cX12_looks 4 (some .int)) { frames := 2, cells := 0, slots := 0, locals := 43 } (PB2 [.ref qa900, .int zi901] sz G cy ev (va_pl Ls (cellOf cy K ln hp0))) (QBi (S := (Nat → Nat → Value)) (fun (r : Int32) (u : (Nat → Nat → Value)) => Ok K u ∧ Fr [] K hp0 u ∧ ((-2 : Int) ≤ r.toInt ∧ r.toInt ≤ 64)) G (fun u => va_pl Ls (cellOf cy K ln u)) (va_A (va_pl Ls (cellOf cy K ln hp0)) sz)) 0 0 (va_A (va_pl Ls (cellOf cy K ln hp0)) sz) := by
  refine met_of2 (y := yX12_looks) (L := 4) (av := [.ref qa900, .int zi901]) (Qc := fun A => QBi (S := (Nat → Nat → Value)) (fun (r : Int32) (u : (Nat → Nat → Value)) => Ok K u ∧ Fr [] K hp0 u ∧ ((-2 : Int) ≤ r.toInt ∧ r.toInt ≤ 64)) G (fun u => va_pl Ls (cellOf cy K ln u)) A) (plainFor_of_name (by decide)) (Nat.le_of_ble_eq_true rfl) ?_
  intro p e s m below meth c hsz hx hb hr hml hown hT hlocks hin hK A hA hE hw hS ls hl
  have hw : PW G cy K ln Ls A hp0 s.heap := hw
  have hown : s.vm.findClass "LieClockModel" = some m.cls := hown
  have hl : lv_has ls 4 [(0, .ref qa900), (1, .int zi901)] := hl
  obtain ⟨Q, hQ⟩ : ∃ Q : State → Prop, Q = MQ below (QBi (S := (Nat → Nat → Value)) (fun (r : Int32) (u : (Nat → Nat → Value)) => Ok K u ∧ Fr [] K hp0 u ∧ ((-2 : Int) ≤ r.toInt ∧ r.toInt ≤ 64)) G (fun u => va_pl Ls (cellOf cy K ln u)) A) ([.ref qa900, .int zi901] : List Value).toArray s 0 0 A := ⟨_, rfl⟩
  rw [← hQ]
  refine lv_aload_n hx hb dX12_looks_0 rfl (lv_at hl 0 rfl) ?_
  refine lv_iload_n hx hb dX12_looks_1 rfl (lv_at hl 1 rfl) ?_
  refine kq_i hw hS hA (va_runV (As := [.int zi901]) (rest := []) ⟨hx, hb, hml, hown, hT⟩ (cX12_isWord_0 l G cy ev K ln Ls hW _ hp0 ok0 qa900 zi901 kd900) (cwV 1 hT (good_V tb_1742 tb_1739 tb_1741 tb_76 tb_122) rfl rfl rfl (by decide +kernel) ⟨Nat.le_of_ble_eq_true rfl, Nat.le_of_ble_eq_true rfl⟩) (pool_preV (ci := 12) hK hE hS hA hw hW kd900 (by decide) rfl) rfl rfl hl.1 rfl (lv_room (Nat.le_of_ble_eq_true rfl)) dX12_looks_2 ⟨Nat.le_of_ble_eq_true rfl, Nat.le_of_ble_eq_true rfl⟩) (fun zi5 hp1 H locs hq4 hw hS => ?_)
  obtain ⟨ok2, F3, bd6, hc7⟩ := hq4
  obtain rfl : hp0 = hp1 := (Fr.nil F3).symm
  have hw : PW G cy K ln Ls A hp0 H := hw
  rcases b01 bd6 with cn8 | cn8
  · skip
    subst cn8
    refine lv_if_ne (tgt := 10) hx hb dX12_looks_5 (by decide) (fun c => absurd (d_eq bc_0 bc_0) c) (fun _ => ?_)
    refine lv_iconst (v := (-1)) hx hb dX12_looks_8 (by decide) ?_
    rw [hQ]
    exact kz_i hx hb hr hlocks hS rfl hp0 hw ⟨ok0, (Fr.rf), (b_wid2 bc_m1 (by decide) (by decide))⟩ (Nat.le_of_ble_eq_true rfl) (Nat.le_of_ble_eq_true rfl) dX12_looks_9
  · skip
    subst cn8
    have bd9 : (0 : Int) ≤ zi901.toInt ∧ zi901.toInt ≤ 15 := b_meet (b_all zi901) (hc7 rfl) (by decide) (by decide)
    refine lv_if_ne (tgt := 10) hx hb dX12_looks_5 (by decide) (fun _ => ?_) (fun c => absurd c (d_ne bc_1 bc_0 (by decide)))
    refine lv_bipush (v := (-2)) hx hb dX12_looks_10 (by decide) ?_
    refine lv_istore_n (lv' := [(2, .int (-2)), (0, .ref qa900), (1, .int zi901)]) hx hb dX12_looks_12 rfl hl (by decide) rfl (fun ls hl => ?_)
    refine lv_iconst (v := 0) hx hb dX12_looks_13 (by decide) ?_
    refine lv_istore_n (lv' := [(3, .int 0), (2, .int (-2)), (0, .ref qa900), (1, .int zi901)]) hx hb dX12_looks_14 rfl hl (by decide) rfl (fun ls hl => ?_)
    have lp1265 : ∀ (n1263 : Nat) (zi963 : Int32) (zi964 : Int32) (H : Heap) (locs : List Loc) (ls : Array Slot), 64 - zi964.toInt < (n1263 : Int) → ((-2 : Int) ≤ zi963.toInt ∧ zi963.toInt ≤ 64) → ((0 : Int) ≤ zi964.toInt ∧ zi964.toInt ≤ 64) → lv_has ls 4 [(0, .ref qa900), (1, .int zi901), (2, .int zi963), (3, .int zi964)] → PW G cy K ln Ls A hp0 H → va_S A s.heap H locs → W p l e ({ frames := 2, cells := 0, slots := 0, locals := 43 } : Room) s m ([.ref qa900, .int zi901] : List Value).toArray below meth c H locs 0 0 Q (F0 m 15 ls []) := by
      intro n1263
      induction n1263 with
      | zero =>
        intro zi963 zi964 H locs ls hm1266 bd965 bd966 hl hw hS
        exact absurd hm1266 (by have := bd966; omega)
      | succ n1263 ih1264 =>
        intro zi963 zi964 H locs ls hm1266 bd965 bd966 hl hw hS
        refine lv_iload_n hx hb dX12_looks_15 rfl (lv_at hl 3 rfl) ?_
        refine lv_iconst (v := 1) hx hb dX12_looks_16 (by decide) ?_
        refine lv_aload_n hx hb dX12_looks_17 rfl (lv_at hl 0 rfl) ?_
        obtain ⟨qa1268, eq1267, kd1269⟩ := rd_13024 ok0 kd900
        refine p_get (ci := 12) (v := .ref qa1268) (C := RX12) (T := TX12) (N := 69) hx hb hT iw_X12 hown hK hw hW kd900 (by decide) rfl rfl 24 (by decide) eq1267 (hT _ tb_1398) (fun _ h9 => h9) dX12_looks_18 ?_
        refine lv_aload_n hx hb dX12_looks_21 rfl (lv_at hl 0 rfl) ?_
        obtain ⟨zi1271, eq1270, bd1272⟩ := rd_13018 ok0 kd900
        refine p_get (ci := 12) (v := .int zi1271) (C := RX12) (T := TX12) (N := 69) hx hb hT iw_X12 hown hK hw hW kd900 (by decide) rfl rfl 18 (by decide) eq1270 (hT _ tb_1392) (fun _ h9 => h9) dX12_looks_22 ?_
        obtain ⟨zi1274, eq1273, bd1275⟩ := rd_70000 ok0 kd1269 ((zi1271 : Int32).toNatClampNeg)
        refine p_iald (v := zi1274) hx hb hK hw hW kd1269 (by decide) rfl (hW.len kd1269 (n := 2) rfl (by decide)) (vp_b bd1272 (by decide) (by decide)) eq1273 dX12_looks_25 ?_
        refine lv_ishl hx hb dX12_looks_26 (lv_topi (fun zi1276 ea1277 => ?_))
        have bd1278 : (1 : Int) ≤ zi1276.toInt ∧ zi1276.toInt ≤ 64 := b_shl1 6 ea1277 bd1275 (by decide) (by decide) (by decide) (by decide) (by decide)
        refine lv_icmp_ge (tgt := 90) hx hb dX12_looks_27 (by decide) (fun cn1279 => ?_) (fun cn1279 => ?_)
        · skip
          have bd1415 : (1 : Int) ≤ zi964.toInt ∧ zi964.toInt ≤ 64 := r_le_y cn1279 bd1278 bd966 (by decide) (by decide)
          refine lv_iload_n hx hb dX12_looks_90 rfl (lv_at hl 2 rfl) ?_
          rw [hQ]
          exact kz_i hx hb hr hlocks hS rfl hp0 hw ⟨ok0, (Fr.rf), (b_wid2 bd965 (by decide) (by decide))⟩ (Nat.le_of_ble_eq_true rfl) (Nat.le_of_ble_eq_true rfl) dX12_looks_91
        · skip
          have bd1416 : (0 : Int) ≤ zi964.toInt ∧ zi964.toInt ≤ 63 := r_lt_x (Int32.not_le.mp cn1279) bd966 bd1278 (by decide) (by decide)
          refine lv_iload_n hx hb dX12_looks_30 rfl (lv_at hl 3 rfl) ?_
          refine lv_aload_n hx hb dX12_looks_31 rfl (lv_at hl 0 rfl) ?_
          obtain ⟨qa1418, eq1417, kd1419⟩ := rd_13049 ok0 kd900
          refine p_get (ci := 12) (v := .ref qa1418) (C := RX12) (T := TX12) (N := 69) hx hb hT iw_X12 hown hK hw hW kd900 (by decide) rfl rfl 49 (by decide) eq1417 (hT _ tb_1423) (fun _ h9 => h9) dX12_looks_32 ?_
          refine lv_iconst (v := 3) hx hb dX12_looks_35 (by decide) ?_
          obtain ⟨zi1421, eq1420⟩ := rd_92000 ok0 kd1419 ((3 : Int32).toNatClampNeg)
          refine p_iald (v := zi1421) hx hb hK hw hW kd1419 (by decide) rfl (hW.len kd1419 (n := 40) rfl (by decide)) (vp_b bc_3 (by decide) (by decide)) eq1420 dX12_looks_36 ?_
          refine lv_iand hx hb dX12_looks_37 (lv_topi (fun zi1422 ea1423 => ?_))
          have bd1424 : (0 : Int) ≤ zi1422.toInt ∧ zi1422.toInt ≤ 63 := b_and_l ea1423 bd1416 (by decide) (by decide) (by decide)
          have jn1486 : ∀ (zi1484 : Int32) (H : Heap) (locs : List Loc) (ls : Array Slot), ((-2 : Int) ≤ zi1484.toInt ∧ zi1484.toInt ≤ 64) → lv_has ls 4 [(0, .ref qa900), (1, .int zi901), (2, .int zi1484), (3, .int zi964)] → PW G cy K ln Ls A hp0 H → va_S A s.heap H locs → W p l e ({ frames := 2, cells := 0, slots := 0, locals := 43 } : Room) s m ([.ref qa900, .int zi901] : List Value).toArray below meth c H locs 0 0 Q (F0 m 84 ls []) := by
            intro zi1484 H locs ls bd1485 hl hw hS
            obtain ⟨zi1487, ea1488⟩ : ∃ z : Int32, z = zi964 + 1 := ⟨_, rfl⟩
            have bd1489 : (1 : Int) ≤ zi1487.toInt ∧ zi1487.toInt ≤ 64 := b_iadd ea1488 bd1416 bc_1 (by decide) (by decide) (by decide) (by decide)
            have qe1490 : zi1487.toInt = (zi964 : Int32).toInt + (1 : Int32).toInt := e_iadd ea1488 bd1416 bc_1 (by decide) (by decide)
            have qe1491 : zi1487.toInt = zi964.toInt + 1 := by have ha : (1 : Int32).toInt = 1 := (by decide); rw [ha] at qe1490; exact qe1490
            refine lv_iinc (v := zi1487) (lv' := [(3, .int zi1487), (0, .ref qa900), (1, .int zi901), (2, .int zi1484)]) hx hb dX12_looks_84 hl (k := 3) rfl ea1488.symm (by decide) rfl (fun ls hl => ?_)
            refine lv_goto (tgt := 15) hx hb dX12_looks_87 (by decide) ?_
            exact ih1264 zi1484 zi1487 _ _ ls (by have := hm1266; have := qe1491; omega) (b_wid2 bd1485 (by decide) (by decide)) (b_wid2 bd1489 (by decide) (by decide)) (lv_sub hl [1, 2, 3, 0] rfl) hw hS
          refine lv_if_ne (tgt := 84) hx hb dX12_looks_38 (by decide) (fun cn1425 => ?_) (fun cn1425 => ?_)
          · skip
            have bd1492 : (1 : Int) ≤ zi1422.toInt ∧ zi1422.toInt ≤ 63 := r_ne_lo cn1425 bd1424 (toi bc_0) (by decide) (by decide)
            exact jn1486 zi963 _ _ ls (b_wid2 bd965 (by decide) (by decide)) (lv_sub hl [0, 1, 2, 3] rfl) hw hS
          · skip
            have bd1493 : (0 : Int) ≤ zi1422.toInt ∧ zi1422.toInt ≤ 0 := r_eq_x cn1425 bd1424 bc_0 (by decide) (by decide)
            refine lv_iload_n hx hb dX12_looks_41 rfl (lv_at hl 2 rfl) ?_
            refine lv_if_lt (tgt := 59) hx hb dX12_looks_42 (by decide) (fun cn1494 => ?_) (fun cn1494 => ?_)
            · skip
              have bd1495 : (-2 : Int) ≤ zi963.toInt ∧ zi963.toInt ≤ -1 := r_lt_x cn1494 bd965 bc_0 (by decide) (by decide)
              refine lv_aload_n hx hb dX12_looks_59 rfl (lv_at hl 0 rfl) ?_
              refine lv_aload_n hx hb dX12_looks_60 rfl (lv_at hl 0 rfl) ?_
              refine p_get (ci := 12) (v := .ref qa1418) (C := RX12) (T := TX12) (N := 69) hx hb hT iw_X12 hown hK hw hW kd900 (by decide) rfl rfl 49 (by decide) eq1417 (hT _ tb_1423) (fun _ h9 => h9) dX12_looks_61 ?_
              refine lv_iconst (v := 3) hx hb dX12_looks_64 (by decide) ?_
              refine p_iald (v := zi1421) hx hb hK hw hW kd1419 (by decide) rfl (hW.len kd1419 (n := 40) rfl (by decide)) (vp_b bc_3 (by decide) (by decide)) eq1420 dX12_looks_65 ?_
              refine lv_iload_n hx hb dX12_looks_66 rfl (lv_at hl 3 rfl) ?_
              refine lv_ior hx hb dX12_looks_67 (lv_topi (fun zi1496 ea1497 => ?_))
              refine kq_l hw hS hA (va_runV (As := [.int zi1496]) (rest := []) ⟨hx, hb, hml, hown, hT⟩ (cX12_mayBe_0 l G cy ev K ln Ls hW _ hp0 ok0 qa900 zi1496 kd900) (cwV 1 hT (good_V tb_1784 tb_1781 tb_1783 tb_84 tb_122) rfl rfl rfl (by decide +kernel) ⟨Nat.le_of_ble_eq_true rfl, Nat.le_of_ble_eq_true rfl⟩) (pool_preV (ci := 12) hK hE hS hA hw hW kd900 (by decide) rfl) rfl rfl hl.1 rfl (lv_room (Nat.le_of_ble_eq_true rfl)) dX12_looks_68 ⟨Nat.le_of_ble_eq_true rfl, Nat.le_of_ble_eq_true rfl⟩) (fun wl1502 hp1498 H locs hq1501 hw hS => ?_)
              obtain ⟨ok1499, F1500⟩ := hq1501
              obtain rfl : hp0 = hp1498 := (Fr.nil F1500).symm
              have hw : PW G cy K ln Ls A hp0 H := hw
              refine lv_aload_n hx hb dX12_looks_71 rfl (lv_at hl 0 rfl) ?_
              refine lv_iload_n hx hb dX12_looks_72 rfl (lv_at hl 1 rfl) ?_
              refine kq_l hw hS hA (va_runV (As := [.int zi901]) (rest := [.long wl1502]) ⟨hx, hb, hml, hown, hT⟩ (cX12_holdsOf_0 l G cy ev K ln Ls hW _ hp0 ok0 qa900 zi901 kd900 (b_wid2 bd9 (by decide) (by decide))) (cwV 1 hT (good_V tb_1750 tb_1747 tb_1749 tb_78 tb_122) rfl rfl rfl (by decide +kernel) ⟨Nat.le_of_ble_eq_true rfl, Nat.le_of_ble_eq_true rfl⟩) (pool_preV (ci := 12) hK hE hS hA hw hW kd900 (by decide) rfl) rfl rfl hl.1 rfl (lv_room (Nat.le_of_ble_eq_true rfl)) dX12_looks_73 ⟨Nat.le_of_ble_eq_true rfl, Nat.le_of_ble_eq_true rfl⟩) (fun wl1507 hp1503 H locs hq1506 hw hS => ?_)
              obtain ⟨ok1504, F1505⟩ := hq1506
              obtain rfl : hp0 = hp1503 := (Fr.nil F1505).symm
              have hw : PW G cy K ln Ls A hp0 H := hw
              refine lv_land hx hb dX12_looks_76 (lv_topl (fun wl1508 _ => ?_))
              refine lv_lconst (v := 0) hx hb dX12_looks_77 (by decide) ?_
              refine W.lcmp hx hb dX12_looks_78 (lv_topi (fun zi1509 ea1510 => ?_))
              refine lv_if_ne (tgt := 84) hx hb dX12_looks_79 (by decide) (fun cn1511 => ?_) (fun cn1511 => ?_)
              · skip
                exact jn1486 zi963 _ _ ls (b_wid2 bd1495 (by decide) (by decide)) (lv_sub hl [0, 1, 2, 3] rfl) hw hS
              · skip
                have bd1512 : (0 : Int) ≤ zi1509.toInt ∧ zi1509.toInt ≤ 0 := r_eq_x cn1511 (b_all zi1509) bc_0 (by decide) (by decide)
                refine lv_iload_n hx hb dX12_looks_82 rfl (lv_at hl 3 rfl) ?_
                refine lv_istore_n (lv' := [(2, .int zi964), (0, .ref qa900), (1, .int zi901), (3, .int zi964)]) hx hb dX12_looks_83 rfl hl (by decide) rfl (fun ls hl => ?_)
                exact jn1486 zi964 _ _ ls (b_wid2 bd1416 (by decide) (by decide)) (lv_sub hl [1, 2, 0, 3] rfl) hw hS
            · skip
              have bd1513 : (0 : Int) ≤ zi963.toInt ∧ zi963.toInt ≤ 64 := r_le_y (Int32.not_lt.mp cn1494) bc_0 bd965 (by decide) (by decide)
              refine lv_iload_n hx hb dX12_looks_45 rfl (lv_at hl 3 rfl) ?_
              refine kq_i hw hS hA (va_runS (As := [.int zi964]) (rest := []) ⟨hx, hb, hml, hown, hT⟩ (cX12_bits_0 l G cy ev K ln Ls hW _ hp0 ok0 zi964) (va_cwS 1 hT (good_S tb_1776 tb_1774 tb_1775 tb_122) rfl rfl rfl (by decide +kernel) ⟨Nat.le_of_ble_eq_true rfl, Nat.le_of_ble_eq_true rfl⟩) (PB2.preS hK hE hS hA hw) rfl rfl hl.1 rfl (lv_room (Nat.le_of_ble_eq_true rfl)) dX12_looks_46 ⟨Nat.le_of_ble_eq_true rfl, Nat.le_of_ble_eq_true rfl⟩) (fun zi1518 hp1514 H locs hq1517 hw hS => ?_)
              obtain ⟨ok1515, F1516, bd1519, ef1520, xq1521⟩ := hq1517
              obtain rfl : hp0 = hp1514 := (Fr.nil F1516).symm
              have hw : PW G cy K ln Ls A hp0 H := hw
              refine lv_iload_n hx hb dX12_looks_49 rfl (lv_at hl 2 rfl) ?_
              refine kq_i hw hS hA (va_runS (As := [.int zi963]) (rest := [.int zi1518]) ⟨hx, hb, hml, hown, hT⟩ (cX12_bits_0 l G cy ev K ln Ls hW _ hp0 ok0 zi963) (va_cwS 1 hT (good_S tb_1776 tb_1774 tb_1775 tb_122) rfl rfl rfl (by decide +kernel) ⟨Nat.le_of_ble_eq_true rfl, Nat.le_of_ble_eq_true rfl⟩) (PB2.preS hK hE hS hA hw) rfl rfl hl.1 rfl (lv_room (Nat.le_of_ble_eq_true rfl)) dX12_looks_50 ⟨Nat.le_of_ble_eq_true rfl, Nat.le_of_ble_eq_true rfl⟩) (fun zi1526 hp1522 H locs hq1525 hw hS => ?_)
              obtain ⟨ok1523, F1524, bd1527, ef1528, xq1529⟩ := hq1525
              obtain rfl : hp0 = hp1522 := (Fr.nil F1524).symm
              have hw : PW G cy K ln Ls A hp0 H := hw
              refine lv_icmp_lt (tgt := 59) hx hb dX12_looks_53 (by decide) (fun cn1530 => ?_) (fun cn1530 => ?_)
              · skip
                have bd1531 : (0 : Int) ≤ zi1518.toInt ∧ zi1518.toInt ≤ 15 := r_lt_x cn1530 bd1519 bd1527 (by decide) (by decide)
                have bd1532 : (1 : Int) ≤ zi1526.toInt ∧ zi1526.toInt ≤ 16 := r_lt_y cn1530 bd1519 bd1527 (by decide) (by decide)
                refine lv_aload_n hx hb dX12_looks_59 rfl (lv_at hl 0 rfl) ?_
                refine lv_aload_n hx hb dX12_looks_60 rfl (lv_at hl 0 rfl) ?_
                refine p_get (ci := 12) (v := .ref qa1418) (C := RX12) (T := TX12) (N := 69) hx hb hT iw_X12 hown hK hw hW kd900 (by decide) rfl rfl 49 (by decide) eq1417 (hT _ tb_1423) (fun _ h9 => h9) dX12_looks_61 ?_
                refine lv_iconst (v := 3) hx hb dX12_looks_64 (by decide) ?_
                refine p_iald (v := zi1421) hx hb hK hw hW kd1419 (by decide) rfl (hW.len kd1419 (n := 40) rfl (by decide)) (vp_b bc_3 (by decide) (by decide)) eq1420 dX12_looks_65 ?_
                refine lv_iload_n hx hb dX12_looks_66 rfl (lv_at hl 3 rfl) ?_
                refine lv_ior hx hb dX12_looks_67 (lv_topi (fun zi1533 ea1534 => ?_))
                refine kq_l hw hS hA (va_runV (As := [.int zi1533]) (rest := []) ⟨hx, hb, hml, hown, hT⟩ (cX12_mayBe_0 l G cy ev K ln Ls hW _ hp0 ok0 qa900 zi1533 kd900) (cwV 1 hT (good_V tb_1784 tb_1781 tb_1783 tb_84 tb_122) rfl rfl rfl (by decide +kernel) ⟨Nat.le_of_ble_eq_true rfl, Nat.le_of_ble_eq_true rfl⟩) (pool_preV (ci := 12) hK hE hS hA hw hW kd900 (by decide) rfl) rfl rfl hl.1 rfl (lv_room (Nat.le_of_ble_eq_true rfl)) dX12_looks_68 ⟨Nat.le_of_ble_eq_true rfl, Nat.le_of_ble_eq_true rfl⟩) (fun wl1539 hp1535 H locs hq1538 hw hS => ?_)
                obtain ⟨ok1536, F1537⟩ := hq1538
                obtain rfl : hp0 = hp1535 := (Fr.nil F1537).symm
                have hw : PW G cy K ln Ls A hp0 H := hw
                refine lv_aload_n hx hb dX12_looks_71 rfl (lv_at hl 0 rfl) ?_
                refine lv_iload_n hx hb dX12_looks_72 rfl (lv_at hl 1 rfl) ?_
                refine kq_l hw hS hA (va_runV (As := [.int zi901]) (rest := [.long wl1539]) ⟨hx, hb, hml, hown, hT⟩ (cX12_holdsOf_0 l G cy ev K ln Ls hW _ hp0 ok0 qa900 zi901 kd900 (b_wid2 bd9 (by decide) (by decide))) (cwV 1 hT (good_V tb_1750 tb_1747 tb_1749 tb_78 tb_122) rfl rfl rfl (by decide +kernel) ⟨Nat.le_of_ble_eq_true rfl, Nat.le_of_ble_eq_true rfl⟩) (pool_preV (ci := 12) hK hE hS hA hw hW kd900 (by decide) rfl) rfl rfl hl.1 rfl (lv_room (Nat.le_of_ble_eq_true rfl)) dX12_looks_73 ⟨Nat.le_of_ble_eq_true rfl, Nat.le_of_ble_eq_true rfl⟩) (fun wl1544 hp1540 H locs hq1543 hw hS => ?_)
                obtain ⟨ok1541, F1542⟩ := hq1543
                obtain rfl : hp0 = hp1540 := (Fr.nil F1542).symm
                have hw : PW G cy K ln Ls A hp0 H := hw
                refine lv_land hx hb dX12_looks_76 (lv_topl (fun wl1545 _ => ?_))
                refine lv_lconst (v := 0) hx hb dX12_looks_77 (by decide) ?_
                refine W.lcmp hx hb dX12_looks_78 (lv_topi (fun zi1546 ea1547 => ?_))
                refine lv_if_ne (tgt := 84) hx hb dX12_looks_79 (by decide) (fun cn1548 => ?_) (fun cn1548 => ?_)
                · skip
                  exact jn1486 zi963 _ _ ls (b_wid2 bd1513 (by decide) (by decide)) (lv_sub hl [0, 1, 2, 3] rfl) hw hS
                · skip
                  have bd1549 : (0 : Int) ≤ zi1546.toInt ∧ zi1546.toInt ≤ 0 := r_eq_x cn1548 (b_all zi1546) bc_0 (by decide) (by decide)
                  refine lv_iload_n hx hb dX12_looks_82 rfl (lv_at hl 3 rfl) ?_
                  refine lv_istore_n (lv' := [(2, .int zi964), (0, .ref qa900), (1, .int zi901), (3, .int zi964)]) hx hb dX12_looks_83 rfl hl (by decide) rfl (fun ls hl => ?_)
                  exact jn1486 zi964 _ _ ls (b_wid2 bd1416 (by decide) (by decide)) (lv_sub hl [1, 2, 0, 3] rfl) hw hS
              · skip
                refine lv_goto (tgt := 84) hx hb dX12_looks_56 (by decide) ?_
                exact jn1486 zi963 _ _ ls (b_wid2 bd1513 (by decide) (by decide)) (lv_sub hl [0, 1, 2, 3] rfl) hw hS
    exact lp1265 _ ((-2)) 0 _ _ ls (lp_in _) (b_wid2 bc_m2 (by decide) (by decide)) (b_wid2 bc_0 (by decide) (by decide)) (lv_sub hl [2, 3, 1, 0] rfl) hw hS

set_option maxRecDepth 100000 in
set_option maxHeartbeats 4000000 in
theorem cX12_settled_0 (l : Launch) (G : va_G) (cy : Nat → ClassId) (ev : Ew) (K ln : Nat → Nat) (Ls : List Nat) (hW : SW K ln Ls) (sz : Nat) (hp0 : Nat → Nat → Value) (ok0 : Ok K hp0) (qa900 : Nat) (zi901 : Int32) (kd900 : K qa900 = 13) : Met l yX12_settled (WS yX12_settled cX12_settled 9 (some .int)) { frames := 2, cells := 0, slots := 0, locals := 47 } (PB2 [.ref qa900, .int zi901] sz G cy ev (va_pl Ls (cellOf cy K ln hp0))) (QBi (S := (Nat → Nat → Value)) (fun (r : Int32) (u : (Nat → Nat → Value)) => Ok K u ∧ Fr [98000] K hp0 u ∧ ((-2 : Int) ≤ r.toInt ∧ r.toInt ≤ 70000)) G (fun u => va_pl Ls (cellOf cy K ln u)) (va_A (va_pl Ls (cellOf cy K ln hp0)) sz)) 0 0 (va_A (va_pl Ls (cellOf cy K ln hp0)) sz) := by
  refine met_of2 (y := yX12_settled) (L := 9) (av := [.ref qa900, .int zi901]) (Qc := fun A => QBi (S := (Nat → Nat → Value)) (fun (r : Int32) (u : (Nat → Nat → Value)) => Ok K u ∧ Fr [98000] K hp0 u ∧ ((-2 : Int) ≤ r.toInt ∧ r.toInt ≤ 70000)) G (fun u => va_pl Ls (cellOf cy K ln u)) A) (plainFor_of_name (by decide)) (Nat.le_of_ble_eq_true rfl) ?_
  intro p e s m below meth c hsz hx hb hr hml hown hT hlocks hin hK A hA hE hw hS ls hl
  have hw : PW G cy K ln Ls A hp0 s.heap := hw
  have hown : s.vm.findClass "LieClockModel" = some m.cls := hown
  have hl : lv_has ls 9 [(0, .ref qa900), (1, .int zi901)] := hl
  obtain ⟨Q, hQ⟩ : ∃ Q : State → Prop, Q = MQ below (QBi (S := (Nat → Nat → Value)) (fun (r : Int32) (u : (Nat → Nat → Value)) => Ok K u ∧ Fr [98000] K hp0 u ∧ ((-2 : Int) ≤ r.toInt ∧ r.toInt ≤ 70000)) G (fun u => va_pl Ls (cellOf cy K ln u)) A) ([.ref qa900, .int zi901] : List Value).toArray s 0 0 A := ⟨_, rfl⟩
  rw [← hQ]
  refine lv_aload_n hx hb dX12_settled_0 rfl (lv_at hl 0 rfl) ?_
  refine lv_iload_n hx hb dX12_settled_1 rfl (lv_at hl 1 rfl) ?_
  refine kq_i hw hS hA (va_runV (As := [.int zi901]) (rest := []) ⟨hx, hb, hml, hown, hT⟩ (cX12_isCase_0 l G cy ev K ln Ls hW _ hp0 ok0 qa900 zi901 kd900) (cwV 1 hT (good_V tb_1797 tb_1794 tb_1796 tb_85 tb_122) rfl rfl rfl (by decide +kernel) ⟨Nat.le_of_ble_eq_true rfl, Nat.le_of_ble_eq_true rfl⟩) (pool_preV (ci := 12) hK hE hS hA hw hW kd900 (by decide) rfl) rfl rfl hl.1 rfl (lv_room (Nat.le_of_ble_eq_true rfl)) dX12_settled_2 ⟨Nat.le_of_ble_eq_true rfl, Nat.le_of_ble_eq_true rfl⟩) (fun zi5 hp1 H locs hq4 hw hS => ?_)
  obtain ⟨ok2, F3, bd6, hc7⟩ := hq4
  obtain rfl : hp0 = hp1 := (Fr.nil F3).symm
  have hw : PW G cy K ln Ls A hp0 H := hw
  rcases b01 bd6 with cn8 | cn8
  · skip
    subst cn8
    refine lv_if_ne (tgt := 10) hx hb dX12_settled_5 (by decide) (fun c => absurd (d_eq bc_0 bc_0) c) (fun _ => ?_)
    refine lv_iconst (v := (-1)) hx hb dX12_settled_8 (by decide) ?_
    rw [hQ]
    exact kz_i hx hb hr hlocks hS rfl hp0 hw ⟨ok0, (Fr.rf), (b_wid2 bc_m1 (by decide) (by decide))⟩ (Nat.le_of_ble_eq_true rfl) (Nat.le_of_ble_eq_true rfl) dX12_settled_9
  · skip
    subst cn8
    have bd9 : (0 : Int) ≤ zi901.toInt ∧ zi901.toInt ≤ 7 := b_meet (b_all zi901) (hc7 rfl) (by decide) (by decide)
    refine lv_if_ne (tgt := 10) hx hb dX12_settled_5 (by decide) (fun _ => ?_) (fun c => absurd c (d_ne bc_1 bc_0 (by decide)))
    refine lv_iconst (v := 0) hx hb dX12_settled_10 (by decide) ?_
    refine lv_istore_n (lv' := [(2, .int 0), (0, .ref qa900), (1, .int zi901)]) hx hb dX12_settled_11 rfl hl (by decide) rfl (fun ls hl => ?_)
    refine lv_iconst (v := 0) hx hb dX12_settled_12 (by decide) ?_
    refine lv_istore_n (lv' := [(3, .int 0), (2, .int 0), (0, .ref qa900), (1, .int zi901)]) hx hb dX12_settled_13 rfl hl (by decide) rfl (fun ls hl => ?_)
    have lp294 : ∀ (n292 : Nat) (zi209 : Int32) (zi210 : Int32) (H : Heap) (locs : List Loc) (ls : Array Slot), 16 - zi210.toInt < (n292 : Int) → ((0 : Int) ≤ zi210.toInt ∧ zi210.toInt ≤ 16) → lv_has ls 9 [(0, .ref qa900), (1, .int zi901), (2, .int zi209), (3, .int zi210)] → PW G cy K ln Ls A hp0 H → va_S A s.heap H locs → W p l e ({ frames := 2, cells := 0, slots := 0, locals := 47 } : Room) s m ([.ref qa900, .int zi901] : List Value).toArray below meth c H locs 0 0 Q (F0 m 14 ls []) := by
      intro n292
      induction n292 with
      | zero =>
        intro zi209 zi210 H locs ls hm295 bd211 hl hw hS
        exact absurd hm295 (by have := bd211; omega)
      | succ n292 ih293 =>
        intro zi209 zi210 H locs ls hm295 bd211 hl hw hS
        refine lv_iload_n hx hb dX12_settled_14 rfl (lv_at hl 3 rfl) ?_
        refine lv_aload_n hx hb dX12_settled_15 rfl (lv_at hl 0 rfl) ?_
        obtain ⟨qa297, eq296, kd298⟩ := rd_13028 ok0 kd900
        refine p_get (ci := 12) (v := .ref qa297) (C := RX12) (T := TX12) (N := 69) hx hb hT iw_X12 hown hK hw hW kd900 (by decide) rfl rfl 28 (by decide) eq296 (hT _ tb_1402) (fun _ h9 => h9) dX12_settled_16 ?_
        refine lv_aload_n hx hb dX12_settled_19 rfl (lv_at hl 0 rfl) ?_
        obtain ⟨zi300, eq299, bd301⟩ := rd_13018 ok0 kd900
        refine p_get (ci := 12) (v := .int zi300) (C := RX12) (T := TX12) (N := 69) hx hb hT iw_X12 hown hK hw hW kd900 (by decide) rfl rfl 18 (by decide) eq299 (hT _ tb_1392) (fun _ h9 => h9) dX12_settled_20 ?_
        obtain ⟨zi303, eq302, bd304⟩ := rd_74000 ok0 kd298 ((zi300 : Int32).toNatClampNeg)
        refine p_iald (v := zi303) hx hb hK hw hW kd298 (by decide) rfl (hW.len kd298 (n := 2) rfl (by decide)) (vp_b bd301 (by decide) (by decide)) eq302 dX12_settled_23 ?_
        refine lv_icmp_ge (tgt := 47) hx hb dX12_settled_24 (by decide) (fun cn305 => ?_) (fun cn305 => ?_)
        · skip
          refine lv_aload_n hx hb dX12_settled_47 rfl (lv_at hl 0 rfl) ?_
          refine lv_iload_n hx hb dX12_settled_48 rfl (lv_at hl 2 rfl) ?_
          refine kq_v hw hS hA (va_runV (As := [.int zi209]) (rest := []) ⟨hx, hb, hml, hown, hT⟩ (cX12_fillsSets_0 l G cy ev K ln Ls hW _ hp0 ok0 qa900 zi209 kd900) (cwV 1 hT (good_V tb_1909 tb_1906 tb_1908 tb_101 tb_122) rfl rfl rfl (by decide +kernel) ⟨Nat.le_of_ble_eq_true rfl, Nat.le_of_ble_eq_true rfl⟩) (pool_preV (ci := 12) hK hE hS hA hw hW kd900 (by decide) rfl) rfl rfl hl.1 rfl (lv_room (Nat.le_of_ble_eq_true rfl)) dX12_settled_49 ⟨Nat.le_of_ble_eq_true rfl, Nat.le_of_ble_eq_true rfl⟩) (fun hp336 H locs hq339 hw hS => ?_)
          obtain ⟨ok337, F338⟩ := hq339
          have hw : PW G cy K ln Ls A hp336 H := hw
          refine lv_aload_n hx hb dX12_settled_52 rfl (lv_at hl 0 rfl) ?_
          obtain ⟨qa342, eq341, kd343⟩ := rd_13034 ok337 kd900
          refine p_get (ci := 12) (v := .ref qa342) (C := RX12) (T := TX12) (N := 69) hx hb hT iw_X12 hown hK hw hW kd900 (by decide) rfl rfl 34 (by decide) eq341 (hT _ tb_1408) (fun _ h9 => h9) dX12_settled_53 ?_
          refine lv_bipush (v := 8) hx hb dX12_settled_56 (by decide) ?_
          refine lv_aload_n hx hb dX12_settled_58 rfl (lv_at hl 0 rfl) ?_
          have eq344 : hp336 qa900 18 = .int zi300 := Eq.trans (Fr.at (cq := 13018) F338 kd900 (cd_o (by decide)) (by decide)) eq299
          refine p_get (ci := 12) (v := .int zi300) (C := RX12) (T := TX12) (N := 69) hx hb hT iw_X12 hown hK hw hW kd900 (by decide) rfl rfl 18 (by decide) eq344 (hT _ tb_1392) (fun _ h9 => h9) dX12_settled_59 ?_
          refine lv_imul hx hb dX12_settled_62 (lv_topi (fun zi345 ea346 => ?_))
          have bd347 : (0 : Int) ≤ zi345.toInt ∧ zi345.toInt ≤ 8 := b_imul ea346 bc_8 bd301 (by decide) (by decide) (by decide) (by decide) (by decide)
          refine lv_iload_n hx hb dX12_settled_63 rfl (lv_at hl 1 rfl) ?_
          refine lv_iadd hx hb dX12_settled_64 (lv_topi (fun zi348 ea349 => ?_))
          have bd350 : (0 : Int) ≤ zi348.toInt ∧ zi348.toInt ≤ 15 := b_iadd ea349 bd347 bd9 (by decide) (by decide) (by decide) (by decide)
          obtain ⟨wl352, eq351⟩ := rd_80000 ok337 kd343 ((zi348 : Int32).toNatClampNeg)
          refine p_lald (v := wl352) hx hb hK hw hW kd343 (by decide) rfl (hW.len kd343 (n := 16) rfl (by decide)) (vp_b bd350 (by decide) (by decide)) eq351 dX12_settled_65 ?_
          refine lv_lstore_n (lv' := [(3, .long wl352), (0, .ref qa900), (1, .int zi901), (2, .int zi209)]) hx hb dX12_settled_66 rfl hl (by decide) rfl (fun ls hl => ?_)
          refine lv_bipush (v := (-2)) hx hb dX12_settled_67 (by decide) ?_
          refine lv_istore (lv' := [(5, .int (-2)), (3, .long wl352), (0, .ref qa900), (1, .int zi901), (2, .int zi209)]) hx hb dX12_settled_69 hl (by decide) rfl (fun ls hl => ?_)
          refine lv_iconst (v := 0) hx hb dX12_settled_71 (by decide) ?_
          refine lv_istore (lv' := [(6, .int 0), (5, .int (-2)), (3, .long wl352), (0, .ref qa900), (1, .int zi901), (2, .int zi209)]) hx hb dX12_settled_72 hl (by decide) rfl (fun ls hl => ?_)
          have lp1993 : ∀ (n1991 : Nat) (zi1727 : Int32) (zi1728 : Int32) (H : Heap) (locs : List Loc) (ls : Array Slot), 65536 - zi1728.toInt < (n1991 : Int) → ((-2 : Int) ≤ zi1727.toInt ∧ zi1727.toInt ≤ 70000) → ((0 : Int) ≤ zi1728.toInt ∧ zi1728.toInt ≤ 65536) → lv_has ls 9 [(0, .ref qa900), (2, .int zi209), (3, .long wl352), (5, .int zi1727), (6, .int zi1728)] → PW G cy K ln Ls A hp336 H → va_S A s.heap H locs → W p l e ({ frames := 2, cells := 0, slots := 0, locals := 47 } : Room) s m ([.ref qa900, .int zi901] : List Value).toArray below meth c H locs 0 0 Q (F0 m 74 ls []) := by
            intro n1991
            induction n1991 with
            | zero =>
              intro zi1727 zi1728 H locs ls hm1994 bd1729 bd1730 hl hw hS
              exact absurd hm1994 (by have := bd1730; omega)
            | succ n1991 ih1992 =>
              intro zi1727 zi1728 H locs ls hm1994 bd1729 bd1730 hl hw hS
              refine lv_iload hx hb dX12_settled_74 (lv_at hl 4 rfl) ?_
              refine lv_iconst (v := 1) hx hb dX12_settled_76 (by decide) ?_
              refine lv_aload_n hx hb dX12_settled_77 rfl (lv_at hl 0 rfl) ?_
              have eq1995 : hp336 qa900 28 = .ref qa297 := Eq.trans (Fr.at (cq := 13028) F338 kd900 (cd_o (by decide)) (by decide)) eq296
              refine p_get (ci := 12) (v := .ref qa297) (C := RX12) (T := TX12) (N := 69) hx hb hT iw_X12 hown hK hw hW kd900 (by decide) rfl rfl 28 (by decide) eq1995 (hT _ tb_1402) (fun _ h9 => h9) dX12_settled_78 ?_
              refine lv_aload_n hx hb dX12_settled_81 rfl (lv_at hl 0 rfl) ?_
              refine p_get (ci := 12) (v := .int zi300) (C := RX12) (T := TX12) (N := 69) hx hb hT iw_X12 hown hK hw hW kd900 (by decide) rfl rfl 18 (by decide) eq344 (hT _ tb_1392) (fun _ h9 => h9) dX12_settled_82 ?_
              have eq1996 : hp336 qa297 (zi300 : Int32).toNatClampNeg = .int zi303 := Eq.trans (Fr.at (cq := 74000) F338 kd298 (cd_a (by decide)) (by decide)) eq302
              refine p_iald (v := zi303) hx hb hK hw hW kd298 (by decide) rfl (hW.len kd298 (n := 2) rfl (by decide)) (vp_b bd301 (by decide) (by decide)) eq1996 dX12_settled_85 ?_
              refine lv_ishl hx hb dX12_settled_86 (lv_topi (fun zi1997 ea1998 => ?_))
              have bd1999 : (1 : Int) ≤ zi1997.toInt ∧ zi1997.toInt ≤ 65536 := b_shl1 16 ea1998 bd304 (by decide) (by decide) (by decide) (by decide) (by decide)
              refine lv_icmp_ge (tgt := 158) hx hb dX12_settled_87 (by decide) (fun cn2000 => ?_) (fun cn2000 => ?_)
              · skip
                have bd2125 : (1 : Int) ≤ zi1728.toInt ∧ zi1728.toInt ≤ 65536 := r_le_y cn2000 bd1999 bd1730 (by decide) (by decide)
                refine lv_iload hx hb dX12_settled_158 (lv_at hl 3 rfl) ?_
                rw [hQ]
                exact kz_i hx hb hr hlocks hS rfl hp336 hw ⟨ok337, (Fr.tr (Fr.rf) F338 (by decide)), (b_wid2 bd1729 (by decide) (by decide))⟩ (Nat.le_of_ble_eq_true rfl) (Nat.le_of_ble_eq_true rfl) dX12_settled_160
              · skip
                have bd2126 : (0 : Int) ≤ zi1728.toInt ∧ zi1728.toInt ≤ 65535 := r_lt_x (Int32.not_le.mp cn2000) bd1730 bd1999 (by decide) (by decide)
                refine lv_iload hx hb dX12_settled_90 (lv_at hl 4 rfl) ?_
                refine lv_iload_n hx hb dX12_settled_92 rfl (lv_at hl 1 rfl) ?_
                refine lv_iconst (v := (-1)) hx hb dX12_settled_93 (by decide) ?_
                refine lv_ixor hx hb dX12_settled_94 (lv_topi (fun zi2127 ea2128 => ?_))
                refine lv_iand hx hb dX12_settled_95 (lv_topi (fun zi2129 ea2130 => ?_))
                have bd2131 : (0 : Int) ≤ zi2129.toInt ∧ zi2129.toInt ≤ 65535 := b_and_l ea2130 bd2126 (by decide) (by decide) (by decide)
                have jn2189 : ∀ (zi2187 : Int32) (H : Heap) (locs : List Loc) (ls : Array Slot), ((-2 : Int) ≤ zi2187.toInt ∧ zi2187.toInt ≤ 70000) → lv_has ls 9 [(0, .ref qa900), (2, .int zi209), (3, .long wl352), (5, .int zi2187), (6, .int zi1728)] → PW G cy K ln Ls A hp336 H → va_S A s.heap H locs → W p l e ({ frames := 2, cells := 0, slots := 0, locals := 47 } : Room) s m ([.ref qa900, .int zi901] : List Value).toArray below meth c H locs 0 0 Q (F0 m 152 ls []) := by
                  intro zi2187 H locs ls bd2188 hl hw hS
                  obtain ⟨zi2190, ea2191⟩ : ∃ z : Int32, z = zi1728 + 1 := ⟨_, rfl⟩
                  have bd2192 : (1 : Int) ≤ zi2190.toInt ∧ zi2190.toInt ≤ 65536 := b_iadd ea2191 bd2126 bc_1 (by decide) (by decide) (by decide) (by decide)
                  have qe2193 : zi2190.toInt = (zi1728 : Int32).toInt + (1 : Int32).toInt := e_iadd ea2191 bd2126 bc_1 (by decide) (by decide)
                  have qe2194 : zi2190.toInt = zi1728.toInt + 1 := by have ha : (1 : Int32).toInt = 1 := (by decide); rw [ha] at qe2193; exact qe2193
                  refine lv_iinc (v := zi2190) (lv' := [(6, .int zi2190), (0, .ref qa900), (2, .int zi209), (3, .long wl352), (5, .int zi2187)]) hx hb dX12_settled_152 hl (k := 4) rfl ea2191.symm (by decide) rfl (fun ls hl => ?_)
                  refine lv_goto (tgt := 74) hx hb dX12_settled_155 (by decide) ?_
                  exact ih1992 zi2187 zi2190 _ _ ls (by have := hm1994; have := qe2194; omega) (b_wid2 bd2188 (by decide) (by decide)) (b_wid2 bd2192 (by decide) (by decide)) (lv_sub hl [1, 2, 3, 4, 0] rfl) hw hS
                refine lv_if_ne (tgt := 152) hx hb dX12_settled_96 (by decide) (fun cn2132 => ?_) (fun cn2132 => ?_)
                · skip
                  have bd2195 : (1 : Int) ≤ zi2129.toInt ∧ zi2129.toInt ≤ 65535 := r_ne_lo cn2132 bd2131 (toi bc_0) (by decide) (by decide)
                  exact jn2189 zi1727 _ _ ls (b_wid2 bd1729 (by decide) (by decide)) (lv_sub hl [0, 1, 2, 3, 4] rfl) hw hS
                · skip
                  have bd2196 : (0 : Int) ≤ zi2129.toInt ∧ zi2129.toInt ≤ 0 := r_eq_x cn2132 bd2131 bc_0 (by decide) (by decide)
                  refine lv_iload hx hb dX12_settled_99 (lv_at hl 3 rfl) ?_
                  refine lv_if_lt (tgt := 120) hx hb dX12_settled_101 (by decide) (fun cn2197 => ?_) (fun cn2197 => ?_)
                  · skip
                    have bd2198 : (-2 : Int) ≤ zi1727.toInt ∧ zi1727.toInt ≤ -1 := r_lt_x cn2197 bd1729 bc_0 (by decide) (by decide)
                    refine lv_aload_n hx hb dX12_settled_120 rfl (lv_at hl 0 rfl) ?_
                    obtain ⟨qa2200, eq2199, kd2201⟩ := rd_13060 ok337 kd900
                    refine p_get (ci := 12) (v := .ref qa2200) (C := RX12) (T := TX12) (N := 69) hx hb hT iw_X12 hown hK hw hW kd900 (by decide) rfl rfl 60 (by decide) eq2199 (hT _ tb_1434) (fun _ h9 => h9) dX12_settled_121 ?_
                    refine lv_iload hx hb dX12_settled_124 (lv_at hl 4 rfl) ?_
                    obtain ⟨wl2203, eq2202⟩ := rd_98000 ok337 kd2201 ((zi1728 : Int32).toNatClampNeg)
                    refine p_lald (v := wl2203) hx hb hK hw hW kd2201 (by decide) rfl (hW.len kd2201 (n := 65536) rfl (by decide)) (vp_b bd2126 (by decide) (by decide)) eq2202 dX12_settled_126 ?_
                    refine lv_lstore (lv' := [(7, .long wl2203), (0, .ref qa900), (2, .int zi209), (3, .long wl352), (5, .int zi1727), (6, .int zi1728)]) hx hb dX12_settled_127 hl (by decide) rfl (fun ls hl => ?_)
                    refine lv_lload hx hb dX12_settled_129 (lv_at hl 0 rfl) ?_
                    refine lv_lload_n hx hb dX12_settled_131 rfl (lv_at hl 3 rfl) ?_
                    refine lv_land hx hb dX12_settled_132 (lv_topl (fun wl2204 _ => ?_))
                    refine lv_lload hx hb dX12_settled_133 (lv_at hl 0 rfl) ?_
                    refine W.lcmp hx hb dX12_settled_135 (lv_topi (fun zi2205 ea2206 => ?_))
                    refine lv_if_eq (tgt := 148) hx hb dX12_settled_136 (by decide) (fun cn2207 => ?_) (fun cn2207 => ?_)
                    · skip
                      have bd2208 : (0 : Int) ≤ zi2205.toInt ∧ zi2205.toInt ≤ 0 := r_eq_x cn2207 (b_all zi2205) bc_0 (by decide) (by decide)
                      refine lv_iload hx hb dX12_settled_148 (lv_at hl 5 rfl) ?_
                      refine lv_istore (lv' := [(5, .int zi1728), (7, .long wl2203), (0, .ref qa900), (2, .int zi209), (3, .long wl352), (6, .int zi1728)]) hx hb dX12_settled_150 hl (by decide) rfl (fun ls hl => ?_)
                      exact jn2189 zi1728 _ _ ls (b_wid2 bd2126 (by decide) (by decide)) (lv_sub hl [2, 3, 4, 0, 5] rfl) hw hS
                    · skip
                      refine lv_lload hx hb dX12_settled_139 (lv_at hl 0 rfl) ?_
                      refine lv_lload_n hx hb dX12_settled_141 rfl (lv_at hl 3 rfl) ?_
                      refine lv_land hx hb dX12_settled_142 (lv_topl (fun wl2209 _ => ?_))
                      refine lv_lconst (v := 0) hx hb dX12_settled_143 (by decide) ?_
                      refine W.lcmp hx hb dX12_settled_144 (lv_topi (fun zi2210 ea2211 => ?_))
                      refine lv_if_ne (tgt := 152) hx hb dX12_settled_145 (by decide) (fun cn2212 => ?_) (fun cn2212 => ?_)
                      · skip
                        exact jn2189 zi1727 _ _ ls (b_wid2 bd2198 (by decide) (by decide)) (lv_sub hl [1, 2, 3, 4, 5] rfl) hw hS
                      · skip
                        have bd2213 : (0 : Int) ≤ zi2210.toInt ∧ zi2210.toInt ≤ 0 := r_eq_x cn2212 (b_all zi2210) bc_0 (by decide) (by decide)
                        refine lv_iload hx hb dX12_settled_148 (lv_at hl 5 rfl) ?_
                        refine lv_istore (lv' := [(5, .int zi1728), (7, .long wl2203), (0, .ref qa900), (2, .int zi209), (3, .long wl352), (6, .int zi1728)]) hx hb dX12_settled_150 hl (by decide) rfl (fun ls hl => ?_)
                        exact jn2189 zi1728 _ _ ls (b_wid2 bd2126 (by decide) (by decide)) (lv_sub hl [2, 3, 4, 0, 5] rfl) hw hS
                  · skip
                    have bd2214 : (0 : Int) ≤ zi1727.toInt ∧ zi1727.toInt ≤ 70000 := r_le_y (Int32.not_lt.mp cn2197) bc_0 bd1729 (by decide) (by decide)
                    refine lv_iload hx hb dX12_settled_104 (lv_at hl 4 rfl) ?_
                    refine kq_i hw hS hA (va_runS (As := [.int zi1728]) (rest := []) ⟨hx, hb, hml, hown, hT⟩ (cX12_bits_0 l G cy ev K ln Ls hW _ hp336 ok337 zi1728) (va_cwS 1 hT (good_S tb_1776 tb_1774 tb_1775 tb_122) rfl rfl rfl (by decide +kernel) ⟨Nat.le_of_ble_eq_true rfl, Nat.le_of_ble_eq_true rfl⟩) (PB2.preS hK hE hS hA hw) rfl rfl hl.1 rfl (lv_room (Nat.le_of_ble_eq_true rfl)) dX12_settled_106 ⟨Nat.le_of_ble_eq_true rfl, Nat.le_of_ble_eq_true rfl⟩) (fun zi2219 hp2215 H locs hq2218 hw hS => ?_)
                    obtain ⟨ok2216, F2217, bd2220, ef2221, xq2222⟩ := hq2218
                    obtain rfl : hp336 = hp2215 := (Fr.nil F2217).symm
                    have hw : PW G cy K ln Ls A hp336 H := hw
                    refine lv_iload hx hb dX12_settled_109 (lv_at hl 3 rfl) ?_
                    refine kq_i hw hS hA (va_runS (As := [.int zi1727]) (rest := [.int zi2219]) ⟨hx, hb, hml, hown, hT⟩ (cX12_bits_0 l G cy ev K ln Ls hW _ hp336 ok337 zi1727) (va_cwS 1 hT (good_S tb_1776 tb_1774 tb_1775 tb_122) rfl rfl rfl (by decide +kernel) ⟨Nat.le_of_ble_eq_true rfl, Nat.le_of_ble_eq_true rfl⟩) (PB2.preS hK hE hS hA hw) rfl rfl hl.1 rfl (lv_room (Nat.le_of_ble_eq_true rfl)) dX12_settled_111 ⟨Nat.le_of_ble_eq_true rfl, Nat.le_of_ble_eq_true rfl⟩) (fun zi2227 hp2223 H locs hq2226 hw hS => ?_)
                    obtain ⟨ok2224, F2225, bd2228, ef2229, xq2230⟩ := hq2226
                    obtain rfl : hp336 = hp2223 := (Fr.nil F2225).symm
                    have hw : PW G cy K ln Ls A hp336 H := hw
                    refine lv_icmp_lt (tgt := 120) hx hb dX12_settled_114 (by decide) (fun cn2231 => ?_) (fun cn2231 => ?_)
                    · skip
                      have bd2232 : (0 : Int) ≤ zi2219.toInt ∧ zi2219.toInt ≤ 15 := r_lt_x cn2231 bd2220 bd2228 (by decide) (by decide)
                      have bd2233 : (1 : Int) ≤ zi2227.toInt ∧ zi2227.toInt ≤ 16 := r_lt_y cn2231 bd2220 bd2228 (by decide) (by decide)
                      refine lv_aload_n hx hb dX12_settled_120 rfl (lv_at hl 0 rfl) ?_
                      obtain ⟨qa2235, eq2234, kd2236⟩ := rd_13060 ok337 kd900
                      refine p_get (ci := 12) (v := .ref qa2235) (C := RX12) (T := TX12) (N := 69) hx hb hT iw_X12 hown hK hw hW kd900 (by decide) rfl rfl 60 (by decide) eq2234 (hT _ tb_1434) (fun _ h9 => h9) dX12_settled_121 ?_
                      refine lv_iload hx hb dX12_settled_124 (lv_at hl 4 rfl) ?_
                      obtain ⟨wl2238, eq2237⟩ := rd_98000 ok337 kd2236 ((zi1728 : Int32).toNatClampNeg)
                      refine p_lald (v := wl2238) hx hb hK hw hW kd2236 (by decide) rfl (hW.len kd2236 (n := 65536) rfl (by decide)) (vp_b bd2126 (by decide) (by decide)) eq2237 dX12_settled_126 ?_
                      refine lv_lstore (lv' := [(7, .long wl2238), (0, .ref qa900), (2, .int zi209), (3, .long wl352), (5, .int zi1727), (6, .int zi1728)]) hx hb dX12_settled_127 hl (by decide) rfl (fun ls hl => ?_)
                      refine lv_lload hx hb dX12_settled_129 (lv_at hl 0 rfl) ?_
                      refine lv_lload_n hx hb dX12_settled_131 rfl (lv_at hl 3 rfl) ?_
                      refine lv_land hx hb dX12_settled_132 (lv_topl (fun wl2239 _ => ?_))
                      refine lv_lload hx hb dX12_settled_133 (lv_at hl 0 rfl) ?_
                      refine W.lcmp hx hb dX12_settled_135 (lv_topi (fun zi2240 ea2241 => ?_))
                      refine lv_if_eq (tgt := 148) hx hb dX12_settled_136 (by decide) (fun cn2242 => ?_) (fun cn2242 => ?_)
                      · skip
                        have bd2243 : (0 : Int) ≤ zi2240.toInt ∧ zi2240.toInt ≤ 0 := r_eq_x cn2242 (b_all zi2240) bc_0 (by decide) (by decide)
                        refine lv_iload hx hb dX12_settled_148 (lv_at hl 5 rfl) ?_
                        refine lv_istore (lv' := [(5, .int zi1728), (7, .long wl2238), (0, .ref qa900), (2, .int zi209), (3, .long wl352), (6, .int zi1728)]) hx hb dX12_settled_150 hl (by decide) rfl (fun ls hl => ?_)
                        exact jn2189 zi1728 _ _ ls (b_wid2 bd2126 (by decide) (by decide)) (lv_sub hl [2, 3, 4, 0, 5] rfl) hw hS
                      · skip
                        refine lv_lload hx hb dX12_settled_139 (lv_at hl 0 rfl) ?_
                        refine lv_lload_n hx hb dX12_settled_141 rfl (lv_at hl 3 rfl) ?_
                        refine lv_land hx hb dX12_settled_142 (lv_topl (fun wl2244 _ => ?_))
                        refine lv_lconst (v := 0) hx hb dX12_settled_143 (by decide) ?_
                        refine W.lcmp hx hb dX12_settled_144 (lv_topi (fun zi2245 ea2246 => ?_))
                        refine lv_if_ne (tgt := 152) hx hb dX12_settled_145 (by decide) (fun cn2247 => ?_) (fun cn2247 => ?_)
                        · skip
                          exact jn2189 zi1727 _ _ ls (b_wid2 bd2214 (by decide) (by decide)) (lv_sub hl [1, 2, 3, 4, 5] rfl) hw hS
                        · skip
                          have bd2248 : (0 : Int) ≤ zi2245.toInt ∧ zi2245.toInt ≤ 0 := r_eq_x cn2247 (b_all zi2245) bc_0 (by decide) (by decide)
                          refine lv_iload hx hb dX12_settled_148 (lv_at hl 5 rfl) ?_
                          refine lv_istore (lv' := [(5, .int zi1728), (7, .long wl2238), (0, .ref qa900), (2, .int zi209), (3, .long wl352), (6, .int zi1728)]) hx hb dX12_settled_150 hl (by decide) rfl (fun ls hl => ?_)
                          exact jn2189 zi1728 _ _ ls (b_wid2 bd2126 (by decide) (by decide)) (lv_sub hl [2, 3, 4, 0, 5] rfl) hw hS
                    · skip
                      refine lv_goto (tgt := 152) hx hb dX12_settled_117 (by decide) ?_
                      exact jn2189 zi1727 _ _ ls (b_wid2 bd2214 (by decide) (by decide)) (lv_sub hl [0, 1, 2, 3, 4] rfl) hw hS
          exact lp1993 _ ((-2)) 0 _ _ ls (lp_in _) (b_wid2 bc_m2 (by decide) (by decide)) (b_wid2 bc_0 (by decide) (by decide)) (lv_sub hl [3, 5, 2, 1, 0] rfl) hw hS
        · skip
          have bd2249 : (0 : Int) ≤ zi210.toInt ∧ zi210.toInt ≤ 15 := r_lt_x (Int32.not_le.mp cn305) bd211 bd304 (by decide) (by decide)
          have bd2250 : (1 : Int) ≤ zi303.toInt ∧ zi303.toInt ≤ 16 := r_lt_y (Int32.not_le.mp cn305) bd211 bd304 (by decide) (by decide)
          refine lv_aload_n hx hb dX12_settled_27 rfl (lv_at hl 0 rfl) ?_
          refine lv_iload_n hx hb dX12_settled_28 rfl (lv_at hl 3 rfl) ?_
          refine kq_i hw hS hA (va_runV (As := [.int zi210]) (rest := []) ⟨hx, hb, hml, hown, hT⟩ (cX12_isTrue_0 l G cy ev K ln Ls hW _ hp0 ok0 qa900 zi210 kd900 (b_wid2 bd2249 (by decide) (by decide))) (cwV 1 hT (good_V tb_1746 tb_1743 tb_1745 tb_77 tb_122) rfl rfl rfl (by decide +kernel) ⟨Nat.le_of_ble_eq_true rfl, Nat.le_of_ble_eq_true rfl⟩) (pool_preV (ci := 12) hK hE hS hA hw hW kd900 (by decide) rfl) rfl rfl hl.1 rfl (lv_room (Nat.le_of_ble_eq_true rfl)) dX12_settled_29 ⟨Nat.le_of_ble_eq_true rfl, Nat.le_of_ble_eq_true rfl⟩) (fun zi2255 hp2251 H locs hq2254 hw hS => ?_)
          obtain ⟨ok2252, F2253, bd2256⟩ := hq2254
          obtain rfl : hp0 = hp2251 := (Fr.nil F2253).symm
          have hw : PW G cy K ln Ls A hp0 H := hw
          have jn2266 : ∀ (zi2265 : Int32) (H : Heap) (locs : List Loc) (ls : Array Slot), lv_has ls 9 [(0, .ref qa900), (1, .int zi901), (2, .int zi2265), (3, .int zi210)] → PW G cy K ln Ls A hp0 H → va_S A s.heap H locs → W p l e ({ frames := 2, cells := 0, slots := 0, locals := 47 } : Room) s m ([.ref qa900, .int zi901] : List Value).toArray below meth c H locs 0 0 Q (F0 m 41 ls []) := by
            intro zi2265 H locs ls hl hw hS
            obtain ⟨zi2267, ea2268⟩ : ∃ z : Int32, z = zi210 + 1 := ⟨_, rfl⟩
            have bd2269 : (1 : Int) ≤ zi2267.toInt ∧ zi2267.toInt ≤ 16 := b_iadd ea2268 bd2249 bc_1 (by decide) (by decide) (by decide) (by decide)
            have qe2270 : zi2267.toInt = (zi210 : Int32).toInt + (1 : Int32).toInt := e_iadd ea2268 bd2249 bc_1 (by decide) (by decide)
            have qe2271 : zi2267.toInt = zi210.toInt + 1 := by have ha : (1 : Int32).toInt = 1 := (by decide); rw [ha] at qe2270; exact qe2270
            refine lv_iinc (v := zi2267) (lv' := [(3, .int zi2267), (0, .ref qa900), (1, .int zi901), (2, .int zi2265)]) hx hb dX12_settled_41 hl (k := 3) rfl ea2268.symm (by decide) rfl (fun ls hl => ?_)
            refine lv_goto (tgt := 14) hx hb dX12_settled_44 (by decide) ?_
            exact ih293 zi2265 zi2267 _ _ ls (by have := hm295; have := qe2271; omega) (b_wid2 bd2269 (by decide) (by decide)) (lv_sub hl [1, 2, 3, 0] rfl) hw hS
          refine lv_if_eq (tgt := 41) hx hb dX12_settled_32 (by decide) (fun cn2257 => ?_) (fun cn2257 => ?_)
          · skip
            have bd2272 : (0 : Int) ≤ zi2255.toInt ∧ zi2255.toInt ≤ 0 := r_eq_x cn2257 bd2256 bc_0 (by decide) (by decide)
            exact jn2266 zi209 _ _ ls (lv_sub hl [0, 1, 2, 3] rfl) hw hS
          · skip
            have bd2273 : (1 : Int) ≤ zi2255.toInt ∧ zi2255.toInt ≤ 1 := r_ne_lo cn2257 bd2256 (toi bc_0) (by decide) (by decide)
            refine lv_iload_n hx hb dX12_settled_35 rfl (lv_at hl 2 rfl) ?_
            refine lv_iconst (v := 1) hx hb dX12_settled_36 (by decide) ?_
            refine lv_iload_n hx hb dX12_settled_37 rfl (lv_at hl 3 rfl) ?_
            refine lv_ishl hx hb dX12_settled_38 (lv_topi (fun zi2274 ea2275 => ?_))
            have bd2276 : (1 : Int) ≤ zi2274.toInt ∧ zi2274.toInt ≤ 32768 := b_shl1 15 ea2275 bd2249 (by decide) (by decide) (by decide) (by decide) (by decide)
            refine lv_ior hx hb dX12_settled_39 (lv_topi (fun zi2277 ea2278 => ?_))
            refine lv_istore_n (lv' := [(2, .int zi2277), (0, .ref qa900), (1, .int zi901), (3, .int zi210)]) hx hb dX12_settled_40 rfl hl (by decide) rfl (fun ls hl => ?_)
            exact jn2266 zi2277 _ _ ls (lv_sub hl [1, 2, 0, 3] rfl) hw hS
    exact lp294 _ 0 0 _ _ ls (lp_in _) (b_wid2 bc_0 (by decide) (by decide)) (lv_sub hl [2, 3, 1, 0] rfl) hw hS

set_option maxRecDepth 100000 in
set_option maxHeartbeats 4000000 in
theorem cX12_in_6 (l : Launch) (G : va_G) (cy : Nat → ClassId) (ev : Ew) (K ln : Nat → Nat) (Ls : List Nat) (hW : SW K ln Ls) (sz : Nat) (hp0 : Nat → Nat → Value) (ok0 : Ok K hp0) (zi900 : Int32) (zi901 : Int32) (zi902 : Int32) (bd901 : ((-100000 : Int) ≤ zi901.toInt ∧ zi901.toInt ≤ -100000)) (bd902 : ((100000 : Int) ≤ zi902.toInt ∧ zi902.toInt ≤ 100000)) : Met l yX12_in (WS yX12_in cX12_in 3 (some .boolean)) { frames := 0, cells := 0, slots := 0, locals := 0 } (PB2 [.int zi900, .int zi901, .int zi902] sz G cy ev (va_pl Ls (cellOf cy K ln hp0))) (QBi (S := (Nat → Nat → Value)) (fun (r : Int32) (u : (Nat → Nat → Value)) => Ok K u ∧ Fr [] K hp0 u ∧ ((0 : Int) ≤ r.toInt ∧ r.toInt ≤ 1) ∧ (r = 1 → ((-100000 : Int) ≤ zi900.toInt ∧ zi900.toInt ≤ 100000))) G (fun u => va_pl Ls (cellOf cy K ln u)) (va_A (va_pl Ls (cellOf cy K ln hp0)) sz)) 0 0 (va_A (va_pl Ls (cellOf cy K ln hp0)) sz) := by
  refine met_of2 (y := yX12_in) (L := 3) (av := [.int zi900, .int zi901, .int zi902]) (Qc := fun A => QBi (S := (Nat → Nat → Value)) (fun (r : Int32) (u : (Nat → Nat → Value)) => Ok K u ∧ Fr [] K hp0 u ∧ ((0 : Int) ≤ r.toInt ∧ r.toInt ≤ 1) ∧ (r = 1 → ((-100000 : Int) ≤ zi900.toInt ∧ zi900.toInt ≤ 100000))) G (fun u => va_pl Ls (cellOf cy K ln u)) A) (plainFor_of_name (by decide)) (Nat.le_of_ble_eq_true rfl) ?_
  intro p e s m below meth c hsz hx hb hr hml hown hT hlocks hin hK A hA hE hw hS ls hl
  have hw : PW G cy K ln Ls A hp0 s.heap := hw
  have hown : s.vm.findClass "LieClockModel" = some m.cls := hown
  have hl : lv_has ls 3 [(0, .int zi900), (1, .int zi901), (2, .int zi902)] := hl
  obtain ⟨Q, hQ⟩ : ∃ Q : State → Prop, Q = MQ below (QBi (S := (Nat → Nat → Value)) (fun (r : Int32) (u : (Nat → Nat → Value)) => Ok K u ∧ Fr [] K hp0 u ∧ ((0 : Int) ≤ r.toInt ∧ r.toInt ≤ 1) ∧ (r = 1 → ((-100000 : Int) ≤ zi900.toInt ∧ zi900.toInt ≤ 100000))) G (fun u => va_pl Ls (cellOf cy K ln u)) A) ([.int zi900, .int zi901, .int zi902] : List Value).toArray s 0 0 A := ⟨_, rfl⟩
  rw [← hQ]
  refine lv_iload_n hx hb dX12_in_0 rfl (lv_at hl 0 rfl) ?_
  refine lv_iload_n hx hb dX12_in_1 rfl (lv_at hl 1 rfl) ?_
  refine lv_icmp_lt (tgt := 14) hx hb dX12_in_2 (by decide) (fun cn1 => ?_) (fun cn1 => ?_)
  · skip
    have bd2 : (-2147483648 : Int) ≤ zi900.toInt ∧ zi900.toInt ≤ -100001 := r_lt_x cn1 (b_all zi900) bd901 (by decide) (by decide)
    refine lv_iconst (v := 0) hx hb dX12_in_14 (by decide) ?_
    rw [hQ]
    exact kz_i hx hb hr hlocks hS (nz_n bc_0 (by decide) (by decide)) hp0 hw ⟨ok0, (Fr.rf), (b_wid2 bc_0 (by decide) (by decide)), (fun h => absurd h (by decide))⟩ (Nat.le_of_ble_eq_true rfl) (Nat.le_of_ble_eq_true rfl) dX12_in_15
  · skip
    have bd3 : (-100000 : Int) ≤ zi900.toInt ∧ zi900.toInt ≤ 2147483647 := r_le_y (Int32.not_lt.mp cn1) bd901 (b_all zi900) (by decide) (by decide)
    refine lv_iload_n hx hb dX12_in_5 rfl (lv_at hl 0 rfl) ?_
    refine lv_iload_n hx hb dX12_in_6 rfl (lv_at hl 2 rfl) ?_
    refine lv_icmp_gt (tgt := 14) hx hb dX12_in_7 (by decide) (fun cn4 => ?_) (fun cn4 => ?_)
    · skip
      have bd5 : (100001 : Int) ≤ zi900.toInt ∧ zi900.toInt ≤ 2147483647 := r_lt_y cn4 bd902 bd3 (by decide) (by decide)
      refine lv_iconst (v := 0) hx hb dX12_in_14 (by decide) ?_
      rw [hQ]
      exact kz_i hx hb hr hlocks hS (nz_n bc_0 (by decide) (by decide)) hp0 hw ⟨ok0, (Fr.rf), (b_wid2 bc_0 (by decide) (by decide)), (fun h => absurd h (by decide))⟩ (Nat.le_of_ble_eq_true rfl) (Nat.le_of_ble_eq_true rfl) dX12_in_15
    · skip
      have bd6 : (-100000 : Int) ≤ zi900.toInt ∧ zi900.toInt ≤ 100000 := r_le_x (Int32.not_lt.mp cn4) bd3 bd902 (by decide) (by decide)
      refine lv_iconst (v := 1) hx hb dX12_in_10 (by decide) ?_
      refine lv_goto (tgt := 15) hx hb dX12_in_11 (by decide) ?_
      rw [hQ]
      exact kz_i hx hb hr hlocks hS (nz_n bc_1 (by decide) (by decide)) hp0 hw ⟨ok0, (Fr.rf), (b_wid2 bc_1 (by decide) (by decide)), (fun _ => b_wid2 bd6 (by decide) (by decide))⟩ (Nat.le_of_ble_eq_true rfl) (Nat.le_of_ble_eq_true rfl) dX12_in_15

set_option maxRecDepth 100000 in
set_option maxHeartbeats 4000000 in
theorem cX12_write_0 (l : Launch) (G : va_G) (cy : Nat → ClassId) (ev : Ew) (K ln : Nat → Nat) (Ls : List Nat) (hW : SW K ln Ls) (sz : Nat) (hp0 : Nat → Nat → Value) (ok0 : Ok K hp0) (qa900 : Nat) (zi901 : Int32) (kd900 : K qa900 = 13) : Met l yX12_write (WS yX12_write cX12_write 2 (some .int)) { frames := 1, cells := 0, slots := 0, locals := 22 } (PB2 [.ref qa900, .int zi901] sz G cy ev (va_pl Ls (cellOf cy K ln hp0))) (QBi (S := (Nat → Nat → Value)) (fun (r : Int32) (u : (Nat → Nat → Value)) => Ok K u ∧ Fr [13061, 99000] K hp0 u ∧ ((-1 : Int) ≤ r.toInt ∧ r.toInt ≤ 4)) G (fun u => va_pl Ls (cellOf cy K ln u)) (va_A (va_pl Ls (cellOf cy K ln hp0)) sz)) 0 0 (va_A (va_pl Ls (cellOf cy K ln hp0)) sz) := by
  refine met_of2 (y := yX12_write) (L := 2) (av := [.ref qa900, .int zi901]) (Qc := fun A => QBi (S := (Nat → Nat → Value)) (fun (r : Int32) (u : (Nat → Nat → Value)) => Ok K u ∧ Fr [13061, 99000] K hp0 u ∧ ((-1 : Int) ≤ r.toInt ∧ r.toInt ≤ 4)) G (fun u => va_pl Ls (cellOf cy K ln u)) A) (plainFor_of_name (by decide)) (Nat.le_of_ble_eq_true rfl) ?_
  intro p e s m below meth c hsz hx hb hr hml hown hT hlocks hin hK A hA hE hw hS ls hl
  have hw : PW G cy K ln Ls A hp0 s.heap := hw
  have hown : s.vm.findClass "LieClockModel" = some m.cls := hown
  have hl : lv_has ls 2 [(0, .ref qa900), (1, .int zi901)] := hl
  obtain ⟨Q, hQ⟩ : ∃ Q : State → Prop, Q = MQ below (QBi (S := (Nat → Nat → Value)) (fun (r : Int32) (u : (Nat → Nat → Value)) => Ok K u ∧ Fr [13061, 99000] K hp0 u ∧ ((-1 : Int) ≤ r.toInt ∧ r.toInt ≤ 4)) G (fun u => va_pl Ls (cellOf cy K ln u)) A) ([.ref qa900, .int zi901] : List Value).toArray s 0 0 A := ⟨_, rfl⟩
  rw [← hQ]
  refine lv_aload_n hx hb dX12_write_0 rfl (lv_at hl 0 rfl) ?_
  obtain ⟨zi2, eq1, bd3⟩ := rd_13061 ok0 kd900
  refine p_get (ci := 12) (v := .int zi2) (C := RX12) (T := TX12) (N := 69) hx hb hT iw_X12 hown hK hw hW kd900 (by decide) rfl rfl 61 (by decide) eq1 (hT _ tb_1435) (fun _ h9 => h9) dX12_write_1 ?_
  refine lv_iconst (v := 5) hx hb dX12_write_4 (by decide) ?_
  refine lv_icmp_eq (tgt := 21) hx hb dX12_write_5 (by decide) (fun cn4 => ?_) (fun cn4 => ?_)
  · skip
    have bd5 : (5 : Int) ≤ zi2.toInt ∧ zi2.toInt ≤ 5 := r_eq_x cn4 bd3 bc_5 (by decide) (by decide)
    refine lv_iconst (v := (-1)) hx hb dX12_write_21 (by decide) ?_
    rw [hQ]
    exact kz_i hx hb hr hlocks hS rfl hp0 hw ⟨ok0, (Fr.rf), (b_wid2 bc_m1 (by decide) (by decide))⟩ (Nat.le_of_ble_eq_true rfl) (Nat.le_of_ble_eq_true rfl) dX12_write_22
  · skip
    have bd6 : (0 : Int) ≤ zi2.toInt ∧ zi2.toInt ≤ 4 := r_ne_hi cn4 bd3 (toi bc_5) (by decide) (by decide)
    refine lv_iload_n hx hb dX12_write_8 rfl (lv_at hl 1 rfl) ?_
    refine lv_ldcw (v := (-100000)) hx hb hown (hT _ tb_1831) dX12_write_9 ?_
    refine lv_ldcw (v := 100000) hx hb hown (hT _ tb_1814) dX12_write_12 ?_
    refine kq_i hw hS hA (va_runS (As := [.int zi901, .int (-100000), .int 100000]) (rest := []) ⟨hx, hb, hml, hown, hT⟩ (cX12_in_6 l G cy ev K ln Ls hW _ hp0 ok0 zi901 (-100000) 100000 (b_wid2 bc_m100000 (by decide) (by decide)) (b_wid2 bc_100000 (by decide) (by decide))) (va_cwS 3 hT (good_S tb_1734 tb_1732 tb_1733 tb_122) rfl rfl rfl (by decide +kernel) ⟨Nat.le_of_ble_eq_true rfl, Nat.le_of_ble_eq_true rfl⟩) (PB2.preS hK hE hS hA hw) rfl rfl hl.1 rfl (lv_room (Nat.le_of_ble_eq_true rfl)) dX12_write_15 ⟨Nat.le_of_ble_eq_true rfl, Nat.le_of_ble_eq_true rfl⟩) (fun zi11 hp7 H locs hq10 hw hS => ?_)
    obtain ⟨ok8, F9, bd12, hc13⟩ := hq10
    obtain rfl : hp0 = hp7 := (Fr.nil F9).symm
    have hw : PW G cy K ln Ls A hp0 H := hw
    rcases b01 bd12 with cn14 | cn14
    · skip
      subst cn14
      refine lv_if_ne (tgt := 23) hx hb dX12_write_18 (by decide) (fun c => absurd (d_eq bc_0 bc_0) c) (fun _ => ?_)
      refine lv_iconst (v := (-1)) hx hb dX12_write_21 (by decide) ?_
      rw [hQ]
      exact kz_i hx hb hr hlocks hS rfl hp0 hw ⟨ok0, (Fr.rf), (b_wid2 bc_m1 (by decide) (by decide))⟩ (Nat.le_of_ble_eq_true rfl) (Nat.le_of_ble_eq_true rfl) dX12_write_22
    · skip
      subst cn14
      have bd15 : (-100000 : Int) ≤ zi901.toInt ∧ zi901.toInt ≤ 100000 := b_meet (b_all zi901) (hc13 rfl) (by decide) (by decide)
      refine lv_if_ne (tgt := 23) hx hb dX12_write_18 (by decide) (fun _ => ?_) (fun c => absurd c (d_ne bc_1 bc_0 (by decide)))
      refine lv_aload_n hx hb dX12_write_23 rfl (lv_at hl 0 rfl) ?_
      obtain ⟨qa17, eq16, kd18⟩ := rd_13062 ok0 kd900
      refine p_get (ci := 12) (v := .ref qa17) (C := RX12) (T := TX12) (N := 69) hx hb hT iw_X12 hown hK hw hW kd900 (by decide) rfl rfl 62 (by decide) eq16 (hT _ tb_1436) (fun _ h9 => h9) dX12_write_24 ?_
      refine lv_aload_n hx hb dX12_write_27 rfl (lv_at hl 0 rfl) ?_
      refine p_get (ci := 12) (v := .int zi2) (C := RX12) (T := TX12) (N := 69) hx hb hT iw_X12 hown hK hw hW kd900 (by decide) rfl rfl 61 (by decide) eq1 (hT _ tb_1435) (fun _ h9 => h9) dX12_write_28 ?_
      refine lv_iload_n hx hb dX12_write_31 rfl (lv_at hl 1 rfl) ?_
      refine p_iast (x := zi901) hx hb hK hw hS hW kd18 (by decide) rfl (hW.len kd18 (n := 5) rfl (by decide)) (vp_b bd6 (by decide) (by decide)) dX12_write_32 (fun hp19 eh20 H locs hw hS => ?_)
      have ok21 := wr_99000 ok0 kd18 eh20
      refine lv_aload_n hx hb dX12_write_33 rfl (lv_at hl 0 rfl) ?_
      refine lv_dup hx hb dX12_write_34 rfl ?_
      have eq22 : hp19 qa900 61 = .int zi2 := Eq.trans (up_at eh20 (Or.inl (kd_ne kd900 kd18 (by decide)))) eq1
      refine p_get (ci := 12) (v := .int zi2) (C := RX12) (T := TX12) (N := 69) hx hb hT iw_X12 hown hK hw hW kd900 (by decide) rfl rfl 61 (by decide) eq22 (hT _ tb_1435) (fun _ h9 => h9) dX12_write_35 ?_
      refine lv_iconst (v := 1) hx hb dX12_write_38 (by decide) ?_
      refine lv_iadd hx hb dX12_write_39 (lv_topi (fun zi23 ea24 => ?_))
      have bd25 : (1 : Int) ≤ zi23.toInt ∧ zi23.toInt ≤ 5 := b_iadd ea24 bd6 bc_1 (by decide) (by decide) (by decide) (by decide)
      have qe26 : zi23.toInt = (zi2 : Int32).toInt + (1 : Int32).toInt := e_iadd ea24 bd6 bc_1 (by decide) (by decide)
      have qe27 : zi23.toInt = zi2.toInt + 1 := by have ha : (1 : Int32).toInt = 1 := (by decide); rw [ha] at qe26; exact qe26
      refine p_put (ci := 12) (v := .int zi23) (ty := .int) (C := RX12) (T := TX12) (N := 69) hx hb hT iw_X12 tyX12 tyX12_ok nmX12 hown hK hw hS hW kd900 (by decide) rfl rfl 61 (by decide) (hT _ tb_1435) (fun _ h9 => h9) rfl (by decide +kernel) rfl rfl dX12_write_40 (fun hp28 eh29 H locs hw hS => ?_)
      have ok30 := wr_13061 bd25 (by decide) (by decide) ok21 kd900 eh29
      refine lv_aload_n hx hb dX12_write_43 rfl (lv_at hl 0 rfl) ?_
      refine p_get (ci := 12) (v := .int zi23) (C := RX12) (T := TX12) (N := 69) hx hb hT iw_X12 hown hK hw hW kd900 (by decide) rfl rfl 61 (by decide) (hp_self eh29) (hT _ tb_1435) (fun _ h9 => h9) dX12_write_44 ?_
      refine lv_iconst (v := 1) hx hb dX12_write_47 (by decide) ?_
      refine lv_isub hx hb dX12_write_48 (lv_topi (fun zi31 ea32 => ?_))
      have bd33 : (0 : Int) ≤ zi31.toInt ∧ zi31.toInt ≤ 4 := b_isub ea32 bd25 bc_1 (by decide) (by decide) (by decide) (by decide)
      have qe34 : zi31.toInt = (zi23 : Int32).toInt - (1 : Int32).toInt := e_isub ea32 bd25 bc_1 (by decide) (by decide)
      have qe35 : zi31.toInt = zi23.toInt - 1 := by have ha : (1 : Int32).toInt = 1 := (by decide); rw [ha] at qe34; exact qe34
      rw [hQ]
      exact kz_i hx hb hr hlocks hS rfl hp28 hw ⟨ok30, (Fr.put (cq := 13061) (Fr.put (cq := 99000) (Fr.rf) eh20 kd18 (cd_a (by decide)) (by decide)) eh29 kd900 (cd_o (by decide)) (by decide)), (b_wid2 bd33 (by decide) (by decide))⟩ (Nat.le_of_ble_eq_true rfl) (Nat.le_of_ble_eq_true rfl) dX12_write_49

set_option maxRecDepth 100000 in
set_option maxHeartbeats 4000000 in
theorem cX12_burn_0 (l : Launch) (G : va_G) (cy : Nat → ClassId) (ev : Ew) (K ln : Nat → Nat) (Ls : List Nat) (hW : SW K ln Ls) (sz : Nat) (hp0 : Nat → Nat → Value) (ok0 : Ok K hp0) (qa900 : Nat) (kd900 : K qa900 = 13) : Met l yX12_burn (WS yX12_burn cX12_burn 2 (some .int)) { frames := 0, cells := 0, slots := 0, locals := 0 } (PB2 [.ref qa900] sz G cy ev (va_pl Ls (cellOf cy K ln hp0))) (QBi (S := (Nat → Nat → Value)) (fun (r : Int32) (u : (Nat → Nat → Value)) => Ok K u ∧ Fr [13061] K hp0 u ∧ ((0 : Int) ≤ r.toInt ∧ r.toInt ≤ 5)) G (fun u => va_pl Ls (cellOf cy K ln u)) (va_A (va_pl Ls (cellOf cy K ln hp0)) sz)) 0 0 (va_A (va_pl Ls (cellOf cy K ln hp0)) sz) := by
  refine met_of2 (y := yX12_burn) (L := 2) (av := [.ref qa900]) (Qc := fun A => QBi (S := (Nat → Nat → Value)) (fun (r : Int32) (u : (Nat → Nat → Value)) => Ok K u ∧ Fr [13061] K hp0 u ∧ ((0 : Int) ≤ r.toInt ∧ r.toInt ≤ 5)) G (fun u => va_pl Ls (cellOf cy K ln u)) A) (plainFor_of_name (by decide)) (Nat.le_of_ble_eq_true rfl) ?_
  intro p e s m below meth c hsz hx hb hr hml hown hT hlocks hin hK A hA hE hw hS ls hl
  have hw : PW G cy K ln Ls A hp0 s.heap := hw
  have hown : s.vm.findClass "LieClockModel" = some m.cls := hown
  have hl : lv_has ls 2 [(0, .ref qa900)] := hl
  obtain ⟨Q, hQ⟩ : ∃ Q : State → Prop, Q = MQ below (QBi (S := (Nat → Nat → Value)) (fun (r : Int32) (u : (Nat → Nat → Value)) => Ok K u ∧ Fr [13061] K hp0 u ∧ ((0 : Int) ≤ r.toInt ∧ r.toInt ≤ 5)) G (fun u => va_pl Ls (cellOf cy K ln u)) A) ([.ref qa900] : List Value).toArray s 0 0 A := ⟨_, rfl⟩
  rw [← hQ]
  refine lv_aload_n hx hb dX12_burn_0 rfl (lv_at hl 0 rfl) ?_
  obtain ⟨zi2, eq1, bd3⟩ := rd_13061 ok0 kd900
  refine p_get (ci := 12) (v := .int zi2) (C := RX12) (T := TX12) (N := 69) hx hb hT iw_X12 hown hK hw hW kd900 (by decide) rfl rfl 61 (by decide) eq1 (hT _ tb_1435) (fun _ h9 => h9) dX12_burn_1 ?_
  refine lv_istore_n (lv' := [(1, .int zi2), (0, .ref qa900)]) hx hb dX12_burn_4 rfl hl (by decide) rfl (fun ls hl => ?_)
  refine lv_aload_n hx hb dX12_burn_5 rfl (lv_at hl 1 rfl) ?_
  refine lv_iconst (v := 0) hx hb dX12_burn_6 (by decide) ?_
  refine p_put (ci := 12) (v := .int 0) (ty := .int) (C := RX12) (T := TX12) (N := 69) hx hb hT iw_X12 tyX12 tyX12_ok nmX12 hown hK hw hS hW kd900 (by decide) rfl rfl 61 (by decide) (hT _ tb_1435) (fun _ h9 => h9) rfl (by decide +kernel) rfl rfl dX12_burn_7 (fun hp4 eh5 H locs hw hS => ?_)
  have ok6 := wr_13061 bc_0 (by decide) (by decide) ok0 kd900 eh5
  refine lv_iload_n hx hb dX12_burn_10 rfl (lv_at hl 0 rfl) ?_
  rw [hQ]
  exact kz_i hx hb hr hlocks hS rfl hp4 hw ⟨ok6, (Fr.put (cq := 13061) (Fr.rf) eh5 kd900 (cd_o (by decide)) (by decide)), (b_wid2 bd3 (by decide) (by decide))⟩ (Nat.le_of_ble_eq_true rfl) (Nat.le_of_ble_eq_true rfl) dX12_burn_11

set_option maxRecDepth 100000 in
set_option maxHeartbeats 4000000 in
theorem cX12_fitsOne_0 (l : Launch) (G : va_G) (cy : Nat → ClassId) (ev : Ew) (K ln : Nat → Nat) (Ls : List Nat) (hW : SW K ln Ls) (sz : Nat) (hp0 : Nat → Nat → Value) (ok0 : Ok K hp0) (qa900 : Nat) (zi901 : Int32) (kd900 : K qa900 = 13) (bd901 : ((0 : Int) ≤ zi901.toInt ∧ zi901.toInt ≤ 5)) : Met l yX12_fitsOne (WS yX12_fitsOne cX12_fitsOne 5 none) { frames := 1, cells := 0, slots := 0, locals := 23 } (PB2 [.ref qa900, .int zi901] sz G cy ev (va_pl Ls (cellOf cy K ln hp0))) (QBv (S := (Nat → Nat → Value)) (fun u : (Nat → Nat → Value) => Ok K u ∧ Fr [13063, 13064, 13065] K hp0 u) G (fun u => va_pl Ls (cellOf cy K ln u)) (va_A (va_pl Ls (cellOf cy K ln hp0)) sz)) 0 0 (va_A (va_pl Ls (cellOf cy K ln hp0)) sz) := by
  refine met_of2 (y := yX12_fitsOne) (L := 5) (av := [.ref qa900, .int zi901]) (Qc := fun A => QBv (S := (Nat → Nat → Value)) (fun u : (Nat → Nat → Value) => Ok K u ∧ Fr [13063, 13064, 13065] K hp0 u) G (fun u => va_pl Ls (cellOf cy K ln u)) A) (plainFor_of_name (by decide)) (Nat.le_of_ble_eq_true rfl) ?_
  intro p e s m below meth c hsz hx hb hr hml hown hT hlocks hin hK A hA hE hw hS ls hl
  have hw : PW G cy K ln Ls A hp0 s.heap := hw
  have hown : s.vm.findClass "LieClockModel" = some m.cls := hown
  have hl : lv_has ls 5 [(0, .ref qa900), (1, .int zi901)] := hl
  obtain ⟨Q, hQ⟩ : ∃ Q : State → Prop, Q = MQ below (QBv (S := (Nat → Nat → Value)) (fun u : (Nat → Nat → Value) => Ok K u ∧ Fr [13063, 13064, 13065] K hp0 u) G (fun u => va_pl Ls (cellOf cy K ln u)) A) ([.ref qa900, .int zi901] : List Value).toArray s 0 0 A := ⟨_, rfl⟩
  rw [← hQ]
  refine lv_iconst (v := 0) hx hb dX12_fitsOne_0 (by decide) ?_
  refine lv_istore_n (lv' := [(2, .int 0), (0, .ref qa900), (1, .int zi901)]) hx hb dX12_fitsOne_1 rfl hl (by decide) rfl (fun ls hl => ?_)
  refine lv_iconst (v := 0) hx hb dX12_fitsOne_2 (by decide) ?_
  refine lv_istore_n (lv' := [(3, .int 0), (2, .int 0), (0, .ref qa900), (1, .int zi901)]) hx hb dX12_fitsOne_3 rfl hl (by decide) rfl (fun ls hl => ?_)
  have lp139 : ∀ (n137 : Nat) (zi98 : Int32) (zi99 : Int32) (H : Heap) (locs : List Loc) (ls : Array Slot), 5 - zi99.toInt < (n137 : Int) → ((0 : Int) ≤ zi99.toInt ∧ zi99.toInt ≤ 5) → lv_has ls 5 [(0, .ref qa900), (1, .int zi901), (2, .int zi98), (3, .int zi99)] → PW G cy K ln Ls A hp0 H → va_S A s.heap H locs → W p l e ({ frames := 1, cells := 0, slots := 0, locals := 23 } : Room) s m ([.ref qa900, .int zi901] : List Value).toArray below meth c H locs 0 0 Q (F0 m 4 ls []) := by
    intro n137
    induction n137 with
    | zero =>
      intro zi98 zi99 H locs ls hm140 bd100 hl hw hS
      exact absurd hm140 (by have := bd100; omega)
    | succ n137 ih138 =>
      intro zi98 zi99 H locs ls hm140 bd100 hl hw hS
      refine lv_iload_n hx hb dX12_fitsOne_4 rfl (lv_at hl 3 rfl) ?_
      refine lv_iload_n hx hb dX12_fitsOne_5 rfl (lv_at hl 1 rfl) ?_
      refine lv_icmp_ge (tgt := 26) hx hb dX12_fitsOne_6 (by decide) (fun cn141 => ?_) (fun cn141 => ?_)
      · skip
        refine lv_iconst (v := 0) hx hb dX12_fitsOne_26 (by decide) ?_
        refine lv_istore_n (lv' := [(3, .int 0), (0, .ref qa900), (1, .int zi901), (2, .int zi98)]) hx hb dX12_fitsOne_27 rfl hl (by decide) rfl (fun ls hl => ?_)
        refine lv_iconst (v := 0) hx hb dX12_fitsOne_28 (by decide) ?_
        refine lv_istore (lv' := [(4, .int 0), (3, .int 0), (0, .ref qa900), (1, .int zi901), (2, .int zi98)]) hx hb dX12_fitsOne_29 hl (by decide) rfl (fun ls hl => ?_)
        have lp471 : ∀ (n469 : Nat) (zi378 : Int32) (zi379 : Int32) (H : Heap) (locs : List Loc) (ls : Array Slot), 6 - zi379.toInt < (n469 : Int) → ((0 : Int) ≤ zi379.toInt ∧ zi379.toInt ≤ 6) → lv_has ls 5 [(0, .ref qa900), (2, .int zi98), (3, .int zi378), (4, .int zi379)] → PW G cy K ln Ls A hp0 H → va_S A s.heap H locs → W p l e ({ frames := 1, cells := 0, slots := 0, locals := 23 } : Room) s m ([.ref qa900, .int zi901] : List Value).toArray below meth c H locs 0 0 Q (F0 m 31 ls []) := by
          intro n469
          induction n469 with
          | zero =>
            intro zi378 zi379 H locs ls hm472 bd380 hl hw hS
            exact absurd hm472 (by have := bd380; omega)
          | succ n469 ih470 =>
            intro zi378 zi379 H locs ls hm472 bd380 hl hw hS
            refine lv_iload hx hb dX12_fitsOne_31 (lv_at hl 3 rfl) ?_
            refine lv_aload_n hx hb dX12_fitsOne_33 rfl (lv_at hl 0 rfl) ?_
            obtain ⟨qa474, eq473, kd475⟩ := rd_13027 ok0 kd900
            refine p_get (ci := 12) (v := .ref qa474) (C := RX12) (T := TX12) (N := 69) hx hb hT iw_X12 hown hK hw hW kd900 (by decide) rfl rfl 27 (by decide) eq473 (hT _ tb_1401) (fun _ h9 => h9) dX12_fitsOne_34 ?_
            refine lv_aload_n hx hb dX12_fitsOne_37 rfl (lv_at hl 0 rfl) ?_
            obtain ⟨zi477, eq476, bd478⟩ := rd_13018 ok0 kd900
            refine p_get (ci := 12) (v := .int zi477) (C := RX12) (T := TX12) (N := 69) hx hb hT iw_X12 hown hK hw hW kd900 (by decide) rfl rfl 18 (by decide) eq476 (hT _ tb_1392) (fun _ h9 => h9) dX12_fitsOne_38 ?_
            obtain ⟨zi480, eq479, bd481⟩ := rd_73000 ok0 kd475 ((zi477 : Int32).toNatClampNeg)
            refine p_iald (v := zi480) hx hb hK hw hW kd475 (by decide) rfl (hW.len kd475 (n := 2) rfl (by decide)) (vp_b bd478 (by decide) (by decide)) eq479 dX12_fitsOne_41 ?_
            refine lv_icmp_ge (tgt := 74) hx hb dX12_fitsOne_42 (by decide) (fun cn482 => ?_) (fun cn482 => ?_)
            · skip
              refine lv_aload_n hx hb dX12_fitsOne_74 rfl (lv_at hl 0 rfl) ?_
              refine lv_aload_n hx hb dX12_fitsOne_75 rfl (lv_at hl 0 rfl) ?_
              obtain ⟨wl518, eq517⟩ := rd_13063 ok0 kd900
              refine p_get (ci := 12) (v := .long wl518) (C := RX12) (T := TX12) (N := 69) hx hb hT iw_X12 hown hK hw hW kd900 (by decide) rfl rfl 63 (by decide) eq517 (hT _ tb_1437) (fun _ h9 => h9) dX12_fitsOne_76 ?_
              refine lv_lconst (v := 0) hx hb dX12_fitsOne_79 (by decide) ?_
              refine W.lcmp hx hb dX12_fitsOne_80 (lv_topi (fun zi519 ea520 => ?_))
              have jn528 : ∀ (zi527 : Int32) (H : Heap) (locs : List Loc) (ls : Array Slot), lv_has ls 5 [(0, .ref qa900), (3, .int zi378)] → PW G cy K ln Ls A hp0 H → va_S A s.heap H locs → W p l e ({ frames := 1, cells := 0, slots := 0, locals := 23 } : Room) s m ([.ref qa900, .int zi901] : List Value).toArray below meth c H locs 0 0 Q (F0 m 94 ls [.int zi527, .ref qa900]) := by
                intro zi527 H locs ls hl hw hS
                refine p_put (ci := 12) (v := .int zi527) (ty := .int) (C := RX12) (T := TX12) (N := 69) hx hb hT iw_X12 tyX12 tyX12_ok nmX12 hown hK hw hS hW kd900 (by decide) rfl rfl 64 (by decide) (hT _ tb_1438) (fun _ h9 => h9) rfl (by decide +kernel) rfl rfl dX12_fitsOne_94 (fun hp529 eh530 H locs hw hS => ?_)
                have ok531 := wr_13064 ok0 kd900 eh530
                refine lv_aload_n hx hb dX12_fitsOne_97 rfl (lv_at hl 0 rfl) ?_
                refine lv_aload_n hx hb dX12_fitsOne_98 rfl (lv_at hl 0 rfl) ?_
                have eq532 : hp529 qa900 63 = .long wl518 := Eq.trans (up_at eh530 (Or.inr (by decide))) eq517
                refine p_get (ci := 12) (v := .long wl518) (C := RX12) (T := TX12) (N := 69) hx hb hT iw_X12 hown hK hw hW kd900 (by decide) rfl rfl 63 (by decide) eq532 (hT _ tb_1437) (fun _ h9 => h9) dX12_fitsOne_99 ?_
                refine lv_lconst (v := 0) hx hb dX12_fitsOne_102 (by decide) ?_
                refine W.lcmp hx hb dX12_fitsOne_103 (lv_topi (fun zi533 ea534 => ?_))
                have jn542 : ∀ (zi541 : Int32) (H : Heap) (locs : List Loc) (ls : Array Slot), lv_has ls 5 [(0, .ref qa900)] → PW G cy K ln Ls A hp529 H → va_S A s.heap H locs → W p l e ({ frames := 1, cells := 0, slots := 0, locals := 23 } : Room) s m ([.ref qa900, .int zi901] : List Value).toArray below meth c H locs 0 0 Q (F0 m 117 ls [.int zi541, .ref qa900]) := by
                  intro zi541 H locs ls hl hw hS
                  refine p_put (ci := 12) (v := .int zi541) (ty := .int) (C := RX12) (T := TX12) (N := 69) hx hb hT iw_X12 tyX12 tyX12_ok nmX12 hown hK hw hS hW kd900 (by decide) rfl rfl 65 (by decide) (hT _ tb_1439) (fun _ h9 => h9) rfl (by decide +kernel) rfl rfl dX12_fitsOne_117 (fun hp543 eh544 H locs hw hS => ?_)
                  have ok545 := wr_13065 ok531 kd900 eh544
                  refine lv_aload_n hx hb dX12_fitsOne_120 rfl (lv_at hl 0 rfl) ?_
                  refine lv_dup hx hb dX12_fitsOne_121 rfl ?_
                  have eq546 : hp543 qa900 63 = .long wl518 := Eq.trans (up_at eh544 (Or.inr (by decide))) eq532
                  refine p_get (ci := 12) (v := .long wl518) (C := RX12) (T := TX12) (N := 69) hx hb hT iw_X12 hown hK hw hW kd900 (by decide) rfl rfl 63 (by decide) eq546 (hT _ tb_1437) (fun _ h9 => h9) dX12_fitsOne_122 ?_
                  refine lv_lconst (v := 1) hx hb dX12_fitsOne_125 (by decide) ?_
                  refine lv_ladd hx hb dX12_fitsOne_126 (lv_topl (fun wl547 _ => ?_))
                  refine p_put (ci := 12) (v := .long wl547) (ty := .long) (C := RX12) (T := TX12) (N := 69) hx hb hT iw_X12 tyX12 tyX12_ok nmX12 hown hK hw hS hW kd900 (by decide) rfl rfl 63 (by decide) (hT _ tb_1437) (fun _ h9 => h9) rfl (by decide +kernel) rfl rfl dX12_fitsOne_127 (fun hp548 eh549 H locs hw hS => ?_)
                  have ok550 := wr_13063 ok545 kd900 eh549
                  rw [hQ]
                  exact kz_v hx hb hr hlocks hS hp548 hw ⟨ok550, (Fr.put (cq := 13063) (Fr.put (cq := 13065) (Fr.put (cq := 13064) (Fr.rf) eh530 kd900 (cd_o (by decide)) (by decide)) eh544 kd900 (cd_o (by decide)) (by decide)) eh549 kd900 (cd_o (by decide)) (by decide))⟩ (Nat.le_of_ble_eq_true rfl) (Nat.le_of_ble_eq_true rfl) dX12_fitsOne_130
                refine lv_if_ne (tgt := 111) hx hb dX12_fitsOne_104 (by decide) (fun cn535 => ?_) (fun cn535 => ?_)
                · skip
                  refine lv_aload_n hx hb dX12_fitsOne_111 rfl (lv_at hl 0 rfl) ?_
                  obtain ⟨zi552, eq551⟩ := rd_13065 ok531 kd900
                  refine p_get (ci := 12) (v := .int zi552) (C := RX12) (T := TX12) (N := 69) hx hb hT iw_X12 hown hK hw hW kd900 (by decide) rfl rfl 65 (by decide) eq551 (hT _ tb_1439) (fun _ h9 => h9) dX12_fitsOne_112 ?_
                  refine lv_iload_n hx hb dX12_fitsOne_115 rfl (lv_at hl 1 rfl) ?_
                  refine lv_iand hx hb dX12_fitsOne_116 (lv_topi (fun zi553 ea554 => ?_))
                  exact jn542 zi553 _ _ ls (lv_sub hl [0] rfl) hw hS
                · skip
                  have bd555 : (0 : Int) ≤ zi533.toInt ∧ zi533.toInt ≤ 0 := r_eq_x cn535 (b_all zi533) bc_0 (by decide) (by decide)
                  refine lv_iload_n hx hb dX12_fitsOne_107 rfl (lv_at hl 1 rfl) ?_
                  refine lv_goto (tgt := 117) hx hb dX12_fitsOne_108 (by decide) ?_
                  exact jn542 zi378 _ _ ls (lv_sub hl [0] rfl) hw hS
              refine lv_if_ne (tgt := 88) hx hb dX12_fitsOne_81 (by decide) (fun cn521 => ?_) (fun cn521 => ?_)
              · skip
                refine lv_aload_n hx hb dX12_fitsOne_88 rfl (lv_at hl 0 rfl) ?_
                obtain ⟨zi557, eq556⟩ := rd_13064 ok0 kd900
                refine p_get (ci := 12) (v := .int zi557) (C := RX12) (T := TX12) (N := 69) hx hb hT iw_X12 hown hK hw hW kd900 (by decide) rfl rfl 64 (by decide) eq556 (hT _ tb_1438) (fun _ h9 => h9) dX12_fitsOne_89 ?_
                refine lv_iload_n hx hb dX12_fitsOne_92 rfl (lv_at hl 1 rfl) ?_
                refine lv_iand hx hb dX12_fitsOne_93 (lv_topi (fun zi558 ea559 => ?_))
                exact jn528 zi558 _ _ ls (lv_sub hl [0, 2] rfl) hw hS
              · skip
                have bd560 : (0 : Int) ≤ zi519.toInt ∧ zi519.toInt ≤ 0 := r_eq_x cn521 (b_all zi519) bc_0 (by decide) (by decide)
                refine lv_iload_n hx hb dX12_fitsOne_84 rfl (lv_at hl 1 rfl) ?_
                refine lv_goto (tgt := 94) hx hb dX12_fitsOne_85 (by decide) ?_
                exact jn528 zi98 _ _ ls (lv_sub hl [0, 2] rfl) hw hS
            · skip
              have bd561 : (0 : Int) ≤ zi379.toInt ∧ zi379.toInt ≤ 5 := r_lt_x (Int32.not_le.mp cn482) bd380 bd481 (by decide) (by decide)
              have bd562 : (1 : Int) ≤ zi480.toInt ∧ zi480.toInt ≤ 6 := r_lt_y (Int32.not_le.mp cn482) bd380 bd481 (by decide) (by decide)
              refine lv_aload_n hx hb dX12_fitsOne_45 rfl (lv_at hl 0 rfl) ?_
              obtain ⟨qa564, eq563, kd565⟩ := rd_13050 ok0 kd900
              refine p_get (ci := 12) (v := .ref qa564) (C := RX12) (T := TX12) (N := 69) hx hb hT iw_X12 hown hK hw hW kd900 (by decide) rfl rfl 50 (by decide) eq563 (hT _ tb_1424) (fun _ h9 => h9) dX12_fitsOne_46 ?_
              refine lv_iconst (v := 2) hx hb dX12_fitsOne_49 (by decide) ?_
              obtain ⟨zi567, eq566⟩ := rd_93000 ok0 kd565 ((2 : Int32).toNatClampNeg)
              refine p_iald (v := zi567) hx hb hK hw hW kd565 (by decide) rfl (hW.len kd565 (n := 40) rfl (by decide)) (vp_b bc_2 (by decide) (by decide)) eq566 dX12_fitsOne_50 ?_
              refine lv_aload_n hx hb dX12_fitsOne_51 rfl (lv_at hl 0 rfl) ?_
              refine lv_iload hx hb dX12_fitsOne_52 (lv_at hl 3 rfl) ?_
              refine kq_i hw hS hA (va_runV (As := [.int zi379]) (rest := [.int zi567]) ⟨hx, hb, hml, hown, hT⟩ (cX12_wordsOf_0 l G cy ev K ln Ls hW _ hp0 ok0 qa900 zi379 kd900) (cwV 1 hT (good_V tb_1773 tb_1770 tb_1772 tb_82 tb_122) rfl rfl rfl (by decide +kernel) ⟨Nat.le_of_ble_eq_true rfl, Nat.le_of_ble_eq_true rfl⟩) (pool_preV (ci := 12) hK hE hS hA hw hW kd900 (by decide) rfl) rfl rfl hl.1 rfl (lv_room (Nat.le_of_ble_eq_true rfl)) dX12_fitsOne_54 ⟨Nat.le_of_ble_eq_true rfl, Nat.le_of_ble_eq_true rfl⟩) (fun zi572 hp568 H locs hq571 hw hS => ?_)
              obtain ⟨ok569, F570⟩ := hq571
              obtain rfl : hp0 = hp568 := (Fr.nil F570).symm
              have hw : PW G cy K ln Ls A hp0 H := hw
              refine lv_iand hx hb dX12_fitsOne_57 (lv_topi (fun zi573 ea574 => ?_))
              have jn583 : ∀ (zi582 : Int32) (H : Heap) (locs : List Loc) (ls : Array Slot), lv_has ls 5 [(0, .ref qa900), (2, .int zi98), (3, .int zi582), (4, .int zi379)] → PW G cy K ln Ls A hp0 H → va_S A s.heap H locs → W p l e ({ frames := 1, cells := 0, slots := 0, locals := 23 } : Room) s m ([.ref qa900, .int zi901] : List Value).toArray below meth c H locs 0 0 Q (F0 m 68 ls []) := by
                intro zi582 H locs ls hl hw hS
                obtain ⟨zi584, ea585⟩ : ∃ z : Int32, z = zi379 + 1 := ⟨_, rfl⟩
                have bd586 : (1 : Int) ≤ zi584.toInt ∧ zi584.toInt ≤ 6 := b_iadd ea585 bd561 bc_1 (by decide) (by decide) (by decide) (by decide)
                have qe587 : zi584.toInt = (zi379 : Int32).toInt + (1 : Int32).toInt := e_iadd ea585 bd561 bc_1 (by decide) (by decide)
                have qe588 : zi584.toInt = zi379.toInt + 1 := by have ha : (1 : Int32).toInt = 1 := (by decide); rw [ha] at qe587; exact qe587
                refine lv_iinc (v := zi584) (lv' := [(4, .int zi584), (0, .ref qa900), (2, .int zi98), (3, .int zi582)]) hx hb dX12_fitsOne_68 hl (k := 3) rfl ea585.symm (by decide) rfl (fun ls hl => ?_)
                refine lv_goto (tgt := 31) hx hb dX12_fitsOne_71 (by decide) ?_
                exact ih470 zi582 zi584 _ _ ls (by have := hm472; have := qe588; omega) (b_wid2 bd586 (by decide) (by decide)) (lv_sub hl [1, 2, 3, 0] rfl) hw hS
              refine lv_if_eq (tgt := 68) hx hb dX12_fitsOne_58 (by decide) (fun cn575 => ?_) (fun cn575 => ?_)
              · skip
                have bd589 : (0 : Int) ≤ zi573.toInt ∧ zi573.toInt ≤ 0 := r_eq_x cn575 (b_all zi573) bc_0 (by decide) (by decide)
                exact jn583 zi378 _ _ ls (lv_sub hl [0, 1, 2, 3] rfl) hw hS
              · skip
                refine lv_iload_n hx hb dX12_fitsOne_61 rfl (lv_at hl 2 rfl) ?_
                refine lv_iconst (v := 1) hx hb dX12_fitsOne_62 (by decide) ?_
                refine lv_iload hx hb dX12_fitsOne_63 (lv_at hl 3 rfl) ?_
                refine lv_ishl hx hb dX12_fitsOne_65 (lv_topi (fun zi590 ea591 => ?_))
                have bd592 : (1 : Int) ≤ zi590.toInt ∧ zi590.toInt ≤ 32 := b_shl1 5 ea591 bd561 (by decide) (by decide) (by decide) (by decide) (by decide)
                refine lv_ior hx hb dX12_fitsOne_66 (lv_topi (fun zi593 ea594 => ?_))
                refine lv_istore_n (lv' := [(3, .int zi593), (0, .ref qa900), (2, .int zi98), (4, .int zi379)]) hx hb dX12_fitsOne_67 rfl hl (by decide) rfl (fun ls hl => ?_)
                exact jn583 zi593 _ _ ls (lv_sub hl [1, 2, 0, 3] rfl) hw hS
        exact lp471 _ 0 0 _ _ ls (lp_in _) (b_wid2 bc_0 (by decide) (by decide)) (lv_sub hl [2, 4, 1, 0] rfl) hw hS
      · skip
        have bd595 : (0 : Int) ≤ zi99.toInt ∧ zi99.toInt ≤ 4 := r_lt_x (Int32.not_le.mp cn141) bd100 bd901 (by decide) (by decide)
        have bd596 : (1 : Int) ≤ zi901.toInt ∧ zi901.toInt ≤ 5 := r_lt_y (Int32.not_le.mp cn141) bd100 bd901 (by decide) (by decide)
        refine lv_iload_n hx hb dX12_fitsOne_9 rfl (lv_at hl 2 rfl) ?_
        refine lv_iconst (v := 1) hx hb dX12_fitsOne_10 (by decide) ?_
        refine lv_aload_n hx hb dX12_fitsOne_11 rfl (lv_at hl 0 rfl) ?_
        obtain ⟨qa598, eq597, kd599⟩ := rd_13056 ok0 kd900
        refine p_get (ci := 12) (v := .ref qa598) (C := RX12) (T := TX12) (N := 69) hx hb hT iw_X12 hown hK hw hW kd900 (by decide) rfl rfl 56 (by decide) eq597 (hT _ tb_1430) (fun _ h9 => h9) dX12_fitsOne_12 ?_
        refine lv_iload_n hx hb dX12_fitsOne_15 rfl (lv_at hl 3 rfl) ?_
        obtain ⟨zi601, eq600, bd602⟩ := rd_95000 ok0 kd599 ((zi99 : Int32).toNatClampNeg)
        refine p_iald (v := zi601) hx hb hK hw hW kd599 (by decide) rfl (hW.len kd599 (n := 6) rfl (by decide)) (vp_b bd595 (by decide) (by decide)) eq600 dX12_fitsOne_16 ?_
        refine lv_ishl hx hb dX12_fitsOne_17 (lv_topi (fun zi603 ea604 => ?_))
        refine lv_ior hx hb dX12_fitsOne_18 (lv_topi (fun zi605 ea606 => ?_))
        refine lv_istore_n (lv' := [(2, .int zi605), (0, .ref qa900), (1, .int zi901), (3, .int zi99)]) hx hb dX12_fitsOne_19 rfl hl (by decide) rfl (fun ls hl => ?_)
        obtain ⟨zi607, ea608⟩ : ∃ z : Int32, z = zi99 + 1 := ⟨_, rfl⟩
        have bd609 : (1 : Int) ≤ zi607.toInt ∧ zi607.toInt ≤ 5 := b_iadd ea608 bd595 bc_1 (by decide) (by decide) (by decide) (by decide)
        have qe610 : zi607.toInt = (zi99 : Int32).toInt + (1 : Int32).toInt := e_iadd ea608 bd595 bc_1 (by decide) (by decide)
        have qe611 : zi607.toInt = zi99.toInt + 1 := by have ha : (1 : Int32).toInt = 1 := (by decide); rw [ha] at qe610; exact qe610
        refine lv_iinc (v := zi607) (lv' := [(3, .int zi607), (2, .int zi605), (0, .ref qa900), (1, .int zi901)]) hx hb dX12_fitsOne_20 hl (k := 3) rfl ea608.symm (by decide) rfl (fun ls hl => ?_)
        refine lv_goto (tgt := 4) hx hb dX12_fitsOne_23 (by decide) ?_
        exact ih138 zi605 zi607 _ _ ls (by have := hm140; have := qe611; omega) (b_wid2 bd609 (by decide) (by decide)) (lv_sub hl [2, 3, 1, 0] rfl) hw hS
  exact lp139 _ 0 0 _ _ ls (lp_in _) (b_wid2 bc_0 (by decide) (by decide)) (lv_sub hl [2, 3, 1, 0] rfl) hw hS
