set_option maxRecDepth 100000 in
set_option maxHeartbeats 4000000 in
theorem cX12_fail_0 (l : Launch) (G : va_G) (cy : Nat → ClassId) (ev : Ew) (K ln : Nat → Nat) (Ls : List Nat) (hW : SW K ln Ls) (sz : Nat) (hp0 : Nat → Nat → Value) (ok0 : Ok K hp0) (qa900 : Nat) (zi901 : Int32) (kd900 : K qa900 = 13) (bd901 : ((1 : Int) ≤ zi901.toInt ∧ zi901.toInt ≤ 2)) : Met l yX12_fail (WS yX12_fail cX12_fail 2 none) { frames := 0, cells := 0, slots := 0, locals := 0 } (PB2 [.ref qa900, .int zi901] sz G cy ev (va_pl Ls (cellOf cy K ln hp0))) (QBv (S := (Nat → Nat → Value)) (fun u : (Nat → Nat → Value) => Ok K u ∧ Fr [13013, 13014] K hp0 u ∧ (∃ z : Int32, u qa900 13 = .int z ∧ ((1 : Int) ≤ z.toInt ∧ z.toInt ≤ 2)) ∧ ((gi u qa900 13) ≥ (gi hp0 qa900 13))) G (fun u => va_pl Ls (cellOf cy K ln u)) (va_A (va_pl Ls (cellOf cy K ln hp0)) sz)) 0 0 (va_A (va_pl Ls (cellOf cy K ln hp0)) sz) := by
  refine met_of2 (y := yX12_fail) (L := 2) (av := [.ref qa900, .int zi901]) (Qc := fun A => QBv (S := (Nat → Nat → Value)) (fun u : (Nat → Nat → Value) => Ok K u ∧ Fr [13013, 13014] K hp0 u ∧ (∃ z : Int32, u qa900 13 = .int z ∧ ((1 : Int) ≤ z.toInt ∧ z.toInt ≤ 2)) ∧ ((gi u qa900 13) ≥ (gi hp0 qa900 13))) G (fun u => va_pl Ls (cellOf cy K ln u)) A) (plainFor_of_name (by decide)) (Nat.le_of_ble_eq_true rfl) ?_
  intro p e s m below meth c hsz hx hb hr hml hown hT hlocks hin hK A hA hE hw hS ls hl
  have hw : PW G cy K ln Ls A hp0 s.heap := hw
  have hown : s.vm.findClass "LieClockModel" = some m.cls := hown
  have hl : lv_has ls 2 [(0, .ref qa900), (1, .int zi901)] := hl
  obtain ⟨Q, hQ⟩ : ∃ Q : State → Prop, Q = MQ below (QBv (S := (Nat → Nat → Value)) (fun u : (Nat → Nat → Value) => Ok K u ∧ Fr [13013, 13014] K hp0 u ∧ (∃ z : Int32, u qa900 13 = .int z ∧ ((1 : Int) ≤ z.toInt ∧ z.toInt ≤ 2)) ∧ ((gi u qa900 13) ≥ (gi hp0 qa900 13))) G (fun u => va_pl Ls (cellOf cy K ln u)) A) ([.ref qa900, .int zi901] : List Value).toArray s 0 0 A := ⟨_, rfl⟩
  rw [← hQ]
  obtain ⟨zi2, eq1, bd3⟩ := rd_13013 ok0 kd900
  refine lv_aload_n hx hb dX12_fail_0 rfl (lv_at hl 0 rfl) ?_
  refine p_get (ci := 12) (v := .int zi2) (C := RX12) (T := TX12) (N := 69) hx hb hT iw_X12 hown hK hw hW kd900 (by decide) rfl rfl 13 (by decide) eq1 (hT _ tb_1387) (fun _ h9 => h9) dX12_fail_1 ?_
  refine lv_if_le (tgt := 8) hx hb dX12_fail_4 (by decide) (fun cn4 => ?_) (fun cn4 => ?_)
  · skip
    have bd5 : (0 : Int) ≤ zi2.toInt ∧ zi2.toInt ≤ 0 := r_le_x cn4 bd3 bc_0 (by decide) (by decide)
    refine lv_aload_n hx hb dX12_fail_8 rfl (lv_at hl 0 rfl) ?_
    refine lv_iload_n hx hb dX12_fail_9 rfl (lv_at hl 1 rfl) ?_
    refine p_put (ci := 12) (v := .int zi901) (ty := .int) (C := RX12) (T := TX12) (N := 69) hx hb hT iw_X12 tyX12 tyX12_ok nmX12 hown hK hw hS hW kd900 (by decide) rfl rfl 13 (by decide) (hT _ tb_1387) (fun _ h9 => h9) rfl (by decide +kernel) rfl rfl dX12_fail_10 (fun hp6 eh7 H locs hw hS => ?_)
    have ok8 := wr_13013 bd901 (by decide) (by decide) ok0 kd900 eh7
    refine lv_aload_n hx hb dX12_fail_13 rfl (lv_at hl 0 rfl) ?_
    refine lv_aload_n hx hb dX12_fail_14 rfl (lv_at hl 0 rfl) ?_
    obtain ⟨qa10, eq9, kd11⟩ := rd_13006 ok8 kd900
    refine p_get (ci := 12) (v := .ref qa10) (C := RX12) (T := TX12) (N := 69) hx hb hT iw_X12 hown hK hw hW kd900 (by decide) rfl rfl 6 (by decide) eq9 (hT _ tb_1380) (fun _ h9 => h9) dX12_fail_15 ?_
    refine lv_aload_n hx hb dX12_fail_18 rfl (lv_at hl 0 rfl) ?_
    obtain ⟨zi13, eq12, bd14⟩ := rd_13011 ok8 kd900
    refine p_get (ci := 12) (v := .int zi13) (C := RX12) (T := TX12) (N := 69) hx hb hT iw_X12 hown hK hw hW kd900 (by decide) rfl rfl 11 (by decide) eq12 (hT _ tb_1385) (fun _ h9 => h9) dX12_fail_19 ?_
    obtain ⟨zi16, eq15⟩ := rd_63000 ok8 kd11 ((zi13 : Int32).toNatClampNeg)
    refine p_iald (v := zi16) hx hb hK hw hW kd11 (by decide) rfl (hW.len kd11 (n := 403) rfl (by decide)) (vp_b bd14 (by decide) (by decide)) eq15 dX12_fail_22 ?_
    refine p_put (ci := 12) (v := .int zi16) (ty := .int) (C := RX12) (T := TX12) (N := 69) hx hb hT iw_X12 tyX12 tyX12_ok nmX12 hown hK hw hS hW kd900 (by decide) rfl rfl 14 (by decide) (hT _ tb_1388) (fun _ h9 => h9) rfl (by decide +kernel) rfl rfl dX12_fail_23 (fun hp17 eh18 H locs hw hS => ?_)
    have ok19 := wr_13014 ok8 kd900 eh18
    have eq20 : hp17 qa900 13 = .int zi901 := Eq.trans (up_at eh18 (Or.inr (by decide))) (hp_self eh7)
    rw [hQ]
    exact kz_v hx hb hr hlocks hS hp17 hw ⟨ok19, (Fr.put (cq := 13014) (Fr.put (cq := 13013) (Fr.rf) eh7 kd900 (cd_o (by decide)) (by decide)) eh18 kd900 (cd_o (by decide)) (by decide)), ⟨_, eq20, b_wid2 bd901 (by decide) (by decide)⟩, (by simp only [gi_of eq1, gi_of eq20]; omega)⟩ (Nat.le_of_ble_eq_true rfl) (Nat.le_of_ble_eq_true rfl) dX12_fail_26
  · skip
    have bd21 : (1 : Int) ≤ zi2.toInt ∧ zi2.toInt ≤ 2 := r_lt_y (Int32.not_le.mp cn4) bc_0 bd3 (by decide) (by decide)
    rw [hQ]
    exact kz_v hx hb hr hlocks hS hp0 hw ⟨ok0, (Fr.rf), ⟨_, eq1, b_wid2 bd21 (by decide) (by decide)⟩, (by simp only [gi_of eq1]; omega)⟩ (Nat.le_of_ble_eq_true rfl) (Nat.le_of_ble_eq_true rfl) dX12_fail_7

set_option maxRecDepth 100000 in
set_option maxHeartbeats 4000000 in
theorem cX12_wrong_0 (l : Launch) (G : va_G) (cy : Nat → ClassId) (ev : Ew) (K ln : Nat → Nat) (Ls : List Nat) (hW : SW K ln Ls) (sz : Nat) (hp0 : Nat → Nat → Value) (ok0 : Ok K hp0) (qa900 : Nat) (zi901 : Int32) (zi902 : Int32) (kd900 : K qa900 = 13) (bd902 : ((0 : Int) ≤ zi902.toInt ∧ zi902.toInt ≤ 400)) : Met l yX12_wrong (WS yX12_wrong cX12_wrong 4 none) { frames := 0, cells := 0, slots := 0, locals := 0 } (PB2 [.ref qa900, .int zi901, .int zi902] sz G cy ev (va_pl Ls (cellOf cy K ln hp0))) (QBv (S := (Nat → Nat → Value)) (fun u : (Nat → Nat → Value) => Ok K u ∧ Fr [13015, 13016] K hp0 u) G (fun u => va_pl Ls (cellOf cy K ln u)) (va_A (va_pl Ls (cellOf cy K ln hp0)) sz)) 0 0 (va_A (va_pl Ls (cellOf cy K ln hp0)) sz) := by
  refine met_of2 (y := yX12_wrong) (L := 4) (av := [.ref qa900, .int zi901, .int zi902]) (Qc := fun A => QBv (S := (Nat → Nat → Value)) (fun u : (Nat → Nat → Value) => Ok K u ∧ Fr [13015, 13016] K hp0 u) G (fun u => va_pl Ls (cellOf cy K ln u)) A) (plainFor_of_name (by decide)) (Nat.le_of_ble_eq_true rfl) ?_
  intro p e s m below meth c hsz hx hb hr hml hown hT hlocks hin hK A hA hE hw hS ls hl
  have hw : PW G cy K ln Ls A hp0 s.heap := hw
  have hown : s.vm.findClass "LieClockModel" = some m.cls := hown
  have hl : lv_has ls 4 [(0, .ref qa900), (1, .int zi901), (2, .int zi902)] := hl
  obtain ⟨Q, hQ⟩ : ∃ Q : State → Prop, Q = MQ below (QBv (S := (Nat → Nat → Value)) (fun u : (Nat → Nat → Value) => Ok K u ∧ Fr [13015, 13016] K hp0 u) G (fun u => va_pl Ls (cellOf cy K ln u)) A) ([.ref qa900, .int zi901, .int zi902] : List Value).toArray s 0 0 A := ⟨_, rfl⟩
  rw [← hQ]
  refine lv_aload_n hx hb dX12_wrong_0 rfl (lv_at hl 0 rfl) ?_
  obtain ⟨qa2, eq1, kd3⟩ := rd_13006 ok0 kd900
  refine p_get (ci := 12) (v := .ref qa2) (C := RX12) (T := TX12) (N := 69) hx hb hT iw_X12 hown hK hw hW kd900 (by decide) rfl rfl 6 (by decide) eq1 (hT _ tb_1380) (fun _ h9 => h9) dX12_wrong_1 ?_
  refine lv_iload_n hx hb dX12_wrong_4 rfl (lv_at hl 2 rfl) ?_
  obtain ⟨zi5, eq4⟩ := rd_63000 ok0 kd3 ((zi902 : Int32).toNatClampNeg)
  refine p_iald (v := zi5) hx hb hK hw hW kd3 (by decide) rfl (hW.len kd3 (n := 403) rfl (by decide)) (vp_b bd902 (by decide) (by decide)) eq4 dX12_wrong_5 ?_
  refine lv_istore_n (lv' := [(3, .int zi5), (0, .ref qa900), (1, .int zi901), (2, .int zi902)]) hx hb dX12_wrong_6 rfl hl (by decide) rfl (fun ls hl => ?_)
  refine lv_aload_n hx hb dX12_wrong_7 rfl (lv_at hl 1 rfl) ?_
  obtain ⟨zi7, eq6, bd8⟩ := rd_13013 ok0 kd900
  refine p_get (ci := 12) (v := .int zi7) (C := RX12) (T := TX12) (N := 69) hx hb hT iw_X12 hown hK hw hW kd900 (by decide) rfl rfl 13 (by decide) eq6 (hT _ tb_1387) (fun _ h9 => h9) dX12_wrong_8 ?_
  refine lv_if_gt (tgt := 45) hx hb dX12_wrong_11 (by decide) (fun cn9 => ?_) (fun cn9 => ?_)
  · skip
    have bd10 : (1 : Int) ≤ zi7.toInt ∧ zi7.toInt ≤ 2 := r_lt_y cn9 bc_0 bd8 (by decide) (by decide)
    rw [hQ]
    exact kz_v hx hb hr hlocks hS hp0 hw ⟨ok0, (Fr.rf)⟩ (Nat.le_of_ble_eq_true rfl) (Nat.le_of_ble_eq_true rfl) dX12_wrong_45
  · skip
    have bd11 : (0 : Int) ≤ zi7.toInt ∧ zi7.toInt ≤ 0 := r_le_x (Int32.not_lt.mp cn9) bd8 bc_0 (by decide) (by decide)
    refine lv_aload_n hx hb dX12_wrong_14 rfl (lv_at hl 1 rfl) ?_
    obtain ⟨zi13, eq12⟩ := rd_13015 ok0 kd900
    refine p_get (ci := 12) (v := .int zi13) (C := RX12) (T := TX12) (N := 69) hx hb hT iw_X12 hown hK hw hW kd900 (by decide) rfl rfl 15 (by decide) eq12 (hT _ tb_1389) (fun _ h9 => h9) dX12_wrong_15 ?_
    refine lv_if_eq (tgt := 46) hx hb dX12_wrong_18 (by decide) (fun cn14 => ?_) (fun cn14 => ?_)
    · skip
      have bd15 : (0 : Int) ≤ zi13.toInt ∧ zi13.toInt ≤ 0 := r_eq_x cn14 (b_all zi13) bc_0 (by decide) (by decide)
      refine lv_aload_n hx hb dX12_wrong_46 rfl (lv_at hl 1 rfl) ?_
      refine lv_iload_n hx hb dX12_wrong_47 rfl (lv_at hl 2 rfl) ?_
      refine p_put (ci := 12) (v := .int zi901) (ty := .int) (C := RX12) (T := TX12) (N := 69) hx hb hT iw_X12 tyX12 tyX12_ok nmX12 hown hK hw hS hW kd900 (by decide) rfl rfl 15 (by decide) (hT _ tb_1389) (fun _ h9 => h9) rfl (by decide +kernel) rfl rfl dX12_wrong_48 (fun hp16 eh17 H locs hw hS => ?_)
      have ok18 := wr_13015 ok0 kd900 eh17
      refine lv_aload_n hx hb dX12_wrong_51 rfl (lv_at hl 1 rfl) ?_
      refine lv_iload_n hx hb dX12_wrong_52 rfl (lv_at hl 0 rfl) ?_
      refine p_put (ci := 12) (v := .int zi5) (ty := .int) (C := RX12) (T := TX12) (N := 69) hx hb hT iw_X12 tyX12 tyX12_ok nmX12 hown hK hw hS hW kd900 (by decide) rfl rfl 16 (by decide) (hT _ tb_1390) (fun _ h9 => h9) rfl (by decide +kernel) rfl rfl dX12_wrong_53 (fun hp19 eh20 H locs hw hS => ?_)
      have ok21 := wr_13016 ok18 kd900 eh20
      rw [hQ]
      exact kz_v hx hb hr hlocks hS hp19 hw ⟨ok21, (Fr.put (cq := 13016) (Fr.put (cq := 13015) (Fr.rf) eh17 kd900 (cd_o (by decide)) (by decide)) eh20 kd900 (cd_o (by decide)) (by decide))⟩ (Nat.le_of_ble_eq_true rfl) (Nat.le_of_ble_eq_true rfl) dX12_wrong_56
    · skip
      refine lv_iload_n hx hb dX12_wrong_21 rfl (lv_at hl 0 rfl) ?_
      refine lv_aload_n hx hb dX12_wrong_22 rfl (lv_at hl 1 rfl) ?_
      obtain ⟨zi23, eq22⟩ := rd_13016 ok0 kd900
      refine p_get (ci := 12) (v := .int zi23) (C := RX12) (T := TX12) (N := 69) hx hb hT iw_X12 hown hK hw hW kd900 (by decide) rfl rfl 16 (by decide) eq22 (hT _ tb_1390) (fun _ h9 => h9) dX12_wrong_23 ?_
      refine lv_icmp_gt (tgt := 45) hx hb dX12_wrong_26 (by decide) (fun cn24 => ?_) (fun cn24 => ?_)
      · skip
        have bd25 : (-2147483648 : Int) ≤ zi23.toInt ∧ zi23.toInt ≤ 2147483646 := r_lt_x cn24 (b_all zi23) (b_all zi5) (by decide) (by decide)
        have bd26 : (-2147483647 : Int) ≤ zi5.toInt ∧ zi5.toInt ≤ 2147483647 := r_lt_y cn24 (b_all zi23) (b_all zi5) (by decide) (by decide)
        rw [hQ]
        exact kz_v hx hb hr hlocks hS hp0 hw ⟨ok0, (Fr.rf)⟩ (Nat.le_of_ble_eq_true rfl) (Nat.le_of_ble_eq_true rfl) dX12_wrong_45
      · skip
        refine lv_iload_n hx hb dX12_wrong_29 rfl (lv_at hl 0 rfl) ?_
        refine lv_aload_n hx hb dX12_wrong_30 rfl (lv_at hl 1 rfl) ?_
        refine p_get (ci := 12) (v := .int zi23) (C := RX12) (T := TX12) (N := 69) hx hb hT iw_X12 hown hK hw hW kd900 (by decide) rfl rfl 16 (by decide) eq22 (hT _ tb_1390) (fun _ h9 => h9) dX12_wrong_31 ?_
        refine lv_icmp_ne (tgt := 46) hx hb dX12_wrong_34 (by decide) (fun cn27 => ?_) (fun cn27 => ?_)
        · skip
          refine lv_aload_n hx hb dX12_wrong_46 rfl (lv_at hl 1 rfl) ?_
          refine lv_iload_n hx hb dX12_wrong_47 rfl (lv_at hl 2 rfl) ?_
          refine p_put (ci := 12) (v := .int zi901) (ty := .int) (C := RX12) (T := TX12) (N := 69) hx hb hT iw_X12 tyX12 tyX12_ok nmX12 hown hK hw hS hW kd900 (by decide) rfl rfl 15 (by decide) (hT _ tb_1389) (fun _ h9 => h9) rfl (by decide +kernel) rfl rfl dX12_wrong_48 (fun hp28 eh29 H locs hw hS => ?_)
          have ok30 := wr_13015 ok0 kd900 eh29
          refine lv_aload_n hx hb dX12_wrong_51 rfl (lv_at hl 1 rfl) ?_
          refine lv_iload_n hx hb dX12_wrong_52 rfl (lv_at hl 0 rfl) ?_
          refine p_put (ci := 12) (v := .int zi5) (ty := .int) (C := RX12) (T := TX12) (N := 69) hx hb hT iw_X12 tyX12 tyX12_ok nmX12 hown hK hw hS hW kd900 (by decide) rfl rfl 16 (by decide) (hT _ tb_1390) (fun _ h9 => h9) rfl (by decide +kernel) rfl rfl dX12_wrong_53 (fun hp31 eh32 H locs hw hS => ?_)
          have ok33 := wr_13016 ok30 kd900 eh32
          rw [hQ]
          exact kz_v hx hb hr hlocks hS hp31 hw ⟨ok33, (Fr.put (cq := 13016) (Fr.put (cq := 13015) (Fr.rf) eh29 kd900 (cd_o (by decide)) (by decide)) eh32 kd900 (cd_o (by decide)) (by decide))⟩ (Nat.le_of_ble_eq_true rfl) (Nat.le_of_ble_eq_true rfl) dX12_wrong_56
        · skip
          refine lv_iload_n hx hb dX12_wrong_37 rfl (lv_at hl 2 rfl) ?_
          refine lv_aload_n hx hb dX12_wrong_38 rfl (lv_at hl 1 rfl) ?_
          refine p_get (ci := 12) (v := .int zi13) (C := RX12) (T := TX12) (N := 69) hx hb hT iw_X12 hown hK hw hW kd900 (by decide) rfl rfl 15 (by decide) eq12 (hT _ tb_1389) (fun _ h9 => h9) dX12_wrong_39 ?_
          refine lv_icmp_lt (tgt := 46) hx hb dX12_wrong_42 (by decide) (fun cn34 => ?_) (fun cn34 => ?_)
          · skip
            have bd35 : (-2147483648 : Int) ≤ zi901.toInt ∧ zi901.toInt ≤ 2147483646 := r_lt_x cn34 (b_all zi901) (b_all zi13) (by decide) (by decide)
            have bd36 : (-2147483647 : Int) ≤ zi13.toInt ∧ zi13.toInt ≤ 2147483647 := r_lt_y cn34 (b_all zi901) (b_all zi13) (by decide) (by decide)
            refine lv_aload_n hx hb dX12_wrong_46 rfl (lv_at hl 1 rfl) ?_
            refine lv_iload_n hx hb dX12_wrong_47 rfl (lv_at hl 2 rfl) ?_
            refine p_put (ci := 12) (v := .int zi901) (ty := .int) (C := RX12) (T := TX12) (N := 69) hx hb hT iw_X12 tyX12 tyX12_ok nmX12 hown hK hw hS hW kd900 (by decide) rfl rfl 15 (by decide) (hT _ tb_1389) (fun _ h9 => h9) rfl (by decide +kernel) rfl rfl dX12_wrong_48 (fun hp37 eh38 H locs hw hS => ?_)
            have ok39 := wr_13015 ok0 kd900 eh38
            refine lv_aload_n hx hb dX12_wrong_51 rfl (lv_at hl 1 rfl) ?_
            refine lv_iload_n hx hb dX12_wrong_52 rfl (lv_at hl 0 rfl) ?_
            refine p_put (ci := 12) (v := .int zi5) (ty := .int) (C := RX12) (T := TX12) (N := 69) hx hb hT iw_X12 tyX12 tyX12_ok nmX12 hown hK hw hS hW kd900 (by decide) rfl rfl 16 (by decide) (hT _ tb_1390) (fun _ h9 => h9) rfl (by decide +kernel) rfl rfl dX12_wrong_53 (fun hp40 eh41 H locs hw hS => ?_)
            have ok42 := wr_13016 ok39 kd900 eh41
            rw [hQ]
            exact kz_v hx hb hr hlocks hS hp40 hw ⟨ok42, (Fr.put (cq := 13016) (Fr.put (cq := 13015) (Fr.rf) eh38 kd900 (cd_o (by decide)) (by decide)) eh41 kd900 (cd_o (by decide)) (by decide))⟩ (Nat.le_of_ble_eq_true rfl) (Nat.le_of_ble_eq_true rfl) dX12_wrong_56
          · skip
            rw [hQ]
            exact kz_v hx hb hr hlocks hS hp0 hw ⟨ok0, (Fr.rf)⟩ (Nat.le_of_ble_eq_true rfl) (Nat.le_of_ble_eq_true rfl) dX12_wrong_45

set_option maxRecDepth 100000 in
set_option maxHeartbeats 4000000 in
theorem cX12_goesOn_0 (l : Launch) (G : va_G) (cy : Nat → ClassId) (ev : Ew) (K ln : Nat → Nat) (Ls : List Nat) (hW : SW K ln Ls) (sz : Nat) (hp0 : Nat → Nat → Value) (ok0 : Ok K hp0) (qa900 : Nat) (kd900 : K qa900 = 13) : Met l yX12_goesOn (WS yX12_goesOn cX12_goesOn 1 none) { frames := 1, cells := 0, slots := 0, locals := 21 } (PB2 [.ref qa900] sz G cy ev (va_pl Ls (cellOf cy K ln hp0))) (QBv (S := (Nat → Nat → Value)) (fun u : (Nat → Nat → Value) => Ok K u ∧ Fr [13011, 13013, 13014] K hp0 u ∧ (∃ z : Int32, u qa900 11 = .int z ∧ ((1 : Int) ≤ z.toInt ∧ z.toInt ≤ 400)) ∧ (4*(gi u qa900 11) + (gi u qa900 13) ≥ 4*(gi hp0 qa900 11) + (gi hp0 qa900 13)) ∧ ((gi u qa900 13) ≥ (gi hp0 qa900 13)) ∧ (4*(gi u qa900 11) + (gi u qa900 13) ≥ 4*(gi hp0 qa900 11) + 1)) G (fun u => va_pl Ls (cellOf cy K ln u)) (va_A (va_pl Ls (cellOf cy K ln hp0)) sz)) 0 0 (va_A (va_pl Ls (cellOf cy K ln hp0)) sz) := by
  refine met_of2 (y := yX12_goesOn) (L := 1) (av := [.ref qa900]) (Qc := fun A => QBv (S := (Nat → Nat → Value)) (fun u : (Nat → Nat → Value) => Ok K u ∧ Fr [13011, 13013, 13014] K hp0 u ∧ (∃ z : Int32, u qa900 11 = .int z ∧ ((1 : Int) ≤ z.toInt ∧ z.toInt ≤ 400)) ∧ (4*(gi u qa900 11) + (gi u qa900 13) ≥ 4*(gi hp0 qa900 11) + (gi hp0 qa900 13)) ∧ ((gi u qa900 13) ≥ (gi hp0 qa900 13)) ∧ (4*(gi u qa900 11) + (gi u qa900 13) ≥ 4*(gi hp0 qa900 11) + 1)) G (fun u => va_pl Ls (cellOf cy K ln u)) A) (plainFor_of_name (by decide)) (Nat.le_of_ble_eq_true rfl) ?_
  intro p e s m below meth c hsz hx hb hr hml hown hT hlocks hin hK A hA hE hw hS ls hl
  have hw : PW G cy K ln Ls A hp0 s.heap := hw
  have hown : s.vm.findClass "LieClockModel" = some m.cls := hown
  have hl : lv_has ls 1 [(0, .ref qa900)] := hl
  obtain ⟨Q, hQ⟩ : ∃ Q : State → Prop, Q = MQ below (QBv (S := (Nat → Nat → Value)) (fun u : (Nat → Nat → Value) => Ok K u ∧ Fr [13011, 13013, 13014] K hp0 u ∧ (∃ z : Int32, u qa900 11 = .int z ∧ ((1 : Int) ≤ z.toInt ∧ z.toInt ≤ 400)) ∧ (4*(gi u qa900 11) + (gi u qa900 13) ≥ 4*(gi hp0 qa900 11) + (gi hp0 qa900 13)) ∧ ((gi u qa900 13) ≥ (gi hp0 qa900 13)) ∧ (4*(gi u qa900 11) + (gi u qa900 13) ≥ 4*(gi hp0 qa900 11) + 1)) G (fun u => va_pl Ls (cellOf cy K ln u)) A) ([.ref qa900] : List Value).toArray s 0 0 A := ⟨_, rfl⟩
  rw [← hQ]
  obtain ⟨zi2, eq1, bd3⟩ := rd_13013 ok0 kd900
  obtain ⟨zi5, eq4, bd6⟩ := rd_13011 ok0 kd900
  refine lv_aload_n hx hb dX12_goesOn_0 rfl (lv_at hl 0 rfl) ?_
  refine p_get (ci := 12) (v := .int zi5) (C := RX12) (T := TX12) (N := 69) hx hb hT iw_X12 hown hK hw hW kd900 (by decide) rfl rfl 11 (by decide) eq4 (hT _ tb_1385) (fun _ h9 => h9) dX12_goesOn_1 ?_
  refine lv_sipush (v := 400) hx hb dX12_goesOn_4 (by decide) ?_
  refine lv_icmp_ne (tgt := 18) hx hb dX12_goesOn_7 (by decide) (fun cn7 => ?_) (fun cn7 => ?_)
  · skip
    have tf8 : (zi5 : Int32).toInt ≠ (400 : Int32).toInt := fun e => cn7 (Int32.toInt_inj.mp e)
    have := toi bc_400
    have bd9 : (0 : Int) ≤ zi5.toInt ∧ zi5.toInt ≤ 399 := r_ne_hi cn7 bd6 (toi bc_400) (by decide) (by decide)
    refine lv_aload_n hx hb dX12_goesOn_18 rfl (lv_at hl 0 rfl) ?_
    refine lv_dup hx hb dX12_goesOn_19 rfl ?_
    refine p_get (ci := 12) (v := .int zi5) (C := RX12) (T := TX12) (N := 69) hx hb hT iw_X12 hown hK hw hW kd900 (by decide) rfl rfl 11 (by decide) eq4 (hT _ tb_1385) (fun _ h9 => h9) dX12_goesOn_20 ?_
    refine lv_iconst (v := 1) hx hb dX12_goesOn_23 (by decide) ?_
    refine lv_iadd hx hb dX12_goesOn_24 (lv_topi (fun zi10 ea11 => ?_))
    have bd12 : (1 : Int) ≤ zi10.toInt ∧ zi10.toInt ≤ 400 := b_iadd ea11 bd9 bc_1 (by decide) (by decide) (by decide) (by decide)
    have qe13 : zi10.toInt = (zi5 : Int32).toInt + (1 : Int32).toInt := e_iadd ea11 bd9 bc_1 (by decide) (by decide)
    have qe14 : zi10.toInt = zi5.toInt + 1 := by have ha : (1 : Int32).toInt = 1 := (by decide); rw [ha] at qe13; exact qe13
    refine p_put (ci := 12) (v := .int zi10) (ty := .int) (C := RX12) (T := TX12) (N := 69) hx hb hT iw_X12 tyX12 tyX12_ok nmX12 hown hK hw hS hW kd900 (by decide) rfl rfl 11 (by decide) (hT _ tb_1385) (fun _ h9 => h9) rfl (by decide +kernel) rfl rfl dX12_goesOn_25 (fun hp15 eh16 H locs hw hS => ?_)
    have ok17 := wr_13011 bd12 (by decide) (by decide) ok0 kd900 eh16
    have eq18 : hp15 qa900 13 = .int zi2 := Eq.trans (up_at eh16 (Or.inr (by decide))) eq1
    rw [hQ]
    exact kz_v hx hb hr hlocks hS hp15 hw ⟨ok17, (Fr.put (cq := 13011) (Fr.rf) eh16 kd900 (cd_o (by decide)) (by decide)), ⟨_, (hp_self eh16), b_wid2 bd12 (by decide) (by decide)⟩, (by simp only [gi_of (hp_self eh16), gi_of eq1, gi_of eq18, gi_of eq4]; omega), (by simp only [gi_of eq1, gi_of eq18]; omega), (by simp only [gi_of (hp_self eh16), gi_of eq18, gi_of eq4]; omega)⟩ (Nat.le_of_ble_eq_true rfl) (Nat.le_of_ble_eq_true rfl) dX12_goesOn_28
  · skip
    have bd19 : (400 : Int) ≤ zi5.toInt ∧ zi5.toInt ≤ 400 := r_eq_x cn7 bd6 bc_400 (by decide) (by decide)
    refine lv_aload_n hx hb dX12_goesOn_10 rfl (lv_at hl 0 rfl) ?_
    refine lv_iconst (v := 2) hx hb dX12_goesOn_11 (by decide) ?_
    refine kq_v hw hS hA (va_runV (As := [.int 2]) (rest := []) ⟨hx, hb, hml, hown, hT⟩ (cX12_fail_0 l G cy ev K ln Ls hW _ hp0 ok0 qa900 2 kd900 (b_wid2 bc_2 (by decide) (by decide))) (cwV 1 hT (good_V tb_1635 tb_1632 tb_1634 tb_55 tb_122) rfl rfl rfl (by decide +kernel) ⟨Nat.le_of_ble_eq_true rfl, Nat.le_of_ble_eq_true rfl⟩) (pool_preV (ci := 12) hK hE hS hA hw hW kd900 (by decide) rfl) rfl rfl hl.1 rfl (lv_room (Nat.le_of_ble_eq_true rfl)) dX12_goesOn_12 ⟨Nat.le_of_ble_eq_true rfl, Nat.le_of_ble_eq_true rfl⟩) (fun hp20 H locs hq23 hw hS => ?_)
    obtain ⟨ok21, F22, ⟨zi25, eq26, bd27⟩, rh28⟩ := hq23
    have hw : PW G cy K ln Ls A hp20 H := hw
    simp only [gi_of eq1, gi_of eq26] at rh28
    refine lv_goto (tgt := 28) hx hb dX12_goesOn_15 (by decide) ?_
    have eq29 : hp20 qa900 11 = .int zi5 := Eq.trans (Fr.at (cq := 13011) F22 kd900 (cd_o (by decide)) (by decide)) eq4
    rw [hQ]
    exact kz_v hx hb hr hlocks hS hp20 hw ⟨ok21, (Fr.tr (Fr.rf) F22 (by decide)), ⟨_, eq29, b_wid2 bd19 (by decide) (by decide)⟩, (by simp only [gi_of eq1, gi_of eq26, gi_of eq29, gi_of eq4]; omega), (by simp only [gi_of eq1, gi_of eq26]; omega), (by simp only [gi_of eq26, gi_of eq29, gi_of eq4]; omega)⟩ (Nat.le_of_ble_eq_true rfl) (Nat.le_of_ble_eq_true rfl) dX12_goesOn_28

set_option maxRecDepth 100000 in
set_option maxHeartbeats 4000000 in
theorem cX12_must_0 (l : Launch) (G : va_G) (cy : Nat → ClassId) (ev : Ew) (K ln : Nat → Nat) (Ls : List Nat) (hW : SW K ln Ls) (sz : Nat) (hp0 : Nat → Nat → Value) (ok0 : Ok K hp0) (qa900 : Nat) (zi901 : Int32) (kd900 : K qa900 = 13) : Met l yX12_must (WS yX12_must cX12_must 2 none) { frames := 2, cells := 0, slots := 0, locals := 41 } (PB2 [.ref qa900, .int zi901] sz G cy ev (va_pl Ls (cellOf cy K ln hp0))) (QBv (S := (Nat → Nat → Value)) (fun u : (Nat → Nat → Value) => Ok K u ∧ Fr [13011, 13013, 13014] K hp0 u ∧ (4*(gi u qa900 11) + (gi u qa900 13) ≥ 4*(gi hp0 qa900 11) + (gi hp0 qa900 13)) ∧ ((gi u qa900 13) ≥ (gi hp0 qa900 13)) ∧ (4*(gi u qa900 11) + (gi u qa900 13) ≥ 4*(gi hp0 qa900 11) + 1)) G (fun u => va_pl Ls (cellOf cy K ln u)) (va_A (va_pl Ls (cellOf cy K ln hp0)) sz)) 0 0 (va_A (va_pl Ls (cellOf cy K ln hp0)) sz) := by
  refine met_of2 (y := yX12_must) (L := 2) (av := [.ref qa900, .int zi901]) (Qc := fun A => QBv (S := (Nat → Nat → Value)) (fun u : (Nat → Nat → Value) => Ok K u ∧ Fr [13011, 13013, 13014] K hp0 u ∧ (4*(gi u qa900 11) + (gi u qa900 13) ≥ 4*(gi hp0 qa900 11) + (gi hp0 qa900 13)) ∧ ((gi u qa900 13) ≥ (gi hp0 qa900 13)) ∧ (4*(gi u qa900 11) + (gi u qa900 13) ≥ 4*(gi hp0 qa900 11) + 1)) G (fun u => va_pl Ls (cellOf cy K ln u)) A) (plainFor_of_name (by decide)) (Nat.le_of_ble_eq_true rfl) ?_
  intro p e s m below meth c hsz hx hb hr hml hown hT hlocks hin hK A hA hE hw hS ls hl
  have hw : PW G cy K ln Ls A hp0 s.heap := hw
  have hown : s.vm.findClass "LieClockModel" = some m.cls := hown
  have hl : lv_has ls 2 [(0, .ref qa900), (1, .int zi901)] := hl
  obtain ⟨Q, hQ⟩ : ∃ Q : State → Prop, Q = MQ below (QBv (S := (Nat → Nat → Value)) (fun u : (Nat → Nat → Value) => Ok K u ∧ Fr [13011, 13013, 13014] K hp0 u ∧ (4*(gi u qa900 11) + (gi u qa900 13) ≥ 4*(gi hp0 qa900 11) + (gi hp0 qa900 13)) ∧ ((gi u qa900 13) ≥ (gi hp0 qa900 13)) ∧ (4*(gi u qa900 11) + (gi u qa900 13) ≥ 4*(gi hp0 qa900 11) + 1)) G (fun u => va_pl Ls (cellOf cy K ln u)) A) ([.ref qa900, .int zi901] : List Value).toArray s 0 0 A := ⟨_, rfl⟩
  rw [← hQ]
  obtain ⟨zi2, eq1, bd3⟩ := rd_13013 ok0 kd900
  obtain ⟨zi5, eq4, bd6⟩ := rd_13011 ok0 kd900
  refine lv_aload_n hx hb dX12_must_0 rfl (lv_at hl 0 rfl) ?_
  refine lv_iload_n hx hb dX12_must_1 rfl (lv_at hl 1 rfl) ?_
  obtain ⟨qa8, eq7, kd9⟩ := rd_13005 ok0 kd900
  obtain ⟨zi11, eq10⟩ := rd_62000 ok0 kd9 ((zi5 : Int32).toNatClampNeg)
  refine kq_i hw hS hA (va_runV (As := [.int zi901]) (rest := []) ⟨hx, hb, hml, hown, hT⟩ (cX12_is_0 l G cy ev K ln Ls hW _ hp0 ok0 qa900 zi901 kd900) (cwV 1 hT (good_V tb_1623 tb_1620 tb_1622 tb_52 tb_122) rfl rfl rfl (by decide +kernel) ⟨Nat.le_of_ble_eq_true rfl, Nat.le_of_ble_eq_true rfl⟩) (pool_preV (ci := 12) hK hE hS hA hw hW kd900 (by decide) rfl) rfl rfl hl.1 rfl (lv_room (Nat.le_of_ble_eq_true rfl)) dX12_must_2 ⟨Nat.le_of_ble_eq_true rfl, Nat.le_of_ble_eq_true rfl⟩) (fun zi16 hp12 H locs hq15 hw hS => ?_)
  obtain ⟨ok13, F14, bd17, hc18, rh19, rh20, rh21⟩ := hq15
  obtain rfl : hp0 = hp12 := (Fr.nil F14).symm
  have hw : PW G cy K ln Ls A hp0 H := hw
  rcases b01 bd17 with cn22 | cn22
  · skip
    subst cn22
    have rh23 := rh21 rfl
    simp only [ge_of eq7 eq4 eq10, gi_of eq1] at rh23
    refine lv_if_eq (tgt := 15) hx hb dX12_must_5 (by decide) (fun _ => ?_) (fun c => absurd (d_eq bc_0 bc_0) c)
    refine lv_aload_n hx hb dX12_must_15 rfl (lv_at hl 0 rfl) ?_
    refine lv_iconst (v := 1) hx hb dX12_must_16 (by decide) ?_
    refine kq_v hw hS hA (va_runV (As := [.int 1]) (rest := []) ⟨hx, hb, hml, hown, hT⟩ (cX12_fail_0 l G cy ev K ln Ls hW _ hp0 ok0 qa900 1 kd900 (b_wid2 bc_1 (by decide) (by decide))) (cwV 1 hT (good_V tb_1635 tb_1632 tb_1634 tb_55 tb_122) rfl rfl rfl (by decide +kernel) ⟨Nat.le_of_ble_eq_true rfl, Nat.le_of_ble_eq_true rfl⟩) (pool_preV (ci := 12) hK hE hS hA hw hW kd900 (by decide) rfl) rfl rfl hl.1 rfl (lv_room (Nat.le_of_ble_eq_true rfl)) dX12_must_17 ⟨Nat.le_of_ble_eq_true rfl, Nat.le_of_ble_eq_true rfl⟩) (fun hp24 H locs hq27 hw hS => ?_)
    obtain ⟨ok25, F26, ⟨zi29, eq30, bd31⟩, rh32⟩ := hq27
    have hw : PW G cy K ln Ls A hp24 H := hw
    simp only [gi_of eq1, gi_of eq30] at rh32
    have eq33 : hp24 qa900 11 = .int zi5 := Eq.trans (Fr.at (cq := 13011) F26 kd900 (cd_o (by decide)) (by decide)) eq4
    rw [hQ]
    exact kz_v hx hb hr hlocks hS hp24 hw ⟨ok25, (Fr.tr (Fr.rf) F26 (by decide)), (by simp only [gi_of eq1, gi_of eq30, gi_of eq33, gi_of eq4]; omega), (by simp only [gi_of eq1, gi_of eq30]; omega), (by simp only [gi_of eq30, gi_of eq33, gi_of eq4]; omega)⟩ (Nat.le_of_ble_eq_true rfl) (Nat.le_of_ble_eq_true rfl) dX12_must_20
  · skip
    subst cn22
    obtain ⟨zi34, eq35, bd36⟩ := hc18 rfl
    have hx37 : zi2 = zi34 := Value.int.inj (Eq.trans (Eq.symm eq1) eq35)
    subst hx37
    have bd38 : (0 : Int) ≤ zi2.toInt ∧ zi2.toInt ≤ 0 := b_meet bd3 bd36 (by decide) (by decide)
    have rh39 := rh19 rfl
    simp only [ge_of eq7 eq4 eq10] at rh39
    have rh40 := rh20 rfl
    simp only [gi_of eq1] at rh40
    refine lv_if_eq (tgt := 15) hx hb dX12_must_5 (by decide) (fun c => absurd c (d_ne bc_1 bc_0 (by decide))) (fun _ => ?_)
    refine lv_aload_n hx hb dX12_must_8 rfl (lv_at hl 0 rfl) ?_
    refine kq_v hw hS hA (va_runV (As := []) (rest := []) ⟨hx, hb, hml, hown, hT⟩ (cX12_goesOn_0 l G cy ev K ln Ls hW _ hp0 ok0 qa900 kd900) (cwV 0 hT (good_V tb_1639 tb_1636 tb_1638 tb_56 tb_122) rfl rfl rfl (by decide +kernel) ⟨Nat.le_of_ble_eq_true rfl, Nat.le_of_ble_eq_true rfl⟩) (pool_preV (ci := 12) hK hE hS hA hw hW kd900 (by decide) rfl) rfl rfl hl.1 rfl (lv_room (Nat.le_of_ble_eq_true rfl)) dX12_must_9 ⟨Nat.le_of_ble_eq_true rfl, Nat.le_of_ble_eq_true rfl⟩) (fun hp41 H locs hq44 hw hS => ?_)
    obtain ⟨ok42, F43, ⟨zi46, eq47, bd48⟩, rh49, rh50, rh51⟩ := hq44
    have hw : PW G cy K ln Ls A hp41 H := hw
    obtain ⟨zi53, eq52, bd54⟩ := rd_13013 ok42 kd900
    simp only [gi_of eq1, gi_of eq4, gi_of eq47, gi_of eq52] at rh49
    simp only [gi_of eq1, gi_of eq52] at rh50
    simp only [gi_of eq4, gi_of eq47, gi_of eq52] at rh51
    refine lv_goto (tgt := 20) hx hb dX12_must_12 (by decide) ?_
    rw [hQ]
    exact kz_v hx hb hr hlocks hS hp41 hw ⟨ok42, (Fr.tr (Fr.rf) F43 (by decide)), (by simp only [gi_of eq1, gi_of eq4, gi_of eq47, gi_of eq52]; omega), (by simp only [gi_of eq1, gi_of eq52]; omega), (by simp only [gi_of eq4, gi_of eq47, gi_of eq52]; omega)⟩ (Nat.le_of_ble_eq_true rfl) (Nat.le_of_ble_eq_true rfl) dX12_must_20

set_option maxRecDepth 100000 in
set_option maxHeartbeats 4000000 in
theorem cX12_roomFor_0 (l : Launch) (G : va_G) (cy : Nat → ClassId) (ev : Ew) (K ln : Nat → Nat) (Ls : List Nat) (hW : SW K ln Ls) (sz : Nat) (hp0 : Nat → Nat → Value) (ok0 : Ok K hp0) (qa900 : Nat) (zi901 : Int32) (zi902 : Int32) (kd900 : K qa900 = 13) (bd901 : ((0 : Int) ≤ zi901.toInt ∧ zi901.toInt ≤ 6)) (bd902 : ((6 : Int) ≤ zi902.toInt ∧ zi902.toInt ≤ 6)) : Met l yX12_roomFor (WS yX12_roomFor cX12_roomFor 3 none) { frames := 2, cells := 0, slots := 0, locals := 41 } (PB2 [.ref qa900, .int zi901, .int zi902] sz G cy ev (va_pl Ls (cellOf cy K ln hp0))) (QBv (S := (Nat → Nat → Value)) (fun u : (Nat → Nat → Value) => Ok K u ∧ Fr [13011, 13013, 13014] K hp0 u ∧ (4*(gi u qa900 11) + (gi u qa900 13) ≥ 4*(gi hp0 qa900 11) + (gi hp0 qa900 13)) ∧ ((gi u qa900 13) ≥ (gi hp0 qa900 13)) ∧ (4*(gi u qa900 11) + (gi u qa900 13) ≥ 4*(gi hp0 qa900 11) + 1) ∧ ((zi901 : Int32).toInt ≤ (zi902 : Int32).toInt - 1 + (gi u qa900 13))) G (fun u => va_pl Ls (cellOf cy K ln u)) (va_A (va_pl Ls (cellOf cy K ln hp0)) sz)) 0 0 (va_A (va_pl Ls (cellOf cy K ln hp0)) sz) := by
  refine met_of2 (y := yX12_roomFor) (L := 3) (av := [.ref qa900, .int zi901, .int zi902]) (Qc := fun A => QBv (S := (Nat → Nat → Value)) (fun u : (Nat → Nat → Value) => Ok K u ∧ Fr [13011, 13013, 13014] K hp0 u ∧ (4*(gi u qa900 11) + (gi u qa900 13) ≥ 4*(gi hp0 qa900 11) + (gi hp0 qa900 13)) ∧ ((gi u qa900 13) ≥ (gi hp0 qa900 13)) ∧ (4*(gi u qa900 11) + (gi u qa900 13) ≥ 4*(gi hp0 qa900 11) + 1) ∧ ((zi901 : Int32).toInt ≤ (zi902 : Int32).toInt - 1 + (gi u qa900 13))) G (fun u => va_pl Ls (cellOf cy K ln u)) A) (plainFor_of_name (by decide)) (Nat.le_of_ble_eq_true rfl) ?_
  intro p e s m below meth c hsz hx hb hr hml hown hT hlocks hin hK A hA hE hw hS ls hl
  have hw : PW G cy K ln Ls A hp0 s.heap := hw
  have hown : s.vm.findClass "LieClockModel" = some m.cls := hown
  have hl : lv_has ls 3 [(0, .ref qa900), (1, .int zi901), (2, .int zi902)] := hl
  obtain ⟨Q, hQ⟩ : ∃ Q : State → Prop, Q = MQ below (QBv (S := (Nat → Nat → Value)) (fun u : (Nat → Nat → Value) => Ok K u ∧ Fr [13011, 13013, 13014] K hp0 u ∧ (4*(gi u qa900 11) + (gi u qa900 13) ≥ 4*(gi hp0 qa900 11) + (gi hp0 qa900 13)) ∧ ((gi u qa900 13) ≥ (gi hp0 qa900 13)) ∧ (4*(gi u qa900 11) + (gi u qa900 13) ≥ 4*(gi hp0 qa900 11) + 1) ∧ ((zi901 : Int32).toInt ≤ (zi902 : Int32).toInt - 1 + (gi u qa900 13))) G (fun u => va_pl Ls (cellOf cy K ln u)) A) ([.ref qa900, .int zi901, .int zi902] : List Value).toArray s 0 0 A := ⟨_, rfl⟩
  rw [← hQ]
  obtain ⟨zi2, eq1, bd3⟩ := rd_13013 ok0 kd900
  obtain ⟨zi5, eq4, bd6⟩ := rd_13011 ok0 kd900
  refine lv_iload_n hx hb dX12_roomFor_0 rfl (lv_at hl 1 rfl) ?_
  refine lv_iload_n hx hb dX12_roomFor_1 rfl (lv_at hl 2 rfl) ?_
  have jn30 : ∀ (hp21 : Nat → Nat → Value) (zi25 : Int32) (H : Heap) (locs : List Loc) (ls : Array Slot), Ok K hp21 → Fr [13013, 13014] K hp0 hp21 → ((0 : Int) ≤ zi25.toInt ∧ zi25.toInt ≤ 2) → hp21 qa900 13 = .int zi25 → (4*zi5.toInt + zi25.toInt ≥ 4*zi5.toInt + zi2.toInt) → (zi25.toInt ≥ zi2.toInt) → (zi901.toInt ≤ zi902.toInt - 1 + zi25.toInt) → lv_has ls 3 [(0, .ref qa900)] → PW G cy K ln Ls A hp21 H → va_S A s.heap H locs → W p l e ({ frames := 2, cells := 0, slots := 0, locals := 41 } : Room) s m ([.ref qa900, .int zi901, .int zi902] : List Value).toArray below meth c H locs 0 0 Q (F0 m 10 ls []) := by
    intro hp21 zi25 H locs ls ok23 F22 bd29 eq24 rq26 rq27 rq28 hl hw hS
    refine lv_aload_n hx hb dX12_roomFor_10 rfl (lv_at hl 0 rfl) ?_
    refine p_get (ci := 12) (v := .int zi25) (C := RX12) (T := TX12) (N := 69) hx hb hT iw_X12 hown hK hw hW kd900 (by decide) rfl rfl 13 (by decide) eq24 (hT _ tb_1387) (fun _ h9 => h9) dX12_roomFor_11 ?_
    have eq32 : hp21 qa900 11 = .int zi5 := Eq.trans (Fr.at (cq := 13011) F22 kd900 (cd_o (by decide)) (by decide)) eq4
    refine lv_if_ne (tgt := 21) hx hb dX12_roomFor_14 (by decide) (fun cn31 => ?_) (fun cn31 => ?_)
    · skip
      have tf33 : (zi25 : Int32).toInt ≠ (0 : Int32).toInt := fun e => cn31 (Int32.toInt_inj.mp e)
      have := toi bc_0
      have bd34 : (1 : Int) ≤ zi25.toInt ∧ zi25.toInt ≤ 2 := r_ne_lo cn31 bd29 (toi bc_0) (by decide) (by decide)
      rw [hQ]
      exact kz_v hx hb hr hlocks hS hp21 hw ⟨ok23, (Fr.tr (Fr.rf) F22 (by decide)), (by simp only [gi_of eq1, gi_of eq24, gi_of eq32, gi_of eq4]; omega), (by simp only [gi_of eq1, gi_of eq24]; omega), (by simp only [gi_of eq24, gi_of eq32, gi_of eq4]; omega), (by simp only [gi_of eq24]; omega)⟩ (Nat.le_of_ble_eq_true rfl) (Nat.le_of_ble_eq_true rfl) dX12_roomFor_21
    · skip
      have bd35 : (0 : Int) ≤ zi25.toInt ∧ zi25.toInt ≤ 0 := r_eq_x cn31 bd29 bc_0 (by decide) (by decide)
      refine lv_aload_n hx hb dX12_roomFor_17 rfl (lv_at hl 0 rfl) ?_
      refine kq_v hw hS hA (va_runV (As := []) (rest := []) ⟨hx, hb, hml, hown, hT⟩ (cX12_goesOn_0 l G cy ev K ln Ls hW _ hp21 ok23 qa900 kd900) (cwV 0 hT (good_V tb_1639 tb_1636 tb_1638 tb_56 tb_122) rfl rfl rfl (by decide +kernel) ⟨Nat.le_of_ble_eq_true rfl, Nat.le_of_ble_eq_true rfl⟩) (pool_preV (ci := 12) hK hE hS hA hw hW kd900 (by decide) rfl) rfl rfl hl.1 rfl (lv_room (Nat.le_of_ble_eq_true rfl)) dX12_roomFor_18 ⟨Nat.le_of_ble_eq_true rfl, Nat.le_of_ble_eq_true rfl⟩) (fun hp36 H locs hq39 hw hS => ?_)
      obtain ⟨ok37, F38, ⟨zi41, eq42, bd43⟩, rh44, rh45, rh46⟩ := hq39
      have hw : PW G cy K ln Ls A hp36 H := hw
      obtain ⟨zi48, eq47, bd49⟩ := rd_13013 ok37 kd900
      simp only [gi_of eq24, gi_of eq32, gi_of eq42, gi_of eq47] at rh44
      simp only [gi_of eq24, gi_of eq47] at rh45
      simp only [gi_of eq32, gi_of eq42, gi_of eq47] at rh46
      rw [hQ]
      exact kz_v hx hb hr hlocks hS hp36 hw ⟨ok37, (Fr.tr (Fr.tr (Fr.rf) F22 (by decide)) F38 (by decide)), (by simp only [gi_of eq1, gi_of eq4, gi_of eq42, gi_of eq47]; omega), (by simp only [gi_of eq1, gi_of eq47]; omega), (by simp only [gi_of eq4, gi_of eq42, gi_of eq47]; omega), (by simp only [gi_of eq47]; omega)⟩ (Nat.le_of_ble_eq_true rfl) (Nat.le_of_ble_eq_true rfl) dX12_roomFor_21
  refine lv_icmp_ne (tgt := 10) hx hb dX12_roomFor_2 (by decide) (fun cn7 => ?_) (fun cn7 => ?_)
  · skip
    have tf50 : (zi901 : Int32).toInt ≠ (zi902 : Int32).toInt := fun e => cn7 (Int32.toInt_inj.mp e)
    have bd51 : (0 : Int) ≤ zi901.toInt ∧ zi901.toInt ≤ 5 := r_ne_hi cn7 bd901 (toi bd902) (by decide) (by decide)
    exact jn30 hp0 zi2 _ _ ls ok0 (Fr.rf) (b_wid2 bd3 (by decide) (by decide)) eq1 (by omega) (by omega) (by omega) (lv_sub hl [0] rfl) hw hS
  · skip
    have tf52 : zi901.toInt = zi902.toInt := congrArg Int32.toInt cn7
    have bd53 : (6 : Int) ≤ zi901.toInt ∧ zi901.toInt ≤ 6 := r_eq_x cn7 bd901 bd902 (by decide) (by decide)
    refine lv_aload_n hx hb dX12_roomFor_5 rfl (lv_at hl 0 rfl) ?_
    refine lv_iconst (v := 2) hx hb dX12_roomFor_6 (by decide) ?_
    refine kq_v hw hS hA (va_runV (As := [.int 2]) (rest := []) ⟨hx, hb, hml, hown, hT⟩ (cX12_fail_0 l G cy ev K ln Ls hW _ hp0 ok0 qa900 2 kd900 (b_wid2 bc_2 (by decide) (by decide))) (cwV 1 hT (good_V tb_1635 tb_1632 tb_1634 tb_55 tb_122) rfl rfl rfl (by decide +kernel) ⟨Nat.le_of_ble_eq_true rfl, Nat.le_of_ble_eq_true rfl⟩) (pool_preV (ci := 12) hK hE hS hA hw hW kd900 (by decide) rfl) rfl rfl hl.1 rfl (lv_room (Nat.le_of_ble_eq_true rfl)) dX12_roomFor_7 ⟨Nat.le_of_ble_eq_true rfl, Nat.le_of_ble_eq_true rfl⟩) (fun hp54 H locs hq57 hw hS => ?_)
    obtain ⟨ok55, F56, ⟨zi59, eq60, bd61⟩, rh62⟩ := hq57
    have hw : PW G cy K ln Ls A hp54 H := hw
    simp only [gi_of eq1, gi_of eq60] at rh62
    have eq63 : hp54 qa900 11 = .int zi5 := Eq.trans (Fr.at (cq := 13011) F56 kd900 (cd_o (by decide)) (by decide)) eq4
    exact jn30 hp54 zi59 _ _ ls ok55 (Fr.tr (Fr.rf) F56 (by decide)) (b_wid2 bd61 (by decide) (by decide)) eq60 (by omega) (by omega) (by omega) (lv_sub hl [0] rfl) hw hS

set_option maxRecDepth 100000 in
set_option maxHeartbeats 4000000 in
theorem cX12_named_0 (l : Launch) (G : va_G) (cy : Nat → ClassId) (ev : Ew) (K ln : Nat → Nat) (Ls : List Nat) (hW : SW K ln Ls) (sz : Nat) (hp0 : Nat → Nat → Value) (ok0 : Ok K hp0) (qa900 : Nat) (kd900 : K qa900 = 13) : Met l yX12_named (WS yX12_named cX12_named 3 (some .int)) { frames := 3, cells := 0, slots := 0, locals := 62 } (PB2 [.ref qa900] sz G cy ev (va_pl Ls (cellOf cy K ln hp0))) (QBi (S := (Nat → Nat → Value)) (fun (r : Int32) (u : (Nat → Nat → Value)) => Ok K u ∧ Fr [13011, 13013, 13014, 13015, 13016] K hp0 u ∧ ((0 : Int) ≤ r.toInt ∧ r.toInt ≤ 400) ∧ (4*(gi u qa900 11) + (gi u qa900 13) ≥ 4*(gi hp0 qa900 11) + (gi hp0 qa900 13)) ∧ ((gi u qa900 13) ≥ (gi hp0 qa900 13)) ∧ (4*(gi u qa900 11) + (gi u qa900 13) ≥ 4*(gi hp0 qa900 11) + 1)) G (fun u => va_pl Ls (cellOf cy K ln u)) (va_A (va_pl Ls (cellOf cy K ln hp0)) sz)) 0 0 (va_A (va_pl Ls (cellOf cy K ln hp0)) sz) := by
  refine met_of2 (y := yX12_named) (L := 3) (av := [.ref qa900]) (Qc := fun A => QBi (S := (Nat → Nat → Value)) (fun (r : Int32) (u : (Nat → Nat → Value)) => Ok K u ∧ Fr [13011, 13013, 13014, 13015, 13016] K hp0 u ∧ ((0 : Int) ≤ r.toInt ∧ r.toInt ≤ 400) ∧ (4*(gi u qa900 11) + (gi u qa900 13) ≥ 4*(gi hp0 qa900 11) + (gi hp0 qa900 13)) ∧ ((gi u qa900 13) ≥ (gi hp0 qa900 13)) ∧ (4*(gi u qa900 11) + (gi u qa900 13) ≥ 4*(gi hp0 qa900 11) + 1)) G (fun u => va_pl Ls (cellOf cy K ln u)) A) (plainFor_of_name (by decide)) (Nat.le_of_ble_eq_true rfl) ?_
  intro p e s m below meth c hsz hx hb hr hml hown hT hlocks hin hK A hA hE hw hS ls hl
  have hw : PW G cy K ln Ls A hp0 s.heap := hw
  have hown : s.vm.findClass "LieClockModel" = some m.cls := hown
  have hl : lv_has ls 3 [(0, .ref qa900)] := hl
  obtain ⟨Q, hQ⟩ : ∃ Q : State → Prop, Q = MQ below (QBi (S := (Nat → Nat → Value)) (fun (r : Int32) (u : (Nat → Nat → Value)) => Ok K u ∧ Fr [13011, 13013, 13014, 13015, 13016] K hp0 u ∧ ((0 : Int) ≤ r.toInt ∧ r.toInt ≤ 400) ∧ (4*(gi u qa900 11) + (gi u qa900 13) ≥ 4*(gi hp0 qa900 11) + (gi hp0 qa900 13)) ∧ ((gi u qa900 13) ≥ (gi hp0 qa900 13)) ∧ (4*(gi u qa900 11) + (gi u qa900 13) ≥ 4*(gi hp0 qa900 11) + 1)) G (fun u => va_pl Ls (cellOf cy K ln u)) A) ([.ref qa900] : List Value).toArray s 0 0 A := ⟨_, rfl⟩
  rw [← hQ]
  obtain ⟨zi2, eq1, bd3⟩ := rd_13013 ok0 kd900
  obtain ⟨zi5, eq4, bd6⟩ := rd_13011 ok0 kd900
  refine lv_aload_n hx hb dX12_named_0 rfl (lv_at hl 0 rfl) ?_
  refine p_get (ci := 12) (v := .int zi5) (C := RX12) (T := TX12) (N := 69) hx hb hT iw_X12 hown hK hw hW kd900 (by decide) rfl rfl 11 (by decide) eq4 (hT _ tb_1385) (fun _ h9 => h9) dX12_named_1 ?_
  refine lv_istore_n (lv' := [(1, .int zi5), (0, .ref qa900)]) hx hb dX12_named_4 rfl hl (by decide) rfl (fun ls hl => ?_)
  refine lv_aload_n hx hb dX12_named_5 rfl (lv_at hl 1 rfl) ?_
  refine lv_iconst (v := 1) hx hb dX12_named_6 (by decide) ?_
  refine kq_v hw hS hA (va_runV (As := [.int 1]) (rest := []) ⟨hx, hb, hml, hown, hT⟩ (cX12_must_0 l G cy ev K ln Ls hW _ hp0 ok0 qa900 1 kd900) (cwV 1 hT (good_V tb_1651 tb_1648 tb_1650 tb_59 tb_122) rfl rfl rfl (by decide +kernel) ⟨Nat.le_of_ble_eq_true rfl, Nat.le_of_ble_eq_true rfl⟩) (pool_preV (ci := 12) hK hE hS hA hw hW kd900 (by decide) rfl) rfl rfl hl.1 rfl (lv_room (Nat.le_of_ble_eq_true rfl)) dX12_named_7 ⟨Nat.le_of_ble_eq_true rfl, Nat.le_of_ble_eq_true rfl⟩) (fun hp7 H locs hq10 hw hS => ?_)
  obtain ⟨ok8, F9, rh12, rh13, rh14⟩ := hq10
  have hw : PW G cy K ln Ls A hp7 H := hw
  obtain ⟨zi16, eq15, bd17⟩ := rd_13013 ok8 kd900
  obtain ⟨zi19, eq18, bd20⟩ := rd_13011 ok8 kd900
  simp only [gi_of eq1, gi_of eq15, gi_of eq18, gi_of eq4] at rh12
  simp only [gi_of eq1, gi_of eq15] at rh13
  simp only [gi_of eq15, gi_of eq18, gi_of eq4] at rh14
  refine lv_iconst (v := 0) hx hb dX12_named_10 (by decide) ?_
  refine lv_istore_n (lv' := [(2, .int 0), (1, .int zi5), (0, .ref qa900)]) hx hb dX12_named_11 rfl hl (by decide) rfl (fun ls hl => ?_)
  have jn475 : ∀ (hp470 : Nat → Nat → Value)  (H : Heap) (locs : List Loc) (ls : Array Slot), Ok K hp470 → Fr [13015, 13016] K hp7 hp470 → (4*zi19.toInt + zi16.toInt ≥ 4*zi19.toInt + zi16.toInt) → (zi16.toInt ≥ zi16.toInt) → lv_has ls 3 [(1, .int zi5)] → PW G cy K ln Ls A hp470 H → va_S A s.heap H locs → W p l e ({ frames := 3, cells := 0, slots := 0, locals := 62 } : Room) s m ([.ref qa900] : List Value).toArray below meth c H locs 0 0 Q (F0 m 55 ls []) := by
    intro hp470 H locs ls ok472 F471 rq473 rq474 hl hw hS
    refine lv_iload_n hx hb dX12_named_55 rfl (lv_at hl 0 rfl) ?_
    have eq476 : hp470 qa900 13 = .int zi16 := Eq.trans (Fr.at (cq := 13013) F471 kd900 (cd_o (by decide)) (by decide)) eq15
    have eq477 : hp470 qa900 11 = .int zi19 := Eq.trans (Fr.at (cq := 13011) F471 kd900 (cd_o (by decide)) (by decide)) eq18
    rw [hQ]
    exact kz_i hx hb hr hlocks hS rfl hp470 hw ⟨ok472, (Fr.tr (Fr.tr (Fr.rf) F9 (by decide)) F471 (by decide)), (b_wid2 bd6 (by decide) (by decide)), (by simp only [gi_of eq1, gi_of eq4, gi_of eq476, gi_of eq477]; omega), (by simp only [gi_of eq1, gi_of eq476]; omega), (by simp only [gi_of eq4, gi_of eq476, gi_of eq477]; omega)⟩ (Nat.le_of_ble_eq_true rfl) (Nat.le_of_ble_eq_true rfl) dX12_named_56
  have lp480 : ∀ (n478 : Nat) (hp360 : Nat → Nat → Value) (zi359 : Int32) (H : Heap) (locs : List Loc) (ls : Array Slot), 24 - zi359.toInt < (n478 : Int) → Ok K hp360 → Fr [13015, 13016] K hp7 hp360 → ((0 : Int) ≤ zi359.toInt ∧ zi359.toInt ≤ 24) → (4*zi19.toInt + zi16.toInt ≥ 4*zi19.toInt + zi16.toInt) → (zi16.toInt ≥ zi16.toInt) → lv_has ls 3 [(0, .ref qa900), (1, .int zi5), (2, .int zi359)] → PW G cy K ln Ls A hp360 H → va_S A s.heap H locs → W p l e ({ frames := 3, cells := 0, slots := 0, locals := 62 } : Room) s m ([.ref qa900] : List Value).toArray below meth c H locs 0 0 Q (F0 m 12 ls []) := by
    intro n478
    induction n478 with
    | zero =>
      intro hp360 zi359 H locs ls hm481 ok362 F361 bd365 rq363 rq364 hl hw hS
      exact absurd hm481 (by have := bd365; omega)
    | succ n478 ih479 =>
      intro hp360 zi359 H locs ls hm481 ok362 F361 bd365 rq363 rq364 hl hw hS
      refine lv_iload_n hx hb dX12_named_12 rfl (lv_at hl 2 rfl) ?_
      refine lv_aload_n hx hb dX12_named_13 rfl (lv_at hl 0 rfl) ?_
      obtain ⟨zi483, eq482, bd484⟩ := rd_13020 ok362 kd900
      refine p_get (ci := 12) (v := .int zi483) (C := RX12) (T := TX12) (N := 69) hx hb hT iw_X12 hown hK hw hW kd900 (by decide) rfl rfl 20 (by decide) eq482 (hT _ tb_1394) (fun _ h9 => h9) dX12_named_14 ?_
      have eq486 : hp360 qa900 11 = .int zi19 := Eq.trans (Fr.at (cq := 13011) F361 kd900 (cd_o (by decide)) (by decide)) eq18
      have eq487 : hp360 qa900 13 = .int zi16 := Eq.trans (Fr.at (cq := 13013) F361 kd900 (cd_o (by decide)) (by decide)) eq15
      refine lv_icmp_ge (tgt := 55) hx hb dX12_named_17 (by decide) (fun cn485 => ?_) (fun cn485 => ?_)
      · skip
        have tf488 : zi483.toInt ≤ zi359.toInt := (fa_le _ _).mp cn485
        exact jn475 hp360 _ _ ls ok362 (Fr.tr (Fr.rf) F361 (by decide)) (by omega) (by omega) (lv_sub hl [1] rfl) hw hS
      · skip
        have tf489 : zi359.toInt < zi483.toInt := (fa_lt _ _).mp (Int32.not_le.mp cn485)
        have bd490 : (0 : Int) ≤ zi359.toInt ∧ zi359.toInt ≤ 23 := r_lt_x (Int32.not_le.mp cn485) bd365 bd484 (by decide) (by decide)
        have bd491 : (1 : Int) ≤ zi483.toInt ∧ zi483.toInt ≤ 24 := r_lt_y (Int32.not_le.mp cn485) bd365 bd484 (by decide) (by decide)
        refine lv_aload_n hx hb dX12_named_20 rfl (lv_at hl 0 rfl) ?_
        refine p_get (ci := 12) (v := .int zi16) (C := RX12) (T := TX12) (N := 69) hx hb hT iw_X12 hown hK hw hW kd900 (by decide) rfl rfl 13 (by decide) eq487 (hT _ tb_1387) (fun _ h9 => h9) dX12_named_21 ?_
        refine lv_if_ne (tgt := 55) hx hb dX12_named_24 (by decide) (fun cn492 => ?_) (fun cn492 => ?_)
        · skip
          have tf493 : (zi16 : Int32).toInt ≠ (0 : Int32).toInt := fun e => cn492 (Int32.toInt_inj.mp e)
          have := toi bc_0
          have bd494 : (1 : Int) ≤ zi16.toInt ∧ zi16.toInt ≤ 2 := r_ne_lo cn492 bd17 (toi bc_0) (by decide) (by decide)
          exact jn475 hp360 _ _ ls ok362 (Fr.tr (Fr.rf) F361 (by decide)) (by omega) (by omega) (lv_sub hl [1] rfl) hw hS
        · skip
          have bd495 : (0 : Int) ≤ zi16.toInt ∧ zi16.toInt ≤ 0 := r_eq_x cn492 bd17 bc_0 (by decide) (by decide)
          refine lv_aload_n hx hb dX12_named_27 rfl (lv_at hl 0 rfl) ?_
          obtain ⟨qa497, eq496, kd498⟩ := rd_13021 ok362 kd900
          refine p_get (ci := 12) (v := .ref qa497) (C := RX12) (T := TX12) (N := 69) hx hb hT iw_X12 hown hK hw hW kd900 (by decide) rfl rfl 21 (by decide) eq496 (hT _ tb_1395) (fun _ h9 => h9) dX12_named_28 ?_
          refine lv_iload_n hx hb dX12_named_31 rfl (lv_at hl 2 rfl) ?_
          obtain ⟨wl500, eq499⟩ := rd_67000 ok362 kd498 ((zi359 : Int32).toNatClampNeg)
          refine p_lald (v := wl500) hx hb hK hw hW kd498 (by decide) rfl (hW.len kd498 (n := 24) rfl (by decide)) (vp_b bd490 (by decide) (by decide)) eq499 dX12_named_32 ?_
          refine lv_aload_n hx hb dX12_named_33 rfl (lv_at hl 0 rfl) ?_
          obtain ⟨qa502, eq501, kd503⟩ := rd_13008 ok362 kd900
          refine p_get (ci := 12) (v := .ref qa502) (C := RX12) (T := TX12) (N := 69) hx hb hT iw_X12 hown hK hw hW kd900 (by decide) rfl rfl 8 (by decide) eq501 (hT _ tb_1382) (fun _ h9 => h9) dX12_named_34 ?_
          refine lv_iload_n hx hb dX12_named_37 rfl (lv_at hl 1 rfl) ?_
          obtain ⟨wl505, eq504⟩ := rd_65000 ok362 kd503 ((zi5 : Int32).toNatClampNeg)
          refine p_lald (v := wl505) hx hb hK hw hW kd503 (by decide) rfl (hW.len kd503 (n := 403) rfl (by decide)) (vp_b bd6 (by decide) (by decide)) eq504 dX12_named_38 ?_
          refine W.lcmp hx hb dX12_named_39 (lv_topi (fun zi506 ea507 => ?_))
          have jn521 : ∀ (hp516 : Nat → Nat → Value)  (H : Heap) (locs : List Loc) (ls : Array Slot), Ok K hp516 → Fr [13015, 13016] K hp360 hp516 → (4*zi19.toInt + zi16.toInt ≥ 4*zi19.toInt + zi16.toInt) → (zi16.toInt ≥ zi16.toInt) → lv_has ls 3 [(0, .ref qa900), (1, .int zi5), (2, .int zi359)] → PW G cy K ln Ls A hp516 H → va_S A s.heap H locs → W p l e ({ frames := 3, cells := 0, slots := 0, locals := 62 } : Room) s m ([.ref qa900] : List Value).toArray below meth c H locs 0 0 Q (F0 m 49 ls []) := by
            intro hp516 H locs ls ok518 F517 rq519 rq520 hl hw hS
            obtain ⟨zi522, ea523⟩ : ∃ z : Int32, z = zi359 + 1 := ⟨_, rfl⟩
            have bd524 : (1 : Int) ≤ zi522.toInt ∧ zi522.toInt ≤ 24 := b_iadd ea523 bd490 bc_1 (by decide) (by decide) (by decide) (by decide)
            have qe525 : zi522.toInt = (zi359 : Int32).toInt + (1 : Int32).toInt := e_iadd ea523 bd490 bc_1 (by decide) (by decide)
            have qe526 : zi522.toInt = zi359.toInt + 1 := by have ha : (1 : Int32).toInt = 1 := (by decide); rw [ha] at qe525; exact qe525
            refine lv_iinc (v := zi522) (lv' := [(2, .int zi522), (0, .ref qa900), (1, .int zi5)]) hx hb dX12_named_49 hl (k := 2) rfl ea523.symm (by decide) rfl (fun ls hl => ?_)
            refine lv_goto (tgt := 12) hx hb dX12_named_52 (by decide) ?_
            have eq527 : hp516 qa900 11 = .int zi19 := Eq.trans (Fr.at (cq := 13011) F517 kd900 (cd_o (by decide)) (by decide)) eq486
            have eq528 : hp516 qa900 13 = .int zi16 := Eq.trans (Fr.at (cq := 13013) F517 kd900 (cd_o (by decide)) (by decide)) eq487
            exact ih479 hp516 zi522 _ _ ls (by have := hm481; have := qe526; omega) ok518 (Fr.tr (Fr.tr (Fr.rf) F361 (by decide)) F517 (by decide)) (b_wid2 bd524 (by decide) (by decide)) (by omega) (by omega) (lv_sub hl [1, 2, 0] rfl) hw hS
          refine lv_if_ne (tgt := 49) hx hb dX12_named_40 (by decide) (fun cn508 => ?_) (fun cn508 => ?_)
          · skip
            have tf529 : (zi506 : Int32).toInt ≠ (0 : Int32).toInt := fun e => cn508 (Int32.toInt_inj.mp e)
            have := toi bc_0
            exact jn521 hp360 _ _ ls ok362 (Fr.rf) (by omega) (by omega) (lv_sub hl [0, 1, 2] rfl) hw hS
          · skip
            have bd530 : (0 : Int) ≤ zi506.toInt ∧ zi506.toInt ≤ 0 := r_eq_x cn508 (b_all zi506) bc_0 (by decide) (by decide)
            refine lv_aload_n hx hb dX12_named_43 rfl (lv_at hl 0 rfl) ?_
            refine lv_iconst (v := 3) hx hb dX12_named_44 (by decide) ?_
            refine lv_iload_n hx hb dX12_named_45 rfl (lv_at hl 1 rfl) ?_
            refine kq_v hw hS hA (va_runV (As := [.int 3, .int zi5]) (rest := []) ⟨hx, hb, hml, hown, hT⟩ (cX12_wrong_0 l G cy ev K ln Ls hW _ hp360 ok362 qa900 3 zi5 kd900 (b_wid2 bd6 (by decide) (by decide))) (cwV 2 hT (good_V tb_1655 tb_1652 tb_1654 tb_60 tb_122) rfl rfl rfl (by decide +kernel) ⟨Nat.le_of_ble_eq_true rfl, Nat.le_of_ble_eq_true rfl⟩) (pool_preV (ci := 12) hK hE hS hA hw hW kd900 (by decide) rfl) rfl rfl hl.1 rfl (lv_room (Nat.le_of_ble_eq_true rfl)) dX12_named_46 ⟨Nat.le_of_ble_eq_true rfl, Nat.le_of_ble_eq_true rfl⟩) (fun hp531 H locs hq534 hw hS => ?_)
            obtain ⟨ok532, F533⟩ := hq534
            have hw : PW G cy K ln Ls A hp531 H := hw
            have eq536 : hp531 qa900 11 = .int zi19 := Eq.trans (Fr.at (cq := 13011) F533 kd900 (cd_o (by decide)) (by decide)) eq486
            have eq537 : hp531 qa900 13 = .int zi16 := Eq.trans (Fr.at (cq := 13013) F533 kd900 (cd_o (by decide)) (by decide)) eq487
            exact jn521 hp531 _ _ ls ok532 (Fr.tr (Fr.rf) F533 (by decide)) (by omega) (by omega) (lv_sub hl [0, 1, 2] rfl) hw hS
  exact lp480 _ hp7 0 _ _ ls (lp_in _) ok8 (Fr.rf) (b_wid2 bc_0 (by decide) (by decide)) (by have := toi bc_0; omega) (by have := toi bc_0; omega) (lv_sub hl [2, 1, 0] rfl) hw hS

set_option maxRecDepth 100000 in
set_option maxHeartbeats 4000000 in
theorem cX12_notes_0 (l : Launch) (G : va_G) (cy : Nat → ClassId) (ev : Ew) (K ln : Nat → Nat) (Ls : List Nat) (hW : SW K ln Ls) (sz : Nat) (hp0 : Nat → Nat → Value) (ok0 : Ok K hp0) (qa900 : Nat) (zi901 : Int32) (zi902 : Int32) (zi903 : Int32) (zi970 : Int32) (kd900 : K qa900 = 13) (bd901 : ((0 : Int) ≤ zi901.toInt ∧ zi901.toInt ≤ 400)) (bd903 : ((0 : Int) ≤ zi903.toInt ∧ zi903.toInt ≤ 7)) (eq970 : hp0 qa900 20 = .int zi970) (bd970 : ((0 : Int) ≤ zi970.toInt ∧ zi970.toInt ≤ 19)) : Met l yX12_notes (WS yX12_notes cX12_notes 4 none) { frames := 0, cells := 0, slots := 0, locals := 0 } (PB2 [.ref qa900, .int zi901, .int zi902, .int zi903] sz G cy ev (va_pl Ls (cellOf cy K ln hp0))) (QBv (S := (Nat → Nat → Value)) (fun u : (Nat → Nat → Value) => Ok K u ∧ Fr [13020, 67000, 68000, 69000] K hp0 u ∧ (∃ z : Int32, u qa900 20 = .int z ∧ ((1 : Int) ≤ z.toInt ∧ z.toInt ≤ 20)) ∧ ((gi u qa900 20) = (gi hp0 qa900 20) + 1)) G (fun u => va_pl Ls (cellOf cy K ln u)) (va_A (va_pl Ls (cellOf cy K ln hp0)) sz)) 0 0 (va_A (va_pl Ls (cellOf cy K ln hp0)) sz) := by
  refine met_of2 (y := yX12_notes) (L := 4) (av := [.ref qa900, .int zi901, .int zi902, .int zi903]) (Qc := fun A => QBv (S := (Nat → Nat → Value)) (fun u : (Nat → Nat → Value) => Ok K u ∧ Fr [13020, 67000, 68000, 69000] K hp0 u ∧ (∃ z : Int32, u qa900 20 = .int z ∧ ((1 : Int) ≤ z.toInt ∧ z.toInt ≤ 20)) ∧ ((gi u qa900 20) = (gi hp0 qa900 20) + 1)) G (fun u => va_pl Ls (cellOf cy K ln u)) A) (plainFor_of_name (by decide)) (Nat.le_of_ble_eq_true rfl) ?_
  intro p e s m below meth c hsz hx hb hr hml hown hT hlocks hin hK A hA hE hw hS ls hl
  have hw : PW G cy K ln Ls A hp0 s.heap := hw
  have hown : s.vm.findClass "LieClockModel" = some m.cls := hown
  have hl : lv_has ls 4 [(0, .ref qa900), (1, .int zi901), (2, .int zi902), (3, .int zi903)] := hl
  obtain ⟨Q, hQ⟩ : ∃ Q : State → Prop, Q = MQ below (QBv (S := (Nat → Nat → Value)) (fun u : (Nat → Nat → Value) => Ok K u ∧ Fr [13020, 67000, 68000, 69000] K hp0 u ∧ (∃ z : Int32, u qa900 20 = .int z ∧ ((1 : Int) ≤ z.toInt ∧ z.toInt ≤ 20)) ∧ ((gi u qa900 20) = (gi hp0 qa900 20) + 1)) G (fun u => va_pl Ls (cellOf cy K ln u)) A) ([.ref qa900, .int zi901, .int zi902, .int zi903] : List Value).toArray s 0 0 A := ⟨_, rfl⟩
  rw [← hQ]
  refine lv_aload_n hx hb dX12_notes_0 rfl (lv_at hl 0 rfl) ?_
  obtain ⟨qa2, eq1, kd3⟩ := rd_13021 ok0 kd900
  refine p_get (ci := 12) (v := .ref qa2) (C := RX12) (T := TX12) (N := 69) hx hb hT iw_X12 hown hK hw hW kd900 (by decide) rfl rfl 21 (by decide) eq1 (hT _ tb_1395) (fun _ h9 => h9) dX12_notes_1 ?_
  refine lv_aload_n hx hb dX12_notes_4 rfl (lv_at hl 0 rfl) ?_
  refine p_get (ci := 12) (v := .int zi970) (C := RX12) (T := TX12) (N := 69) hx hb hT iw_X12 hown hK hw hW kd900 (by decide) rfl rfl 20 (by decide) eq970 (hT _ tb_1394) (fun _ h9 => h9) dX12_notes_5 ?_
  refine lv_aload_n hx hb dX12_notes_8 rfl (lv_at hl 0 rfl) ?_
  obtain ⟨qa5, eq4, kd6⟩ := rd_13008 ok0 kd900
  refine p_get (ci := 12) (v := .ref qa5) (C := RX12) (T := TX12) (N := 69) hx hb hT iw_X12 hown hK hw hW kd900 (by decide) rfl rfl 8 (by decide) eq4 (hT _ tb_1382) (fun _ h9 => h9) dX12_notes_9 ?_
  refine lv_iload_n hx hb dX12_notes_12 rfl (lv_at hl 1 rfl) ?_
  obtain ⟨wl8, eq7⟩ := rd_65000 ok0 kd6 ((zi901 : Int32).toNatClampNeg)
  refine p_lald (v := wl8) hx hb hK hw hW kd6 (by decide) rfl (hW.len kd6 (n := 403) rfl (by decide)) (vp_b bd901 (by decide) (by decide)) eq7 dX12_notes_13 ?_
  refine p_last (x := wl8) hx hb hK hw hS hW kd3 (by decide) rfl (hW.len kd3 (n := 24) rfl (by decide)) (vp_b bd970 (by decide) (by decide)) dX12_notes_14 (fun hp9 eh10 H locs hw hS => ?_)
  have ok11 := wr_67000 ok0 kd3 eh10
  refine lv_aload_n hx hb dX12_notes_15 rfl (lv_at hl 0 rfl) ?_
  obtain ⟨qa13, eq12, kd14⟩ := rd_13022 ok11 kd900
  refine p_get (ci := 12) (v := .ref qa13) (C := RX12) (T := TX12) (N := 69) hx hb hT iw_X12 hown hK hw hW kd900 (by decide) rfl rfl 22 (by decide) eq12 (hT _ tb_1396) (fun _ h9 => h9) dX12_notes_16 ?_
  refine lv_aload_n hx hb dX12_notes_19 rfl (lv_at hl 0 rfl) ?_
  have eq15 : hp9 qa900 20 = .int zi970 := Eq.trans (up_at eh10 (Or.inl (kd_ne kd900 kd3 (by decide)))) eq970
  refine p_get (ci := 12) (v := .int zi970) (C := RX12) (T := TX12) (N := 69) hx hb hT iw_X12 hown hK hw hW kd900 (by decide) rfl rfl 20 (by decide) eq15 (hT _ tb_1394) (fun _ h9 => h9) dX12_notes_20 ?_
  refine lv_iload_n hx hb dX12_notes_23 rfl (lv_at hl 2 rfl) ?_
  refine p_iast (x := zi902) hx hb hK hw hS hW kd14 (by decide) rfl (hW.len kd14 (n := 24) rfl (by decide)) (vp_b bd970 (by decide) (by decide)) dX12_notes_24 (fun hp16 eh17 H locs hw hS => ?_)
  have ok18 := wr_68000 ok11 kd14 eh17
  refine lv_aload_n hx hb dX12_notes_25 rfl (lv_at hl 0 rfl) ?_
  obtain ⟨qa20, eq19, kd21⟩ := rd_13023 ok18 kd900
  refine p_get (ci := 12) (v := .ref qa20) (C := RX12) (T := TX12) (N := 69) hx hb hT iw_X12 hown hK hw hW kd900 (by decide) rfl rfl 23 (by decide) eq19 (hT _ tb_1397) (fun _ h9 => h9) dX12_notes_26 ?_
  refine lv_aload_n hx hb dX12_notes_29 rfl (lv_at hl 0 rfl) ?_
  have eq22 : hp16 qa900 20 = .int zi970 := Eq.trans (up_at eh17 (Or.inl (kd_ne kd900 kd14 (by decide)))) eq15
  refine p_get (ci := 12) (v := .int zi970) (C := RX12) (T := TX12) (N := 69) hx hb hT iw_X12 hown hK hw hW kd900 (by decide) rfl rfl 20 (by decide) eq22 (hT _ tb_1394) (fun _ h9 => h9) dX12_notes_30 ?_
  refine lv_iload_n hx hb dX12_notes_33 rfl (lv_at hl 3 rfl) ?_
  refine p_iast (x := zi903) hx hb hK hw hS hW kd21 (by decide) rfl (hW.len kd21 (n := 24) rfl (by decide)) (vp_b bd970 (by decide) (by decide)) dX12_notes_34 (fun hp23 eh24 H locs hw hS => ?_)
  have ok25 := wr_69000 bd903 (by decide) (by decide) ok18 kd21 eh24
  refine lv_aload_n hx hb dX12_notes_35 rfl (lv_at hl 0 rfl) ?_
  refine lv_dup hx hb dX12_notes_36 rfl ?_
  have eq26 : hp23 qa900 20 = .int zi970 := Eq.trans (up_at eh24 (Or.inl (kd_ne kd900 kd21 (by decide)))) eq22
  refine p_get (ci := 12) (v := .int zi970) (C := RX12) (T := TX12) (N := 69) hx hb hT iw_X12 hown hK hw hW kd900 (by decide) rfl rfl 20 (by decide) eq26 (hT _ tb_1394) (fun _ h9 => h9) dX12_notes_37 ?_
  refine lv_iconst (v := 1) hx hb dX12_notes_40 (by decide) ?_
  refine lv_iadd hx hb dX12_notes_41 (lv_topi (fun zi27 ea28 => ?_))
  have bd29 : (1 : Int) ≤ zi27.toInt ∧ zi27.toInt ≤ 20 := b_iadd ea28 bd970 bc_1 (by decide) (by decide) (by decide) (by decide)
  have qe30 : zi27.toInt = (zi970 : Int32).toInt + (1 : Int32).toInt := e_iadd ea28 bd970 bc_1 (by decide) (by decide)
  have qe31 : zi27.toInt = zi970.toInt + 1 := by have ha : (1 : Int32).toInt = 1 := (by decide); rw [ha] at qe30; exact qe30
  refine p_put (ci := 12) (v := .int zi27) (ty := .int) (C := RX12) (T := TX12) (N := 69) hx hb hT iw_X12 tyX12 tyX12_ok nmX12 hown hK hw hS hW kd900 (by decide) rfl rfl 20 (by decide) (hT _ tb_1394) (fun _ h9 => h9) rfl (by decide +kernel) rfl rfl dX12_notes_42 (fun hp32 eh33 H locs hw hS => ?_)
  have ok34 := wr_13020 bd29 (by decide) (by decide) ok25 kd900 eh33
  rw [hQ]
  exact kz_v hx hb hr hlocks hS hp32 hw ⟨ok34, (Fr.put (cq := 13020) (Fr.put (cq := 69000) (Fr.put (cq := 68000) (Fr.put (cq := 67000) (Fr.rf) eh10 kd3 (cd_a (by decide)) (by decide)) eh17 kd14 (cd_a (by decide)) (by decide)) eh24 kd21 (cd_a (by decide)) (by decide)) eh33 kd900 (cd_o (by decide)) (by decide)), ⟨_, (hp_self eh33), b_wid2 bd29 (by decide) (by decide)⟩, (by simp only [gi_of (hp_self eh33), gi_of eq970]; omega)⟩ (Nat.le_of_ble_eq_true rfl) (Nat.le_of_ble_eq_true rfl) dX12_notes_45

set_option maxRecDepth 100000 in
set_option maxHeartbeats 4000000 in
theorem cX12_tellFact_0 (l : Launch) (G : va_G) (cy : Nat → ClassId) (ev : Ew) (K ln : Nat → Nat) (Ls : List Nat) (hW : SW K ln Ls) (sz : Nat) (hp0 : Nat → Nat → Value) (ok0 : Ok K hp0) (qa900 : Nat) (kd900 : K qa900 = 13) (rp0 : (gi hp0 qa900 20) ≤ (ge hp0 qa900 24 19) + (ge hp0 qa900 27 19) + (ge hp0 qa900 32 19)) (rp1 : (ge hp0 qa900 24 19) ≤ 5) : Met l yX12_tellFact (WS yX12_tellFact cX12_tellFact 5 none) { frames := 4, cells := 0, slots := 0, locals := 84 } (PB2 [.ref qa900] sz G cy ev (va_pl Ls (cellOf cy K ln hp0))) (QBv (S := (Nat → Nat → Value)) (fun u : (Nat → Nat → Value) => Ok K u ∧ Fr [13011, 13013, 13014, 13015, 13016, 13020, 67000, 68000, 69000, 70000, 71000, 72000] K hp0 u ∧ (4*(gi u qa900 11) + (gi u qa900 13) ≥ 4*(gi hp0 qa900 11) + (gi hp0 qa900 13)) ∧ ((gi u qa900 13) ≥ (gi hp0 qa900 13)) ∧ ((gi u qa900 20) ≤ (ge u qa900 24 19) + (ge u qa900 27 19) + (ge u qa900 32 19))) G (fun u => va_pl Ls (cellOf cy K ln u)) (va_A (va_pl Ls (cellOf cy K ln hp0)) sz)) 0 0 (va_A (va_pl Ls (cellOf cy K ln hp0)) sz) := by
  refine met_of2 (y := yX12_tellFact) (L := 5) (av := [.ref qa900]) (Qc := fun A => QBv (S := (Nat → Nat → Value)) (fun u : (Nat → Nat → Value) => Ok K u ∧ Fr [13011, 13013, 13014, 13015, 13016, 13020, 67000, 68000, 69000, 70000, 71000, 72000] K hp0 u ∧ (4*(gi u qa900 11) + (gi u qa900 13) ≥ 4*(gi hp0 qa900 11) + (gi hp0 qa900 13)) ∧ ((gi u qa900 13) ≥ (gi hp0 qa900 13)) ∧ ((gi u qa900 20) ≤ (ge u qa900 24 19) + (ge u qa900 27 19) + (ge u qa900 32 19))) G (fun u => va_pl Ls (cellOf cy K ln u)) A) (plainFor_of_name (by decide)) (Nat.le_of_ble_eq_true rfl) ?_
  intro p e s m below meth c hsz hx hb hr hml hown hT hlocks hin hK A hA hE hw hS ls hl
  have hw : PW G cy K ln Ls A hp0 s.heap := hw
  have hown : s.vm.findClass "LieClockModel" = some m.cls := hown
  have hl : lv_has ls 5 [(0, .ref qa900)] := hl
  obtain ⟨Q, hQ⟩ : ∃ Q : State → Prop, Q = MQ below (QBv (S := (Nat → Nat → Value)) (fun u : (Nat → Nat → Value) => Ok K u ∧ Fr [13011, 13013, 13014, 13015, 13016, 13020, 67000, 68000, 69000, 70000, 71000, 72000] K hp0 u ∧ (4*(gi u qa900 11) + (gi u qa900 13) ≥ 4*(gi hp0 qa900 11) + (gi hp0 qa900 13)) ∧ ((gi u qa900 13) ≥ (gi hp0 qa900 13)) ∧ ((gi u qa900 20) ≤ (ge u qa900 24 19) + (ge u qa900 27 19) + (ge u qa900 32 19))) G (fun u => va_pl Ls (cellOf cy K ln u)) A) ([.ref qa900] : List Value).toArray s 0 0 A := ⟨_, rfl⟩
  rw [← hQ]
  obtain ⟨qa2, eq1, kd3⟩ := rd_13032 ok0 kd900
  obtain ⟨zi5, eq4, bd6⟩ := rd_13019 ok0 kd900
  obtain ⟨zi8, eq7, bd9⟩ := rd_78000 ok0 kd3 ((zi5 : Int32).toNatClampNeg)
  obtain ⟨qa11, eq10, kd12⟩ := rd_13024 ok0 kd900
  obtain ⟨zi14, eq13, bd15⟩ := rd_70000 ok0 kd12 ((zi5 : Int32).toNatClampNeg)
  obtain ⟨zi17, eq16, bd18⟩ := rd_13013 ok0 kd900
  obtain ⟨zi20, eq19, bd21⟩ := rd_13020 ok0 kd900
  obtain ⟨zi23, eq22, bd24⟩ := rd_13011 ok0 kd900
  obtain ⟨qa26, eq25, kd27⟩ := rd_13027 ok0 kd900
  obtain ⟨zi29, eq28, bd30⟩ := rd_73000 ok0 kd27 ((zi5 : Int32).toNatClampNeg)
  have rq0 := rp0
  simp only [ge_of eq1 eq4 eq7, ge_of eq10 eq4 eq13, gi_of eq19, ge_of eq25 eq4 eq28] at rq0
  have rq1 := rp1
  simp only [ge_of eq10 eq4 eq13] at rq1
  have bd31 : (0 : Int) ≤ zi14.toInt ∧ zi14.toInt ≤ 5 := (by omega)
  refine lv_aload_n hx hb dX12_tellFact_0 rfl (lv_at hl 0 rfl) ?_
  refine p_get (ci := 12) (v := .ref qa11) (C := RX12) (T := TX12) (N := 69) hx hb hT iw_X12 hown hK hw hW kd900 (by decide) rfl rfl 24 (by decide) eq10 (hT _ tb_1398) (fun _ h9 => h9) dX12_tellFact_1 ?_
  refine lv_aload_n hx hb dX12_tellFact_4 rfl (lv_at hl 0 rfl) ?_
  refine p_get (ci := 12) (v := .int zi5) (C := RX12) (T := TX12) (N := 69) hx hb hT iw_X12 hown hK hw hW kd900 (by decide) rfl rfl 19 (by decide) eq4 (hT _ tb_1393) (fun _ h9 => h9) dX12_tellFact_5 ?_
  refine p_iald (v := zi14) hx hb hK hw hW kd12 (by decide) rfl (hW.len kd12 (n := 2) rfl (by decide)) (vp_b bd6 (by decide) (by decide)) eq13 dX12_tellFact_8 ?_
  refine lv_istore_n (lv' := [(1, .int zi14), (0, .ref qa900)]) hx hb dX12_tellFact_9 rfl hl (by decide) rfl (fun ls hl => ?_)
  refine lv_aload_n hx hb dX12_tellFact_10 rfl (lv_at hl 1 rfl) ?_
  refine kq_i hw hS hA (va_runV (As := []) (rest := []) ⟨hx, hb, hml, hown, hT⟩ (cX12_named_0 l G cy ev K ln Ls hW _ hp0 ok0 qa900 kd900) (cwV 0 hT (good_V tb_1647 tb_1644 tb_1646 tb_58 tb_122) rfl rfl rfl (by decide +kernel) ⟨Nat.le_of_ble_eq_true rfl, Nat.le_of_ble_eq_true rfl⟩) (pool_preV (ci := 12) hK hE hS hA hw hW kd900 (by decide) rfl) rfl rfl hl.1 rfl (lv_room (Nat.le_of_ble_eq_true rfl)) dX12_tellFact_11 ⟨Nat.le_of_ble_eq_true rfl, Nat.le_of_ble_eq_true rfl⟩) (fun zi36 hp32 H locs hq35 hw hS => ?_)
  obtain ⟨ok33, F34, bd37, rh38, rh39, rh40⟩ := hq35
  have hw : PW G cy K ln Ls A hp32 H := hw
  obtain ⟨zi42, eq41, bd43⟩ := rd_13013 ok33 kd900
  obtain ⟨zi45, eq44, bd46⟩ := rd_13011 ok33 kd900
  simp only [gi_of eq16, gi_of eq22, gi_of eq41, gi_of eq44] at rh38
  simp only [gi_of eq16, gi_of eq41] at rh39
  simp only [gi_of eq22, gi_of eq41, gi_of eq44] at rh40
  refine lv_istore_n (lv' := [(2, .int zi36), (1, .int zi14), (0, .ref qa900)]) hx hb dX12_tellFact_14 rfl hl (by decide) rfl (fun ls hl => ?_)
  refine lv_aload_n hx hb dX12_tellFact_15 rfl (lv_at hl 2 rfl) ?_
  refine lv_bipush (v := 21) hx hb dX12_tellFact_16 (by decide) ?_
  obtain ⟨qa48, eq47, kd49⟩ := rd_13005 ok33 kd900
  obtain ⟨zi51, eq50⟩ := rd_62000 ok33 kd49 ((zi45 : Int32).toNatClampNeg)
  refine kq_i hw hS hA (va_runV (As := [.int 21]) (rest := []) ⟨hx, hb, hml, hown, hT⟩ (cX12_is_0 l G cy ev K ln Ls hW _ hp32 ok33 qa900 21 kd900) (cwV 1 hT (good_V tb_1623 tb_1620 tb_1622 tb_52 tb_122) rfl rfl rfl (by decide +kernel) ⟨Nat.le_of_ble_eq_true rfl, Nat.le_of_ble_eq_true rfl⟩) (pool_preV (ci := 12) hK hE hS hA hw hW kd900 (by decide) rfl) rfl rfl hl.1 rfl (lv_room (Nat.le_of_ble_eq_true rfl)) dX12_tellFact_18 ⟨Nat.le_of_ble_eq_true rfl, Nat.le_of_ble_eq_true rfl⟩) (fun zi56 hp52 H locs hq55 hw hS => ?_)
  obtain ⟨ok53, F54, bd57, hc58, rh59, rh60, rh61⟩ := hq55
  obtain rfl : hp32 = hp52 := (Fr.nil F54).symm
  have hw : PW G cy K ln Ls A hp32 H := hw
  refine lv_istore_n (lv' := [(3, .int zi56), (2, .int zi36), (1, .int zi14), (0, .ref qa900)]) hx hb dX12_tellFact_21 rfl hl (by decide) rfl (fun ls hl => ?_)
  refine lv_iload_n hx hb dX12_tellFact_22 rfl (lv_at hl 0 rfl) ?_
  have eq63 : hp32 qa900 20 = .int zi20 := Eq.trans (Fr.at (cq := 13020) F34 kd900 (cd_o (by decide)) (by decide)) eq19
  have eq64 : hp32 qa900 24 = .ref qa11 := Eq.trans (Fr.at (cq := 13024) F34 kd900 (cd_o (by decide)) (by decide)) eq10
  have eq65 : hp32 qa900 19 = .int zi5 := Eq.trans (Fr.at (cq := 13019) F34 kd900 (cd_o (by decide)) (by decide)) eq4
  have eq66 : hp32 qa11 (zi5 : Int32).toNatClampNeg = .int zi14 := Eq.trans (Fr.at (cq := 70000) F34 kd12 (cd_a (by decide)) (by decide)) eq13
  have eq67 : hp32 qa900 27 = .ref qa26 := Eq.trans (Fr.at (cq := 13027) F34 kd900 (cd_o (by decide)) (by decide)) eq25
  have eq68 : hp32 qa26 (zi5 : Int32).toNatClampNeg = .int zi29 := Eq.trans (Fr.at (cq := 73000) F34 kd27 (cd_a (by decide)) (by decide)) eq28
  have eq69 : hp32 qa900 32 = .ref qa2 := Eq.trans (Fr.at (cq := 13032) F34 kd900 (cd_o (by decide)) (by decide)) eq1
  have eq70 : hp32 qa2 (zi5 : Int32).toNatClampNeg = .int zi8 := Eq.trans (Fr.at (cq := 78000) F34 kd3 (cd_a (by decide)) (by decide)) eq7
  have jn114 : ∀ (hp102 : Nat → Nat → Value) (zi106 : Int32) (H : Heap) (locs : List Loc) (ls : Array Slot), Ok K hp102 → Fr [13013, 13014] K hp32 hp102 → ((0 : Int) ≤ zi106.toInt ∧ zi106.toInt ≤ 2) → hp102 qa900 13 = .int zi106 → (4*zi45.toInt + zi106.toInt ≥ 4*zi45.toInt + zi42.toInt) → (zi106.toInt ≥ zi42.toInt) → lv_has ls 5 [(0, .ref qa900), (1, .int zi14), (2, .int zi36), (3, .int zi56)] → PW G cy K ln Ls A hp102 H → va_S A s.heap H locs → W p l e ({ frames := 4, cells := 0, slots := 0, locals := 84 } : Room) s m ([.ref qa900] : List Value).toArray below meth c H locs 0 0 Q (F0 m 40 ls []) := by
    intro hp102 zi106 H locs ls ok104 F103 bd109 eq105 rq107 rq108 hl hw hS
    refine lv_aload_n hx hb dX12_tellFact_40 rfl (lv_at hl 0 rfl) ?_
    refine p_get (ci := 12) (v := .int zi106) (C := RX12) (T := TX12) (N := 69) hx hb hT iw_X12 hown hK hw hW kd900 (by decide) rfl rfl 13 (by decide) eq105 (hT _ tb_1387) (fun _ h9 => h9) dX12_tellFact_41 ?_
    have eq116 : hp102 qa900 11 = .int zi45 := Eq.trans (Fr.at (cq := 13011) F103 kd900 (cd_o (by decide)) (by decide)) eq44
    have eq117 : hp102 qa900 20 = .int zi20 := Eq.trans (Fr.at (cq := 13020) F103 kd900 (cd_o (by decide)) (by decide)) eq63
    have eq118 : hp102 qa900 24 = .ref qa11 := Eq.trans (Fr.at (cq := 13024) F103 kd900 (cd_o (by decide)) (by decide)) eq64
    have eq119 : hp102 qa900 19 = .int zi5 := Eq.trans (Fr.at (cq := 13019) F103 kd900 (cd_o (by decide)) (by decide)) eq65
    have eq120 : hp102 qa11 (zi5 : Int32).toNatClampNeg = .int zi14 := Eq.trans (Fr.at (cq := 70000) F103 kd12 (cd_a (by decide)) (by decide)) eq66
    have eq121 : hp102 qa900 27 = .ref qa26 := Eq.trans (Fr.at (cq := 13027) F103 kd900 (cd_o (by decide)) (by decide)) eq67
    have eq122 : hp102 qa26 (zi5 : Int32).toNatClampNeg = .int zi29 := Eq.trans (Fr.at (cq := 73000) F103 kd27 (cd_a (by decide)) (by decide)) eq68
    have eq123 : hp102 qa900 32 = .ref qa2 := Eq.trans (Fr.at (cq := 13032) F103 kd900 (cd_o (by decide)) (by decide)) eq69
    have eq124 : hp102 qa2 (zi5 : Int32).toNatClampNeg = .int zi8 := Eq.trans (Fr.at (cq := 78000) F103 kd3 (cd_a (by decide)) (by decide)) eq70
    refine lv_if_le (tgt := 48) hx hb dX12_tellFact_44 (by decide) (fun cn115 => ?_) (fun cn115 => ?_)
    · skip
      have bd125 : (0 : Int) ≤ zi106.toInt ∧ zi106.toInt ≤ 0 := r_le_x cn115 bd109 bc_0 (by decide) (by decide)
      refine lv_aload_n hx hb dX12_tellFact_48 rfl (lv_at hl 0 rfl) ?_
      refine kq_v hw hS hA (va_runV (As := []) (rest := []) ⟨hx, hb, hml, hown, hT⟩ (cX12_goesOn_0 l G cy ev K ln Ls hW _ hp102 ok104 qa900 kd900) (cwV 0 hT (good_V tb_1639 tb_1636 tb_1638 tb_56 tb_122) rfl rfl rfl (by decide +kernel) ⟨Nat.le_of_ble_eq_true rfl, Nat.le_of_ble_eq_true rfl⟩) (pool_preV (ci := 12) hK hE hS hA hw hW kd900 (by decide) rfl) rfl rfl hl.1 rfl (lv_room (Nat.le_of_ble_eq_true rfl)) dX12_tellFact_49 ⟨Nat.le_of_ble_eq_true rfl, Nat.le_of_ble_eq_true rfl⟩) (fun hp126 H locs hq129 hw hS => ?_)
      obtain ⟨ok127, F128, ⟨zi131, eq132, bd133⟩, rh134, rh135, rh136⟩ := hq129
      have hw : PW G cy K ln Ls A hp126 H := hw
      obtain ⟨zi138, eq137, bd139⟩ := rd_13013 ok127 kd900
      simp only [gi_of eq105, gi_of eq116, gi_of eq132, gi_of eq137] at rh134
      simp only [gi_of eq105, gi_of eq137] at rh135
      simp only [gi_of eq116, gi_of eq132, gi_of eq137] at rh136
      refine lv_aload_n hx hb dX12_tellFact_52 rfl (lv_at hl 0 rfl) ?_
      refine lv_bipush (v := 23) hx hb dX12_tellFact_53 (by decide) ?_
      have eq140 : hp126 qa900 5 = .ref qa48 := Eq.trans (Fr.at (cq := 13005) F128 kd900 (cd_o (by decide)) (by decide)) (Eq.trans (Fr.at (cq := 13005) F103 kd900 (cd_o (by decide)) (by decide)) eq47)
      obtain ⟨zi142, eq141⟩ := rd_62000 ok127 kd49 ((zi131 : Int32).toNatClampNeg)
      refine kq_i hw hS hA (va_runV (As := [.int 23]) (rest := []) ⟨hx, hb, hml, hown, hT⟩ (cX12_is_0 l G cy ev K ln Ls hW _ hp126 ok127 qa900 23 kd900) (cwV 1 hT (good_V tb_1623 tb_1620 tb_1622 tb_52 tb_122) rfl rfl rfl (by decide +kernel) ⟨Nat.le_of_ble_eq_true rfl, Nat.le_of_ble_eq_true rfl⟩) (pool_preV (ci := 12) hK hE hS hA hw hW kd900 (by decide) rfl) rfl rfl hl.1 rfl (lv_room (Nat.le_of_ble_eq_true rfl)) dX12_tellFact_55 ⟨Nat.le_of_ble_eq_true rfl, Nat.le_of_ble_eq_true rfl⟩) (fun zi147 hp143 H locs hq146 hw hS => ?_)
      obtain ⟨ok144, F145, bd148, hc149, rh150, rh151, rh152⟩ := hq146
      obtain rfl : hp126 = hp143 := (Fr.nil F145).symm
      have hw : PW G cy K ln Ls A hp126 H := hw
      refine lv_istore (lv' := [(4, .int zi147), (0, .ref qa900), (1, .int zi14), (2, .int zi36), (3, .int zi56)]) hx hb dX12_tellFact_58 hl (by decide) rfl (fun ls hl => ?_)
      refine lv_iload hx hb dX12_tellFact_60 (lv_at hl 0 rfl) ?_
      have eq154 : hp126 qa900 20 = .int zi20 := Eq.trans (Fr.at (cq := 13020) F128 kd900 (cd_o (by decide)) (by decide)) eq117
      have eq155 : hp126 qa900 24 = .ref qa11 := Eq.trans (Fr.at (cq := 13024) F128 kd900 (cd_o (by decide)) (by decide)) eq118
      have eq156 : hp126 qa900 19 = .int zi5 := Eq.trans (Fr.at (cq := 13019) F128 kd900 (cd_o (by decide)) (by decide)) eq119
      have eq157 : hp126 qa11 (zi5 : Int32).toNatClampNeg = .int zi14 := Eq.trans (Fr.at (cq := 70000) F128 kd12 (cd_a (by decide)) (by decide)) eq120
      have eq158 : hp126 qa900 27 = .ref qa26 := Eq.trans (Fr.at (cq := 13027) F128 kd900 (cd_o (by decide)) (by decide)) eq121
      have eq159 : hp126 qa26 (zi5 : Int32).toNatClampNeg = .int zi29 := Eq.trans (Fr.at (cq := 73000) F128 kd27 (cd_a (by decide)) (by decide)) eq122
      have eq160 : hp126 qa900 32 = .ref qa2 := Eq.trans (Fr.at (cq := 13032) F128 kd900 (cd_o (by decide)) (by decide)) eq123
      have eq161 : hp126 qa2 (zi5 : Int32).toNatClampNeg = .int zi8 := Eq.trans (Fr.at (cq := 78000) F128 kd3 (cd_a (by decide)) (by decide)) eq124
      have jn194 : ∀ (hp179 : Nat → Nat → Value) (zi183 : Int32) (zi185 : Int32) (H : Heap) (locs : List Loc) (ls : Array Slot), Ok K hp179 → Fr [13011, 13013, 13014] K hp126 hp179 → ((1 : Int) ≤ zi183.toInt ∧ zi183.toInt ≤ 400) → hp179 qa900 11 = .int zi183 → ((0 : Int) ≤ zi185.toInt ∧ zi185.toInt ≤ 2) → hp179 qa900 13 = .int zi185 → (4*zi183.toInt + zi185.toInt ≥ 4*zi131.toInt + zi138.toInt) → (zi185.toInt ≥ zi138.toInt) → lv_has ls 5 [(0, .ref qa900), (1, .int zi14), (2, .int zi36), (3, .int zi56), (4, .int zi147)] → PW G cy K ln Ls A hp179 H → va_S A s.heap H locs → W p l e ({ frames := 4, cells := 0, slots := 0, locals := 84 } : Room) s m ([.ref qa900] : List Value).toArray below meth c H locs 0 0 Q (F0 m 69 ls []) := by
        intro hp179 zi183 zi185 H locs ls ok181 F180 bd188 eq182 bd189 eq184 rq186 rq187 hl hw hS
        refine lv_aload_n hx hb dX12_tellFact_69 rfl (lv_at hl 0 rfl) ?_
        refine lv_iconst (v := 4) hx hb dX12_tellFact_70 (by decide) ?_
        refine kq_v hw hS hA (va_runV (As := [.int 4]) (rest := []) ⟨hx, hb, hml, hown, hT⟩ (cX12_must_0 l G cy ev K ln Ls hW _ hp179 ok181 qa900 4 kd900) (cwV 1 hT (good_V tb_1651 tb_1648 tb_1650 tb_59 tb_122) rfl rfl rfl (by decide +kernel) ⟨Nat.le_of_ble_eq_true rfl, Nat.le_of_ble_eq_true rfl⟩) (pool_preV (ci := 12) hK hE hS hA hw hW kd900 (by decide) rfl) rfl rfl hl.1 rfl (lv_room (Nat.le_of_ble_eq_true rfl)) dX12_tellFact_71 ⟨Nat.le_of_ble_eq_true rfl, Nat.le_of_ble_eq_true rfl⟩) (fun hp195 H locs hq198 hw hS => ?_)
        obtain ⟨ok196, F197, rh200, rh201, rh202⟩ := hq198
        have hw : PW G cy K ln Ls A hp195 H := hw
        obtain ⟨zi204, eq203, bd205⟩ := rd_13013 ok196 kd900
        obtain ⟨zi207, eq206, bd208⟩ := rd_13011 ok196 kd900
        simp only [gi_of eq182, gi_of eq184, gi_of eq203, gi_of eq206] at rh200
        simp only [gi_of eq184, gi_of eq203] at rh201
        simp only [gi_of eq182, gi_of eq203, gi_of eq206] at rh202
        refine lv_aload_n hx hb dX12_tellFact_74 rfl (lv_at hl 0 rfl) ?_
        refine p_get (ci := 12) (v := .int zi204) (C := RX12) (T := TX12) (N := 69) hx hb hT iw_X12 hown hK hw hW kd900 (by decide) rfl rfl 13 (by decide) eq203 (hT _ tb_1387) (fun _ h9 => h9) dX12_tellFact_75 ?_
        have eq210 : hp195 qa900 20 = .int zi20 := Eq.trans (Fr.at (cq := 13020) F197 kd900 (cd_o (by decide)) (by decide)) (Eq.trans (Fr.at (cq := 13020) F180 kd900 (cd_o (by decide)) (by decide)) eq154)
        have eq211 : hp195 qa900 24 = .ref qa11 := Eq.trans (Fr.at (cq := 13024) F197 kd900 (cd_o (by decide)) (by decide)) (Eq.trans (Fr.at (cq := 13024) F180 kd900 (cd_o (by decide)) (by decide)) eq155)
        have eq212 : hp195 qa900 19 = .int zi5 := Eq.trans (Fr.at (cq := 13019) F197 kd900 (cd_o (by decide)) (by decide)) (Eq.trans (Fr.at (cq := 13019) F180 kd900 (cd_o (by decide)) (by decide)) eq156)
        have eq213 : hp195 qa11 (zi5 : Int32).toNatClampNeg = .int zi14 := Eq.trans (Fr.at (cq := 70000) F197 kd12 (cd_a (by decide)) (by decide)) (Eq.trans (Fr.at (cq := 70000) F180 kd12 (cd_a (by decide)) (by decide)) eq157)
        have eq214 : hp195 qa900 27 = .ref qa26 := Eq.trans (Fr.at (cq := 13027) F197 kd900 (cd_o (by decide)) (by decide)) (Eq.trans (Fr.at (cq := 13027) F180 kd900 (cd_o (by decide)) (by decide)) eq158)
        have eq215 : hp195 qa26 (zi5 : Int32).toNatClampNeg = .int zi29 := Eq.trans (Fr.at (cq := 73000) F197 kd27 (cd_a (by decide)) (by decide)) (Eq.trans (Fr.at (cq := 73000) F180 kd27 (cd_a (by decide)) (by decide)) eq159)
        have eq216 : hp195 qa900 32 = .ref qa2 := Eq.trans (Fr.at (cq := 13032) F197 kd900 (cd_o (by decide)) (by decide)) (Eq.trans (Fr.at (cq := 13032) F180 kd900 (cd_o (by decide)) (by decide)) eq160)
        have eq217 : hp195 qa2 (zi5 : Int32).toNatClampNeg = .int zi8 := Eq.trans (Fr.at (cq := 78000) F197 kd3 (cd_a (by decide)) (by decide)) (Eq.trans (Fr.at (cq := 78000) F180 kd3 (cd_a (by decide)) (by decide)) eq161)
        refine lv_if_le (tgt := 82) hx hb dX12_tellFact_78 (by decide) (fun cn209 => ?_) (fun cn209 => ?_)
        · skip
          have bd218 : (0 : Int) ≤ zi204.toInt ∧ zi204.toInt ≤ 0 := r_le_x cn209 bd205 bc_0 (by decide) (by decide)
          refine lv_iload_n hx hb dX12_tellFact_82 rfl (lv_at hl 3 rfl) ?_
          have jn245 : ∀ (hp236 : Nat → Nat → Value)  (H : Heap) (locs : List Loc) (ls : Array Slot), Ok K hp236 → Fr [71000] K hp195 hp236 → (4*zi207.toInt + zi204.toInt ≥ 4*zi207.toInt + zi204.toInt) → (zi204.toInt ≥ zi204.toInt) → lv_has ls 5 [(0, .ref qa900), (1, .int zi14), (2, .int zi36), (4, .int zi147)] → PW G cy K ln Ls A hp236 H → va_S A s.heap H locs → W p l e ({ frames := 4, cells := 0, slots := 0, locals := 84 } : Room) s m ([.ref qa900] : List Value).toArray below meth c H locs 0 0 Q (F0 m 101 ls []) := by
            intro hp236 H locs ls ok238 F237 rq239 rq240 hl hw hS
            refine lv_iload hx hb dX12_tellFact_101 (lv_at hl 3 rfl) ?_
            have eq247 : hp236 qa900 11 = .int zi207 := Eq.trans (Fr.at (cq := 13011) F237 kd900 (cd_o (by decide)) (by decide)) eq206
            have eq248 : hp236 qa900 13 = .int zi204 := Eq.trans (Fr.at (cq := 13013) F237 kd900 (cd_o (by decide)) (by decide)) eq203
            have eq249 : hp236 qa900 20 = .int zi20 := Eq.trans (Fr.at (cq := 13020) F237 kd900 (cd_o (by decide)) (by decide)) eq210
            have eq250 : hp236 qa900 24 = .ref qa11 := Eq.trans (Fr.at (cq := 13024) F237 kd900 (cd_o (by decide)) (by decide)) eq211
            have eq251 : hp236 qa900 19 = .int zi5 := Eq.trans (Fr.at (cq := 13019) F237 kd900 (cd_o (by decide)) (by decide)) eq212
            have eq252 : hp236 qa11 (zi5 : Int32).toNatClampNeg = .int zi14 := Eq.trans (Fr.at (cq := 70000) F237 kd12 (cd_a (by decide)) (by decide)) eq213
            have eq253 : hp236 qa900 27 = .ref qa26 := Eq.trans (Fr.at (cq := 13027) F237 kd900 (cd_o (by decide)) (by decide)) eq214
            have eq254 : hp236 qa26 (zi5 : Int32).toNatClampNeg = .int zi29 := Eq.trans (Fr.at (cq := 73000) F237 kd27 (cd_a (by decide)) (by decide)) eq215
            have eq255 : hp236 qa900 32 = .ref qa2 := Eq.trans (Fr.at (cq := 13032) F237 kd900 (cd_o (by decide)) (by decide)) eq216
            have eq256 : hp236 qa2 (zi5 : Int32).toNatClampNeg = .int zi8 := Eq.trans (Fr.at (cq := 78000) F237 kd3 (cd_a (by decide)) (by decide)) eq217
            have jn282 : ∀ (hp273 : Nat → Nat → Value)  (H : Heap) (locs : List Loc) (ls : Array Slot), Ok K hp273 → Fr [72000] K hp236 hp273 → (4*zi207.toInt + zi204.toInt ≥ 4*zi207.toInt + zi204.toInt) → (zi204.toInt ≥ zi204.toInt) → lv_has ls 5 [(0, .ref qa900), (1, .int zi14), (2, .int zi36)] → PW G cy K ln Ls A hp273 H → va_S A s.heap H locs → W p l e ({ frames := 4, cells := 0, slots := 0, locals := 84 } : Room) s m ([.ref qa900] : List Value).toArray below meth c H locs 0 0 Q (F0 m 121 ls []) := by
              intro hp273 H locs ls ok275 F274 rq276 rq277 hl hw hS
              have eq283 : hp273 qa900 20 = .int zi20 := Eq.trans (Fr.at (cq := 13020) F274 kd900 (cd_o (by decide)) (by decide)) eq249
              have bd284 : (0 : Int) ≤ zi20.toInt ∧ zi20.toInt ≤ 19 := (by omega)
              refine lv_aload_n hx hb dX12_tellFact_121 rfl (lv_at hl 0 rfl) ?_
              refine lv_iload_n hx hb dX12_tellFact_122 rfl (lv_at hl 2 rfl) ?_
              refine lv_iconst (v := 0) hx hb dX12_tellFact_123 (by decide) ?_
              refine lv_iload_n hx hb dX12_tellFact_124 rfl (lv_at hl 1 rfl) ?_
              refine kq_v hw hS hA (va_runV (As := [.int zi36, .int 0, .int zi14]) (rest := []) ⟨hx, hb, hml, hown, hT⟩ (cX12_notes_0 l G cy ev K ln Ls hW _ hp273 ok275 qa900 zi36 0 zi14 zi20 kd900 (b_wid2 bd37 (by decide) (by decide)) (b_wid2 bd31 (by decide) (by decide)) eq283 (b_wid2 bd284 (by decide) (by decide))) (cwV 3 hT (good_V tb_1659 tb_1656 tb_1658 tb_61 tb_122) rfl rfl rfl (by decide +kernel) ⟨Nat.le_of_ble_eq_true rfl, Nat.le_of_ble_eq_true rfl⟩) (pool_preV (ci := 12) hK hE hS hA hw hW kd900 (by decide) rfl) rfl rfl hl.1 rfl (lv_room (Nat.le_of_ble_eq_true rfl)) dX12_tellFact_125 ⟨Nat.le_of_ble_eq_true rfl, Nat.le_of_ble_eq_true rfl⟩) (fun hp285 H locs hq288 hw hS => ?_)
              obtain ⟨ok286, F287, ⟨zi290, eq291, bd292⟩, rh293⟩ := hq288
              have hw : PW G cy K ln Ls A hp285 H := hw
              simp only [gi_of eq283, gi_of eq291] at rh293
              refine lv_aload_n hx hb dX12_tellFact_128 rfl (lv_at hl 0 rfl) ?_
              have eq294 : hp285 qa900 24 = .ref qa11 := Eq.trans (Fr.at (cq := 13024) F287 kd900 (cd_o (by decide)) (by decide)) (Eq.trans (Fr.at (cq := 13024) F274 kd900 (cd_o (by decide)) (by decide)) eq250)
              refine p_get (ci := 12) (v := .ref qa11) (C := RX12) (T := TX12) (N := 69) hx hb hT iw_X12 hown hK hw hW kd900 (by decide) rfl rfl 24 (by decide) eq294 (hT _ tb_1398) (fun _ h9 => h9) dX12_tellFact_129 ?_
              refine lv_aload_n hx hb dX12_tellFact_132 rfl (lv_at hl 0 rfl) ?_
              have eq295 : hp285 qa900 19 = .int zi5 := Eq.trans (Fr.at (cq := 13019) F287 kd900 (cd_o (by decide)) (by decide)) (Eq.trans (Fr.at (cq := 13019) F274 kd900 (cd_o (by decide)) (by decide)) eq251)
              refine p_get (ci := 12) (v := .int zi5) (C := RX12) (T := TX12) (N := 69) hx hb hT iw_X12 hown hK hw hW kd900 (by decide) rfl rfl 19 (by decide) eq295 (hT _ tb_1393) (fun _ h9 => h9) dX12_tellFact_133 ?_
              refine lv_dup2_11 hx hb dX12_tellFact_136 rfl rfl ?_
              have eq296 : hp285 qa11 (zi5 : Int32).toNatClampNeg = .int zi14 := Eq.trans (Fr.at (cq := 70000) F287 kd12 (cd_a (by decide)) (by decide)) (Eq.trans (Fr.at (cq := 70000) F274 kd12 (cd_a (by decide)) (by decide)) eq252)
              refine p_iald (v := zi14) hx hb hK hw hW kd12 (by decide) rfl (hW.len kd12 (n := 2) rfl (by decide)) (vp_b bd6 (by decide) (by decide)) eq296 dX12_tellFact_137 ?_
              refine lv_iconst (v := 1) hx hb dX12_tellFact_138 (by decide) ?_
              refine lv_iadd hx hb dX12_tellFact_139 (lv_topi (fun zi297 ea298 => ?_))
              have bd299 : (1 : Int) ≤ zi297.toInt ∧ zi297.toInt ≤ 6 := b_iadd ea298 bd31 bc_1 (by decide) (by decide) (by decide) (by decide)
              have qe300 : zi297.toInt = (zi14 : Int32).toInt + (1 : Int32).toInt := e_iadd ea298 bd31 bc_1 (by decide) (by decide)
              have qe301 : zi297.toInt = zi14.toInt + 1 := by have ha : (1 : Int32).toInt = 1 := (by decide); rw [ha] at qe300; exact qe300
              refine p_iast (x := zi297) hx hb hK hw hS hW kd12 (by decide) rfl (hW.len kd12 (n := 2) rfl (by decide)) (vp_b bd6 (by decide) (by decide)) dX12_tellFact_140 (fun hp302 eh303 H locs hw hS => ?_)
              have ok304 := wr_70000 bd299 (by decide) (by decide) ok286 kd12 eh303
              have eq305 : hp302 qa900 13 = .int zi204 := Eq.trans (up_at eh303 (Or.inl (kd_ne kd900 kd12 (by decide)))) (Eq.trans (Fr.at (cq := 13013) F287 kd900 (cd_o (by decide)) (by decide)) (Eq.trans (Fr.at (cq := 13013) F274 kd900 (cd_o (by decide)) (by decide)) eq248))
              have eq306 : hp302 qa900 11 = .int zi207 := Eq.trans (up_at eh303 (Or.inl (kd_ne kd900 kd12 (by decide)))) (Eq.trans (Fr.at (cq := 13011) F287 kd900 (cd_o (by decide)) (by decide)) (Eq.trans (Fr.at (cq := 13011) F274 kd900 (cd_o (by decide)) (by decide)) eq247))
              have eq307 : hp302 qa900 32 = .ref qa2 := Eq.trans (up_at eh303 (Or.inl (kd_ne kd900 kd12 (by decide)))) (Eq.trans (Fr.at (cq := 13032) F287 kd900 (cd_o (by decide)) (by decide)) (Eq.trans (Fr.at (cq := 13032) F274 kd900 (cd_o (by decide)) (by decide)) eq255))
              have eq308 : hp302 qa900 19 = .int zi5 := Eq.trans (up_at eh303 (Or.inl (kd_ne kd900 kd12 (by decide)))) eq295
              have eq309 : hp302 qa2 (zi5 : Int32).toNatClampNeg = .int zi8 := Eq.trans (up_at eh303 (Or.inl (kd_ne kd3 kd12 (by decide)))) (Eq.trans (Fr.at (cq := 78000) F287 kd3 (cd_a (by decide)) (by decide)) (Eq.trans (Fr.at (cq := 78000) F274 kd3 (cd_a (by decide)) (by decide)) eq256))
              have eq310 : hp302 qa900 24 = .ref qa11 := Eq.trans (up_at eh303 (Or.inl (kd_ne kd900 kd12 (by decide)))) eq294
              have eq311 : hp302 qa900 20 = .int zi290 := Eq.trans (up_at eh303 (Or.inl (kd_ne kd900 kd12 (by decide)))) eq291
              have eq312 : hp302 qa900 27 = .ref qa26 := Eq.trans (up_at eh303 (Or.inl (kd_ne kd900 kd12 (by decide)))) (Eq.trans (Fr.at (cq := 13027) F287 kd900 (cd_o (by decide)) (by decide)) (Eq.trans (Fr.at (cq := 13027) F274 kd900 (cd_o (by decide)) (by decide)) eq253))
              have eq313 : hp302 qa26 (zi5 : Int32).toNatClampNeg = .int zi29 := Eq.trans (up_at eh303 (Or.inl (kd_ne kd27 kd12 (by decide)))) (Eq.trans (Fr.at (cq := 73000) F287 kd27 (cd_a (by decide)) (by decide)) (Eq.trans (Fr.at (cq := 73000) F274 kd27 (cd_a (by decide)) (by decide)) eq254))
              rw [hQ]
              exact kz_v hx hb hr hlocks hS hp302 hw ⟨ok304, (Fr.put (cq := 70000) (Fr.tr (Fr.tr (Fr.tr (Fr.tr (Fr.tr (Fr.tr (Fr.tr (Fr.tr (Fr.rf) F34 (by decide)) F103 (by decide)) F128 (by decide)) F180 (by decide)) F197 (by decide)) F237 (by decide)) F274 (by decide)) F287 (by decide)) eh303 kd12 (cd_a (by decide)) (by decide)), (by simp only [gi_of eq16, gi_of eq22, gi_of eq305, gi_of eq306]; omega), (by simp only [gi_of eq16, gi_of eq305]; omega), (by simp only [ge_of eq307 eq308 eq309, ge_of eq310 eq308 (hp_self eh303), ge_of eq312 eq308 eq313, gi_of eq311]; omega)⟩ (Nat.le_of_ble_eq_true rfl) (Nat.le_of_ble_eq_true rfl) dX12_tellFact_141
            refine lv_if_eq (tgt := 121) hx hb dX12_tellFact_103 (by decide) (fun cn246 => ?_) (fun cn246 => ?_)
            · skip
              have bd314 : (0 : Int) ≤ zi147.toInt ∧ zi147.toInt ≤ 0 := r_eq_x cn246 bd148 bc_0 (by decide) (by decide)
              exact jn282 hp236 _ _ ls ok238 (Fr.rf) (by omega) (by omega) (lv_sub hl [0, 1, 2] rfl) hw hS
            · skip
              have tf315 : (zi147 : Int32).toInt ≠ (0 : Int32).toInt := fun e => cn246 (Int32.toInt_inj.mp e)
              have := toi bc_0
              have bd316 : (1 : Int) ≤ zi147.toInt ∧ zi147.toInt ≤ 1 := r_ne_lo cn246 bd148 (toi bc_0) (by decide) (by decide)
              refine lv_aload_n hx hb dX12_tellFact_106 rfl (lv_at hl 0 rfl) ?_
              obtain ⟨qa318, eq317, kd319⟩ := rd_13026 ok238 kd900
              refine p_get (ci := 12) (v := .ref qa318) (C := RX12) (T := TX12) (N := 69) hx hb hT iw_X12 hown hK hw hW kd900 (by decide) rfl rfl 26 (by decide) eq317 (hT _ tb_1400) (fun _ h9 => h9) dX12_tellFact_107 ?_
              refine lv_aload_n hx hb dX12_tellFact_110 rfl (lv_at hl 0 rfl) ?_
              refine p_get (ci := 12) (v := .int zi5) (C := RX12) (T := TX12) (N := 69) hx hb hT iw_X12 hown hK hw hW kd900 (by decide) rfl rfl 19 (by decide) eq251 (hT _ tb_1393) (fun _ h9 => h9) dX12_tellFact_111 ?_
              refine lv_dup2_11 hx hb dX12_tellFact_114 rfl rfl ?_
              obtain ⟨zi321, eq320⟩ := rd_72000 ok238 kd319 ((zi5 : Int32).toNatClampNeg)
              refine p_iald (v := zi321) hx hb hK hw hW kd319 (by decide) rfl (hW.len kd319 (n := 2) rfl (by decide)) (vp_b bd6 (by decide) (by decide)) eq320 dX12_tellFact_115 ?_
              refine lv_iconst (v := 1) hx hb dX12_tellFact_116 (by decide) ?_
              refine lv_iload_n hx hb dX12_tellFact_117 rfl (lv_at hl 1 rfl) ?_
              refine lv_ishl hx hb dX12_tellFact_118 (lv_topi (fun zi322 ea323 => ?_))
              have bd324 : (1 : Int) ≤ zi322.toInt ∧ zi322.toInt ≤ 32 := b_shl1 5 ea323 bd31 (by decide) (by decide) (by decide) (by decide) (by decide)
              refine lv_ior hx hb dX12_tellFact_119 (lv_topi (fun zi325 ea326 => ?_))
              refine p_iast (x := zi325) hx hb hK hw hS hW kd319 (by decide) rfl (hW.len kd319 (n := 2) rfl (by decide)) (vp_b bd6 (by decide) (by decide)) dX12_tellFact_120 (fun hp327 eh328 H locs hw hS => ?_)
              have ok329 := wr_72000 ok238 kd319 eh328
              have eq330 : hp327 qa900 11 = .int zi207 := Eq.trans (up_at eh328 (Or.inl (kd_ne kd900 kd319 (by decide)))) eq247
              have eq331 : hp327 qa900 13 = .int zi204 := Eq.trans (up_at eh328 (Or.inl (kd_ne kd900 kd319 (by decide)))) eq248
              have eq332 : hp327 qa900 20 = .int zi20 := Eq.trans (up_at eh328 (Or.inl (kd_ne kd900 kd319 (by decide)))) eq249
              have eq333 : hp327 qa900 24 = .ref qa11 := Eq.trans (up_at eh328 (Or.inl (kd_ne kd900 kd319 (by decide)))) eq250
              have eq334 : hp327 qa900 19 = .int zi5 := Eq.trans (up_at eh328 (Or.inl (kd_ne kd900 kd319 (by decide)))) eq251
              have eq335 : hp327 qa11 (zi5 : Int32).toNatClampNeg = .int zi14 := Eq.trans (up_at eh328 (Or.inl (kd_ne kd12 kd319 (by decide)))) eq252
              have eq336 : hp327 qa900 27 = .ref qa26 := Eq.trans (up_at eh328 (Or.inl (kd_ne kd900 kd319 (by decide)))) eq253
              have eq337 : hp327 qa26 (zi5 : Int32).toNatClampNeg = .int zi29 := Eq.trans (up_at eh328 (Or.inl (kd_ne kd27 kd319 (by decide)))) eq254
              have eq338 : hp327 qa900 32 = .ref qa2 := Eq.trans (up_at eh328 (Or.inl (kd_ne kd900 kd319 (by decide)))) eq255
              have eq339 : hp327 qa2 (zi5 : Int32).toNatClampNeg = .int zi8 := Eq.trans (up_at eh328 (Or.inl (kd_ne kd3 kd319 (by decide)))) eq256
              exact jn282 hp327 _ _ ls ok329 (Fr.put (cq := 72000) (Fr.rf) eh328 kd319 (cd_a (by decide)) (by decide)) (by omega) (by omega) (lv_sub hl [0, 1, 2] rfl) hw hS
          refine lv_if_eq (tgt := 101) hx hb dX12_tellFact_83 (by decide) (fun cn219 => ?_) (fun cn219 => ?_)
          · skip
            have bd340 : (0 : Int) ≤ zi56.toInt ∧ zi56.toInt ≤ 0 := r_eq_x cn219 bd57 bc_0 (by decide) (by decide)
            exact jn245 hp195 _ _ ls ok196 (Fr.rf) (by omega) (by omega) (lv_sub hl [0, 1, 2, 4] rfl) hw hS
          · skip
            have tf341 : (zi56 : Int32).toInt ≠ (0 : Int32).toInt := fun e => cn219 (Int32.toInt_inj.mp e)
            have := toi bc_0
            have bd342 : (1 : Int) ≤ zi56.toInt ∧ zi56.toInt ≤ 1 := r_ne_lo cn219 bd57 (toi bc_0) (by decide) (by decide)
            refine lv_aload_n hx hb dX12_tellFact_86 rfl (lv_at hl 0 rfl) ?_
            obtain ⟨qa344, eq343, kd345⟩ := rd_13025 ok196 kd900
            refine p_get (ci := 12) (v := .ref qa344) (C := RX12) (T := TX12) (N := 69) hx hb hT iw_X12 hown hK hw hW kd900 (by decide) rfl rfl 25 (by decide) eq343 (hT _ tb_1399) (fun _ h9 => h9) dX12_tellFact_87 ?_
            refine lv_aload_n hx hb dX12_tellFact_90 rfl (lv_at hl 0 rfl) ?_
            refine p_get (ci := 12) (v := .int zi5) (C := RX12) (T := TX12) (N := 69) hx hb hT iw_X12 hown hK hw hW kd900 (by decide) rfl rfl 19 (by decide) eq212 (hT _ tb_1393) (fun _ h9 => h9) dX12_tellFact_91 ?_
            refine lv_dup2_11 hx hb dX12_tellFact_94 rfl rfl ?_
            obtain ⟨zi347, eq346⟩ := rd_71000 ok196 kd345 ((zi5 : Int32).toNatClampNeg)
            refine p_iald (v := zi347) hx hb hK hw hW kd345 (by decide) rfl (hW.len kd345 (n := 2) rfl (by decide)) (vp_b bd6 (by decide) (by decide)) eq346 dX12_tellFact_95 ?_
            refine lv_iconst (v := 1) hx hb dX12_tellFact_96 (by decide) ?_
            refine lv_iload_n hx hb dX12_tellFact_97 rfl (lv_at hl 1 rfl) ?_
            refine lv_ishl hx hb dX12_tellFact_98 (lv_topi (fun zi348 ea349 => ?_))
            have bd350 : (1 : Int) ≤ zi348.toInt ∧ zi348.toInt ≤ 32 := b_shl1 5 ea349 bd31 (by decide) (by decide) (by decide) (by decide) (by decide)
            refine lv_ior hx hb dX12_tellFact_99 (lv_topi (fun zi351 ea352 => ?_))
            refine p_iast (x := zi351) hx hb hK hw hS hW kd345 (by decide) rfl (hW.len kd345 (n := 2) rfl (by decide)) (vp_b bd6 (by decide) (by decide)) dX12_tellFact_100 (fun hp353 eh354 H locs hw hS => ?_)
            have ok355 := wr_71000 ok196 kd345 eh354
            have eq356 : hp353 qa900 11 = .int zi207 := Eq.trans (up_at eh354 (Or.inl (kd_ne kd900 kd345 (by decide)))) eq206
            have eq357 : hp353 qa900 13 = .int zi204 := Eq.trans (up_at eh354 (Or.inl (kd_ne kd900 kd345 (by decide)))) eq203
            have eq358 : hp353 qa900 20 = .int zi20 := Eq.trans (up_at eh354 (Or.inl (kd_ne kd900 kd345 (by decide)))) eq210
            have eq359 : hp353 qa900 24 = .ref qa11 := Eq.trans (up_at eh354 (Or.inl (kd_ne kd900 kd345 (by decide)))) eq211
            have eq360 : hp353 qa900 19 = .int zi5 := Eq.trans (up_at eh354 (Or.inl (kd_ne kd900 kd345 (by decide)))) eq212
            have eq361 : hp353 qa11 (zi5 : Int32).toNatClampNeg = .int zi14 := Eq.trans (up_at eh354 (Or.inl (kd_ne kd12 kd345 (by decide)))) eq213
            have eq362 : hp353 qa900 27 = .ref qa26 := Eq.trans (up_at eh354 (Or.inl (kd_ne kd900 kd345 (by decide)))) eq214
            have eq363 : hp353 qa26 (zi5 : Int32).toNatClampNeg = .int zi29 := Eq.trans (up_at eh354 (Or.inl (kd_ne kd27 kd345 (by decide)))) eq215
            have eq364 : hp353 qa900 32 = .ref qa2 := Eq.trans (up_at eh354 (Or.inl (kd_ne kd900 kd345 (by decide)))) eq216
            have eq365 : hp353 qa2 (zi5 : Int32).toNatClampNeg = .int zi8 := Eq.trans (up_at eh354 (Or.inl (kd_ne kd3 kd345 (by decide)))) eq217
            exact jn245 hp353 _ _ ls ok355 (Fr.put (cq := 71000) (Fr.rf) eh354 kd345 (cd_a (by decide)) (by decide)) (by omega) (by omega) (lv_sub hl [0, 1, 2, 4] rfl) hw hS
        · skip
          have bd366 : (1 : Int) ≤ zi204.toInt ∧ zi204.toInt ≤ 2 := r_lt_y (Int32.not_le.mp cn209) bc_0 bd205 (by decide) (by decide)
          rw [hQ]
          exact kz_v hx hb hr hlocks hS hp195 hw ⟨ok196, (Fr.tr (Fr.tr (Fr.tr (Fr.tr (Fr.tr (Fr.rf) F34 (by decide)) F103 (by decide)) F128 (by decide)) F180 (by decide)) F197 (by decide)), (by simp only [gi_of eq16, gi_of eq203, gi_of eq206, gi_of eq22]; omega), (by simp only [gi_of eq16, gi_of eq203]; omega), (by simp only [ge_of eq211 eq212 eq213, ge_of eq214 eq212 eq215, ge_of eq216 eq212 eq217, gi_of eq210]; omega)⟩ (Nat.le_of_ble_eq_true rfl) (Nat.le_of_ble_eq_true rfl) dX12_tellFact_81
      refine lv_if_eq (tgt := 69) hx hb dX12_tellFact_62 (by decide) (fun cn153 => ?_) (fun cn153 => ?_)
      · skip
        have bd367 : (0 : Int) ≤ zi147.toInt ∧ zi147.toInt ≤ 0 := r_eq_x cn153 bd148 bc_0 (by decide) (by decide)
        exact jn194 hp126 zi131 zi138 _ _ ls ok127 (Fr.rf) (b_wid2 bd133 (by decide) (by decide)) eq132 (b_wid2 bd139 (by decide) (by decide)) eq137 (by omega) (by omega) (lv_sub hl [1, 2, 3, 4, 0] rfl) hw hS
      · skip
        have tf368 : (zi147 : Int32).toInt ≠ (0 : Int32).toInt := fun e => cn153 (Int32.toInt_inj.mp e)
        have := toi bc_0
        have bd369 : (1 : Int) ≤ zi147.toInt ∧ zi147.toInt ≤ 1 := r_ne_lo cn153 bd148 (toi bc_0) (by decide) (by decide)
        refine lv_aload_n hx hb dX12_tellFact_65 rfl (lv_at hl 1 rfl) ?_
        refine kq_v hw hS hA (va_runV (As := []) (rest := []) ⟨hx, hb, hml, hown, hT⟩ (cX12_goesOn_0 l G cy ev K ln Ls hW _ hp126 ok127 qa900 kd900) (cwV 0 hT (good_V tb_1639 tb_1636 tb_1638 tb_56 tb_122) rfl rfl rfl (by decide +kernel) ⟨Nat.le_of_ble_eq_true rfl, Nat.le_of_ble_eq_true rfl⟩) (pool_preV (ci := 12) hK hE hS hA hw hW kd900 (by decide) rfl) rfl rfl hl.1 rfl (lv_room (Nat.le_of_ble_eq_true rfl)) dX12_tellFact_66 ⟨Nat.le_of_ble_eq_true rfl, Nat.le_of_ble_eq_true rfl⟩) (fun hp370 H locs hq373 hw hS => ?_)
        obtain ⟨ok371, F372, ⟨zi375, eq376, bd377⟩, rh378, rh379, rh380⟩ := hq373
        have hw : PW G cy K ln Ls A hp370 H := hw
        obtain ⟨zi382, eq381, bd383⟩ := rd_13013 ok371 kd900
        simp only [gi_of eq132, gi_of eq137, gi_of eq376, gi_of eq381] at rh378
        simp only [gi_of eq137, gi_of eq381] at rh379
        simp only [gi_of eq132, gi_of eq376, gi_of eq381] at rh380
        have eq384 : hp370 qa900 20 = .int zi20 := Eq.trans (Fr.at (cq := 13020) F372 kd900 (cd_o (by decide)) (by decide)) eq154
        have eq385 : hp370 qa900 24 = .ref qa11 := Eq.trans (Fr.at (cq := 13024) F372 kd900 (cd_o (by decide)) (by decide)) eq155
        have eq386 : hp370 qa900 19 = .int zi5 := Eq.trans (Fr.at (cq := 13019) F372 kd900 (cd_o (by decide)) (by decide)) eq156
        have eq387 : hp370 qa11 (zi5 : Int32).toNatClampNeg = .int zi14 := Eq.trans (Fr.at (cq := 70000) F372 kd12 (cd_a (by decide)) (by decide)) eq157
        have eq388 : hp370 qa900 27 = .ref qa26 := Eq.trans (Fr.at (cq := 13027) F372 kd900 (cd_o (by decide)) (by decide)) eq158
        have eq389 : hp370 qa26 (zi5 : Int32).toNatClampNeg = .int zi29 := Eq.trans (Fr.at (cq := 73000) F372 kd27 (cd_a (by decide)) (by decide)) eq159
        have eq390 : hp370 qa900 32 = .ref qa2 := Eq.trans (Fr.at (cq := 13032) F372 kd900 (cd_o (by decide)) (by decide)) eq160
        have eq391 : hp370 qa2 (zi5 : Int32).toNatClampNeg = .int zi8 := Eq.trans (Fr.at (cq := 78000) F372 kd3 (cd_a (by decide)) (by decide)) eq161
        exact jn194 hp370 zi375 zi382 _ _ ls ok371 (Fr.tr (Fr.rf) F372 (by decide)) (b_wid2 bd377 (by decide) (by decide)) eq376 (b_wid2 bd383 (by decide) (by decide)) eq381 (by omega) (by omega) (lv_sub hl [1, 2, 3, 4, 0] rfl) hw hS
    · skip
      have bd392 : (1 : Int) ≤ zi106.toInt ∧ zi106.toInt ≤ 2 := r_lt_y (Int32.not_le.mp cn115) bc_0 bd109 (by decide) (by decide)
      rw [hQ]
      exact kz_v hx hb hr hlocks hS hp102 hw ⟨ok104, (Fr.tr (Fr.tr (Fr.rf) F34 (by decide)) F103 (by decide)), (by simp only [gi_of eq105, gi_of eq116, gi_of eq16, gi_of eq22]; omega), (by simp only [gi_of eq105, gi_of eq16]; omega), (by simp only [ge_of eq118 eq119 eq120, ge_of eq121 eq119 eq122, ge_of eq123 eq119 eq124, gi_of eq117]; omega)⟩ (Nat.le_of_ble_eq_true rfl) (Nat.le_of_ble_eq_true rfl) dX12_tellFact_47
  refine lv_if_ne (tgt := 40) hx hb dX12_tellFact_23 (by decide) (fun cn62 => ?_) (fun cn62 => ?_)
  · skip
    have tf393 : (zi56 : Int32).toInt ≠ (0 : Int32).toInt := fun e => cn62 (Int32.toInt_inj.mp e)
    have := toi bc_0
    have bd394 : (1 : Int) ≤ zi56.toInt ∧ zi56.toInt ≤ 1 := r_ne_lo cn62 bd57 (toi bc_0) (by decide) (by decide)
    exact jn114 hp32 zi42 _ _ ls ok33 (Fr.rf) (b_wid2 bd43 (by decide) (by decide)) eq41 (by omega) (by omega) (lv_sub hl [3, 2, 1, 0] rfl) hw hS
  · skip
    have bd395 : (0 : Int) ≤ zi56.toInt ∧ zi56.toInt ≤ 0 := r_eq_x cn62 bd57 bc_0 (by decide) (by decide)
    refine lv_aload_n hx hb dX12_tellFact_26 rfl (lv_at hl 3 rfl) ?_
    refine lv_bipush (v := 22) hx hb dX12_tellFact_27 (by decide) ?_
    refine kq_i hw hS hA (va_runV (As := [.int 22]) (rest := []) ⟨hx, hb, hml, hown, hT⟩ (cX12_is_0 l G cy ev K ln Ls hW _ hp32 ok33 qa900 22 kd900) (cwV 1 hT (good_V tb_1623 tb_1620 tb_1622 tb_52 tb_122) rfl rfl rfl (by decide +kernel) ⟨Nat.le_of_ble_eq_true rfl, Nat.le_of_ble_eq_true rfl⟩) (pool_preV (ci := 12) hK hE hS hA hw hW kd900 (by decide) rfl) rfl rfl hl.1 rfl (lv_room (Nat.le_of_ble_eq_true rfl)) dX12_tellFact_29 ⟨Nat.le_of_ble_eq_true rfl, Nat.le_of_ble_eq_true rfl⟩) (fun zi400 hp396 H locs hq399 hw hS => ?_)
    obtain ⟨ok397, F398, bd401, hc402, rh403, rh404, rh405⟩ := hq399
    obtain rfl : hp32 = hp396 := (Fr.nil F398).symm
    have hw : PW G cy K ln Ls A hp32 H := hw
    rcases b01 bd401 with cn406 | cn406
    · skip
      subst cn406
      have rh407 := rh405 rfl
      simp only [ge_of eq47 eq44 eq50, gi_of eq41, toi bc_22] at rh407
      refine lv_if_ne (tgt := 40) hx hb dX12_tellFact_32 (by decide) (fun c => absurd (d_eq bc_0 bc_0) c) (fun _ => ?_)
      refine lv_aload_n hx hb dX12_tellFact_35 rfl (lv_at hl 3 rfl) ?_
      refine lv_iconst (v := 1) hx hb dX12_tellFact_36 (by decide) ?_
      refine kq_v hw hS hA (va_runV (As := [.int 1]) (rest := []) ⟨hx, hb, hml, hown, hT⟩ (cX12_fail_0 l G cy ev K ln Ls hW _ hp32 ok33 qa900 1 kd900 (b_wid2 bc_1 (by decide) (by decide))) (cwV 1 hT (good_V tb_1635 tb_1632 tb_1634 tb_55 tb_122) rfl rfl rfl (by decide +kernel) ⟨Nat.le_of_ble_eq_true rfl, Nat.le_of_ble_eq_true rfl⟩) (pool_preV (ci := 12) hK hE hS hA hw hW kd900 (by decide) rfl) rfl rfl hl.1 rfl (lv_room (Nat.le_of_ble_eq_true rfl)) dX12_tellFact_37 ⟨Nat.le_of_ble_eq_true rfl, Nat.le_of_ble_eq_true rfl⟩) (fun hp408 H locs hq411 hw hS => ?_)
      obtain ⟨ok409, F410, ⟨zi413, eq414, bd415⟩, rh416⟩ := hq411
      have hw : PW G cy K ln Ls A hp408 H := hw
      simp only [gi_of eq41, gi_of eq414] at rh416
      have eq417 : hp408 qa900 11 = .int zi45 := Eq.trans (Fr.at (cq := 13011) F410 kd900 (cd_o (by decide)) (by decide)) eq44
      have eq418 : hp408 qa900 20 = .int zi20 := Eq.trans (Fr.at (cq := 13020) F410 kd900 (cd_o (by decide)) (by decide)) eq63
      have eq419 : hp408 qa900 24 = .ref qa11 := Eq.trans (Fr.at (cq := 13024) F410 kd900 (cd_o (by decide)) (by decide)) eq64
      have eq420 : hp408 qa900 19 = .int zi5 := Eq.trans (Fr.at (cq := 13019) F410 kd900 (cd_o (by decide)) (by decide)) eq65
      have eq421 : hp408 qa11 (zi5 : Int32).toNatClampNeg = .int zi14 := Eq.trans (Fr.at (cq := 70000) F410 kd12 (cd_a (by decide)) (by decide)) eq66
      have eq422 : hp408 qa900 27 = .ref qa26 := Eq.trans (Fr.at (cq := 13027) F410 kd900 (cd_o (by decide)) (by decide)) eq67
      have eq423 : hp408 qa26 (zi5 : Int32).toNatClampNeg = .int zi29 := Eq.trans (Fr.at (cq := 73000) F410 kd27 (cd_a (by decide)) (by decide)) eq68
      have eq424 : hp408 qa900 32 = .ref qa2 := Eq.trans (Fr.at (cq := 13032) F410 kd900 (cd_o (by decide)) (by decide)) eq69
      have eq425 : hp408 qa2 (zi5 : Int32).toNatClampNeg = .int zi8 := Eq.trans (Fr.at (cq := 78000) F410 kd3 (cd_a (by decide)) (by decide)) eq70
      exact jn114 hp408 zi413 _ _ ls ok409 (Fr.tr (Fr.rf) F410 (by decide)) (b_wid2 bd415 (by decide) (by decide)) eq414 (by omega) (by omega) (lv_sub hl [3, 2, 1, 0] rfl) hw hS
    · skip
      subst cn406
      obtain ⟨zi426, eq427, bd428⟩ := hc402 rfl
      have hx429 : zi42 = zi426 := Value.int.inj (Eq.trans (Eq.symm eq41) eq427)
      subst hx429
      have bd430 : (0 : Int) ≤ zi42.toInt ∧ zi42.toInt ≤ 0 := b_meet bd43 bd428 (by decide) (by decide)
      have rh431 := rh403 rfl
      simp only [ge_of eq47 eq44 eq50, toi bc_22] at rh431
      have rh432 := rh404 rfl
      simp only [gi_of eq41] at rh432
      refine lv_if_ne (tgt := 40) hx hb dX12_tellFact_32 (by decide) (fun _ => ?_) (fun c => absurd c (d_ne bc_1 bc_0 (by decide)))
      exact jn114 hp32 zi42 _ _ ls ok33 (Fr.rf) (b_wid2 bd430 (by decide) (by decide)) eq41 (by omega) (by omega) (lv_sub hl [3, 2, 1, 0] rfl) hw hS

set_option maxRecDepth 100000 in
set_option maxHeartbeats 4000000 in
theorem cX12_tellWitness_0 (l : Launch) (G : va_G) (cy : Nat → ClassId) (ev : Ew) (K ln : Nat → Nat) (Ls : List Nat) (hW : SW K ln Ls) (sz : Nat) (hp0 : Nat → Nat → Value) (ok0 : Ok K hp0) (qa900 : Nat) (kd900 : K qa900 = 13) (rp0 : (gi hp0 qa900 20) ≤ (ge hp0 qa900 24 19) + (ge hp0 qa900 27 19) + (ge hp0 qa900 32 19)) (rp1 : (ge hp0 qa900 27 19) ≤ 5) : Met l yX12_tellWitness (WS yX12_tellWitness cX12_tellWitness 2 none) { frames := 4, cells := 0, slots := 0, locals := 84 } (PB2 [.ref qa900] sz G cy ev (va_pl Ls (cellOf cy K ln hp0))) (QBv (S := (Nat → Nat → Value)) (fun u : (Nat → Nat → Value) => Ok K u ∧ Fr [13011, 13013, 13014, 13015, 13016, 13020, 67000, 68000, 69000, 73000] K hp0 u ∧ (4*(gi u qa900 11) + (gi u qa900 13) ≥ 4*(gi hp0 qa900 11) + (gi hp0 qa900 13)) ∧ ((gi u qa900 13) ≥ (gi hp0 qa900 13)) ∧ ((gi u qa900 20) ≤ (ge u qa900 24 19) + (ge u qa900 27 19) + (ge u qa900 32 19))) G (fun u => va_pl Ls (cellOf cy K ln u)) (va_A (va_pl Ls (cellOf cy K ln hp0)) sz)) 0 0 (va_A (va_pl Ls (cellOf cy K ln hp0)) sz) := by
  refine met_of2 (y := yX12_tellWitness) (L := 2) (av := [.ref qa900]) (Qc := fun A => QBv (S := (Nat → Nat → Value)) (fun u : (Nat → Nat → Value) => Ok K u ∧ Fr [13011, 13013, 13014, 13015, 13016, 13020, 67000, 68000, 69000, 73000] K hp0 u ∧ (4*(gi u qa900 11) + (gi u qa900 13) ≥ 4*(gi hp0 qa900 11) + (gi hp0 qa900 13)) ∧ ((gi u qa900 13) ≥ (gi hp0 qa900 13)) ∧ ((gi u qa900 20) ≤ (ge u qa900 24 19) + (ge u qa900 27 19) + (ge u qa900 32 19))) G (fun u => va_pl Ls (cellOf cy K ln u)) A) (plainFor_of_name (by decide)) (Nat.le_of_ble_eq_true rfl) ?_
  intro p e s m below meth c hsz hx hb hr hml hown hT hlocks hin hK A hA hE hw hS ls hl
  have hw : PW G cy K ln Ls A hp0 s.heap := hw
  have hown : s.vm.findClass "LieClockModel" = some m.cls := hown
  have hl : lv_has ls 2 [(0, .ref qa900)] := hl
  obtain ⟨Q, hQ⟩ : ∃ Q : State → Prop, Q = MQ below (QBv (S := (Nat → Nat → Value)) (fun u : (Nat → Nat → Value) => Ok K u ∧ Fr [13011, 13013, 13014, 13015, 13016, 13020, 67000, 68000, 69000, 73000] K hp0 u ∧ (4*(gi u qa900 11) + (gi u qa900 13) ≥ 4*(gi hp0 qa900 11) + (gi hp0 qa900 13)) ∧ ((gi u qa900 13) ≥ (gi hp0 qa900 13)) ∧ ((gi u qa900 20) ≤ (ge u qa900 24 19) + (ge u qa900 27 19) + (ge u qa900 32 19))) G (fun u => va_pl Ls (cellOf cy K ln u)) A) ([.ref qa900] : List Value).toArray s 0 0 A := ⟨_, rfl⟩
  rw [← hQ]
  obtain ⟨qa2, eq1, kd3⟩ := rd_13032 ok0 kd900
  obtain ⟨zi5, eq4, bd6⟩ := rd_13019 ok0 kd900
  obtain ⟨zi8, eq7, bd9⟩ := rd_78000 ok0 kd3 ((zi5 : Int32).toNatClampNeg)
  obtain ⟨qa11, eq10, kd12⟩ := rd_13024 ok0 kd900
  obtain ⟨zi14, eq13, bd15⟩ := rd_70000 ok0 kd12 ((zi5 : Int32).toNatClampNeg)
  obtain ⟨zi17, eq16, bd18⟩ := rd_13013 ok0 kd900
  obtain ⟨zi20, eq19, bd21⟩ := rd_13020 ok0 kd900
  obtain ⟨zi23, eq22, bd24⟩ := rd_13011 ok0 kd900
  obtain ⟨qa26, eq25, kd27⟩ := rd_13027 ok0 kd900
  obtain ⟨zi29, eq28, bd30⟩ := rd_73000 ok0 kd27 ((zi5 : Int32).toNatClampNeg)
  have rq0 := rp0
  simp only [ge_of eq1 eq4 eq7, ge_of eq10 eq4 eq13, gi_of eq19, ge_of eq25 eq4 eq28] at rq0
  have rq1 := rp1
  simp only [ge_of eq25 eq4 eq28] at rq1
  have bd31 : (0 : Int) ≤ zi29.toInt ∧ zi29.toInt ≤ 5 := (by omega)
  refine lv_aload_n hx hb dX12_tellWitness_0 rfl (lv_at hl 0 rfl) ?_
  refine kq_i hw hS hA (va_runV (As := []) (rest := []) ⟨hx, hb, hml, hown, hT⟩ (cX12_named_0 l G cy ev K ln Ls hW _ hp0 ok0 qa900 kd900) (cwV 0 hT (good_V tb_1647 tb_1644 tb_1646 tb_58 tb_122) rfl rfl rfl (by decide +kernel) ⟨Nat.le_of_ble_eq_true rfl, Nat.le_of_ble_eq_true rfl⟩) (pool_preV (ci := 12) hK hE hS hA hw hW kd900 (by decide) rfl) rfl rfl hl.1 rfl (lv_room (Nat.le_of_ble_eq_true rfl)) dX12_tellWitness_1 ⟨Nat.le_of_ble_eq_true rfl, Nat.le_of_ble_eq_true rfl⟩) (fun zi36 hp32 H locs hq35 hw hS => ?_)
  obtain ⟨ok33, F34, bd37, rh38, rh39, rh40⟩ := hq35
  have hw : PW G cy K ln Ls A hp32 H := hw
  obtain ⟨zi42, eq41, bd43⟩ := rd_13013 ok33 kd900
  obtain ⟨zi45, eq44, bd46⟩ := rd_13011 ok33 kd900
  simp only [gi_of eq16, gi_of eq22, gi_of eq41, gi_of eq44] at rh38
  simp only [gi_of eq16, gi_of eq41] at rh39
  simp only [gi_of eq22, gi_of eq41, gi_of eq44] at rh40
  refine lv_istore_n (lv' := [(1, .int zi36), (0, .ref qa900)]) hx hb dX12_tellWitness_4 rfl hl (by decide) rfl (fun ls hl => ?_)
  refine lv_aload_n hx hb dX12_tellWitness_5 rfl (lv_at hl 1 rfl) ?_
  refine lv_iconst (v := 4) hx hb dX12_tellWitness_6 (by decide) ?_
  refine kq_v hw hS hA (va_runV (As := [.int 4]) (rest := []) ⟨hx, hb, hml, hown, hT⟩ (cX12_must_0 l G cy ev K ln Ls hW _ hp32 ok33 qa900 4 kd900) (cwV 1 hT (good_V tb_1651 tb_1648 tb_1650 tb_59 tb_122) rfl rfl rfl (by decide +kernel) ⟨Nat.le_of_ble_eq_true rfl, Nat.le_of_ble_eq_true rfl⟩) (pool_preV (ci := 12) hK hE hS hA hw hW kd900 (by decide) rfl) rfl rfl hl.1 rfl (lv_room (Nat.le_of_ble_eq_true rfl)) dX12_tellWitness_7 ⟨Nat.le_of_ble_eq_true rfl, Nat.le_of_ble_eq_true rfl⟩) (fun hp47 H locs hq50 hw hS => ?_)
  obtain ⟨ok48, F49, rh52, rh53, rh54⟩ := hq50
  have hw : PW G cy K ln Ls A hp47 H := hw
  obtain ⟨zi56, eq55, bd57⟩ := rd_13013 ok48 kd900
  obtain ⟨zi59, eq58, bd60⟩ := rd_13011 ok48 kd900
  simp only [gi_of eq41, gi_of eq44, gi_of eq55, gi_of eq58] at rh52
  simp only [gi_of eq41, gi_of eq55] at rh53
  simp only [gi_of eq44, gi_of eq55, gi_of eq58] at rh54
  refine lv_aload_n hx hb dX12_tellWitness_10 rfl (lv_at hl 1 rfl) ?_
  refine p_get (ci := 12) (v := .int zi56) (C := RX12) (T := TX12) (N := 69) hx hb hT iw_X12 hown hK hw hW kd900 (by decide) rfl rfl 13 (by decide) eq55 (hT _ tb_1387) (fun _ h9 => h9) dX12_tellWitness_11 ?_
  have eq62 : hp47 qa900 20 = .int zi20 := Eq.trans (Fr.at (cq := 13020) F49 kd900 (cd_o (by decide)) (by decide)) (Eq.trans (Fr.at (cq := 13020) F34 kd900 (cd_o (by decide)) (by decide)) eq19)
  have eq63 : hp47 qa900 24 = .ref qa11 := Eq.trans (Fr.at (cq := 13024) F49 kd900 (cd_o (by decide)) (by decide)) (Eq.trans (Fr.at (cq := 13024) F34 kd900 (cd_o (by decide)) (by decide)) eq10)
  have eq64 : hp47 qa900 19 = .int zi5 := Eq.trans (Fr.at (cq := 13019) F49 kd900 (cd_o (by decide)) (by decide)) (Eq.trans (Fr.at (cq := 13019) F34 kd900 (cd_o (by decide)) (by decide)) eq4)
  have eq65 : hp47 qa11 (zi5 : Int32).toNatClampNeg = .int zi14 := Eq.trans (Fr.at (cq := 70000) F49 kd12 (cd_a (by decide)) (by decide)) (Eq.trans (Fr.at (cq := 70000) F34 kd12 (cd_a (by decide)) (by decide)) eq13)
  have eq66 : hp47 qa900 27 = .ref qa26 := Eq.trans (Fr.at (cq := 13027) F49 kd900 (cd_o (by decide)) (by decide)) (Eq.trans (Fr.at (cq := 13027) F34 kd900 (cd_o (by decide)) (by decide)) eq25)
  have eq67 : hp47 qa26 (zi5 : Int32).toNatClampNeg = .int zi29 := Eq.trans (Fr.at (cq := 73000) F49 kd27 (cd_a (by decide)) (by decide)) (Eq.trans (Fr.at (cq := 73000) F34 kd27 (cd_a (by decide)) (by decide)) eq28)
  have eq68 : hp47 qa900 32 = .ref qa2 := Eq.trans (Fr.at (cq := 13032) F49 kd900 (cd_o (by decide)) (by decide)) (Eq.trans (Fr.at (cq := 13032) F34 kd900 (cd_o (by decide)) (by decide)) eq1)
  have eq69 : hp47 qa2 (zi5 : Int32).toNatClampNeg = .int zi8 := Eq.trans (Fr.at (cq := 78000) F49 kd3 (cd_a (by decide)) (by decide)) (Eq.trans (Fr.at (cq := 78000) F34 kd3 (cd_a (by decide)) (by decide)) eq7)
  refine lv_if_le (tgt := 18) hx hb dX12_tellWitness_14 (by decide) (fun cn61 => ?_) (fun cn61 => ?_)
  · skip
    have bd70 : (0 : Int) ≤ zi56.toInt ∧ zi56.toInt ≤ 0 := r_le_x cn61 bd57 bc_0 (by decide) (by decide)
    have bd71 : (0 : Int) ≤ zi20.toInt ∧ zi20.toInt ≤ 19 := (by omega)
    refine lv_aload_n hx hb dX12_tellWitness_18 rfl (lv_at hl 1 rfl) ?_
    refine lv_iload_n hx hb dX12_tellWitness_19 rfl (lv_at hl 0 rfl) ?_
    refine lv_iconst (v := 1) hx hb dX12_tellWitness_20 (by decide) ?_
    refine lv_aload_n hx hb dX12_tellWitness_21 rfl (lv_at hl 1 rfl) ?_
    refine p_get (ci := 12) (v := .ref qa26) (C := RX12) (T := TX12) (N := 69) hx hb hT iw_X12 hown hK hw hW kd900 (by decide) rfl rfl 27 (by decide) eq66 (hT _ tb_1401) (fun _ h9 => h9) dX12_tellWitness_22 ?_
    refine lv_aload_n hx hb dX12_tellWitness_25 rfl (lv_at hl 1 rfl) ?_
    refine p_get (ci := 12) (v := .int zi5) (C := RX12) (T := TX12) (N := 69) hx hb hT iw_X12 hown hK hw hW kd900 (by decide) rfl rfl 19 (by decide) eq64 (hT _ tb_1393) (fun _ h9 => h9) dX12_tellWitness_26 ?_
    refine p_iald (v := zi29) hx hb hK hw hW kd27 (by decide) rfl (hW.len kd27 (n := 2) rfl (by decide)) (vp_b bd6 (by decide) (by decide)) eq67 dX12_tellWitness_29 ?_
    refine kq_v hw hS hA (va_runV (As := [.int zi36, .int 1, .int zi29]) (rest := []) ⟨hx, hb, hml, hown, hT⟩ (cX12_notes_0 l G cy ev K ln Ls hW _ hp47 ok48 qa900 zi36 1 zi29 zi20 kd900 (b_wid2 bd37 (by decide) (by decide)) (b_wid2 bd31 (by decide) (by decide)) eq62 (b_wid2 bd71 (by decide) (by decide))) (cwV 3 hT (good_V tb_1659 tb_1656 tb_1658 tb_61 tb_122) rfl rfl rfl (by decide +kernel) ⟨Nat.le_of_ble_eq_true rfl, Nat.le_of_ble_eq_true rfl⟩) (pool_preV (ci := 12) hK hE hS hA hw hW kd900 (by decide) rfl) rfl rfl hl.1 rfl (lv_room (Nat.le_of_ble_eq_true rfl)) dX12_tellWitness_30 ⟨Nat.le_of_ble_eq_true rfl, Nat.le_of_ble_eq_true rfl⟩) (fun hp72 H locs hq75 hw hS => ?_)
    obtain ⟨ok73, F74, ⟨zi77, eq78, bd79⟩, rh80⟩ := hq75
    have hw : PW G cy K ln Ls A hp72 H := hw
    simp only [gi_of eq62, gi_of eq78] at rh80
    refine lv_aload_n hx hb dX12_tellWitness_33 rfl (lv_at hl 1 rfl) ?_
    have eq81 : hp72 qa900 27 = .ref qa26 := Eq.trans (Fr.at (cq := 13027) F74 kd900 (cd_o (by decide)) (by decide)) eq66
    refine p_get (ci := 12) (v := .ref qa26) (C := RX12) (T := TX12) (N := 69) hx hb hT iw_X12 hown hK hw hW kd900 (by decide) rfl rfl 27 (by decide) eq81 (hT _ tb_1401) (fun _ h9 => h9) dX12_tellWitness_34 ?_
    refine lv_aload_n hx hb dX12_tellWitness_37 rfl (lv_at hl 1 rfl) ?_
    have eq82 : hp72 qa900 19 = .int zi5 := Eq.trans (Fr.at (cq := 13019) F74 kd900 (cd_o (by decide)) (by decide)) eq64
    refine p_get (ci := 12) (v := .int zi5) (C := RX12) (T := TX12) (N := 69) hx hb hT iw_X12 hown hK hw hW kd900 (by decide) rfl rfl 19 (by decide) eq82 (hT _ tb_1393) (fun _ h9 => h9) dX12_tellWitness_38 ?_
    refine lv_dup2_11 hx hb dX12_tellWitness_41 rfl rfl ?_
    have eq83 : hp72 qa26 (zi5 : Int32).toNatClampNeg = .int zi29 := Eq.trans (Fr.at (cq := 73000) F74 kd27 (cd_a (by decide)) (by decide)) eq67
    refine p_iald (v := zi29) hx hb hK hw hW kd27 (by decide) rfl (hW.len kd27 (n := 2) rfl (by decide)) (vp_b bd6 (by decide) (by decide)) eq83 dX12_tellWitness_42 ?_
    refine lv_iconst (v := 1) hx hb dX12_tellWitness_43 (by decide) ?_
    refine lv_iadd hx hb dX12_tellWitness_44 (lv_topi (fun zi84 ea85 => ?_))
    have bd86 : (1 : Int) ≤ zi84.toInt ∧ zi84.toInt ≤ 6 := b_iadd ea85 bd31 bc_1 (by decide) (by decide) (by decide) (by decide)
    have qe87 : zi84.toInt = (zi29 : Int32).toInt + (1 : Int32).toInt := e_iadd ea85 bd31 bc_1 (by decide) (by decide)
    have qe88 : zi84.toInt = zi29.toInt + 1 := by have ha : (1 : Int32).toInt = 1 := (by decide); rw [ha] at qe87; exact qe87
    refine p_iast (x := zi84) hx hb hK hw hS hW kd27 (by decide) rfl (hW.len kd27 (n := 2) rfl (by decide)) (vp_b bd6 (by decide) (by decide)) dX12_tellWitness_45 (fun hp89 eh90 H locs hw hS => ?_)
    have ok91 := wr_73000 bd86 (by decide) (by decide) ok73 kd27 eh90
    have eq92 : hp89 qa900 13 = .int zi56 := Eq.trans (up_at eh90 (Or.inl (kd_ne kd900 kd27 (by decide)))) (Eq.trans (Fr.at (cq := 13013) F74 kd900 (cd_o (by decide)) (by decide)) eq55)
    have eq93 : hp89 qa900 11 = .int zi59 := Eq.trans (up_at eh90 (Or.inl (kd_ne kd900 kd27 (by decide)))) (Eq.trans (Fr.at (cq := 13011) F74 kd900 (cd_o (by decide)) (by decide)) eq58)
    have eq94 : hp89 qa900 32 = .ref qa2 := Eq.trans (up_at eh90 (Or.inl (kd_ne kd900 kd27 (by decide)))) (Eq.trans (Fr.at (cq := 13032) F74 kd900 (cd_o (by decide)) (by decide)) eq68)
    have eq95 : hp89 qa900 19 = .int zi5 := Eq.trans (up_at eh90 (Or.inl (kd_ne kd900 kd27 (by decide)))) eq82
    have eq96 : hp89 qa2 (zi5 : Int32).toNatClampNeg = .int zi8 := Eq.trans (up_at eh90 (Or.inl (kd_ne kd3 kd27 (by decide)))) (Eq.trans (Fr.at (cq := 78000) F74 kd3 (cd_a (by decide)) (by decide)) eq69)
    have eq97 : hp89 qa900 24 = .ref qa11 := Eq.trans (up_at eh90 (Or.inl (kd_ne kd900 kd27 (by decide)))) (Eq.trans (Fr.at (cq := 13024) F74 kd900 (cd_o (by decide)) (by decide)) eq63)
    have eq98 : hp89 qa11 (zi5 : Int32).toNatClampNeg = .int zi14 := Eq.trans (up_at eh90 (Or.inl (kd_ne kd12 kd27 (by decide)))) (Eq.trans (Fr.at (cq := 70000) F74 kd12 (cd_a (by decide)) (by decide)) eq65)
    have eq99 : hp89 qa900 20 = .int zi77 := Eq.trans (up_at eh90 (Or.inl (kd_ne kd900 kd27 (by decide)))) eq78
    have eq100 : hp89 qa900 27 = .ref qa26 := Eq.trans (up_at eh90 (Or.inl (kd_ne kd900 kd27 (by decide)))) eq81
    rw [hQ]
    exact kz_v hx hb hr hlocks hS hp89 hw ⟨ok91, (Fr.put (cq := 73000) (Fr.tr (Fr.tr (Fr.tr (Fr.rf) F34 (by decide)) F49 (by decide)) F74 (by decide)) eh90 kd27 (cd_a (by decide)) (by decide)), (by simp only [gi_of eq16, gi_of eq22, gi_of eq92, gi_of eq93]; omega), (by simp only [gi_of eq16, gi_of eq92]; omega), (by simp only [ge_of eq100 eq95 (hp_self eh90), ge_of eq94 eq95 eq96, ge_of eq97 eq95 eq98, gi_of eq99]; omega)⟩ (Nat.le_of_ble_eq_true rfl) (Nat.le_of_ble_eq_true rfl) dX12_tellWitness_46
  · skip
    have bd101 : (1 : Int) ≤ zi56.toInt ∧ zi56.toInt ≤ 2 := r_lt_y (Int32.not_le.mp cn61) bc_0 bd57 (by decide) (by decide)
    rw [hQ]
    exact kz_v hx hb hr hlocks hS hp47 hw ⟨ok48, (Fr.tr (Fr.tr (Fr.rf) F34 (by decide)) F49 (by decide)), (by simp only [gi_of eq16, gi_of eq22, gi_of eq55, gi_of eq58]; omega), (by simp only [gi_of eq16, gi_of eq55]; omega), (by simp only [ge_of eq63 eq64 eq65, ge_of eq66 eq64 eq67, ge_of eq68 eq64 eq69, gi_of eq62]; omega)⟩ (Nat.le_of_ble_eq_true rfl) (Nat.le_of_ble_eq_true rfl) dX12_tellWitness_17

set_option maxRecDepth 100000 in
set_option maxHeartbeats 4000000 in
theorem cX12_roomFor_1 (l : Launch) (G : va_G) (cy : Nat → ClassId) (ev : Ew) (K ln : Nat → Nat) (Ls : List Nat) (hW : SW K ln Ls) (sz : Nat) (hp0 : Nat → Nat → Value) (ok0 : Ok K hp0) (qa900 : Nat) (zi901 : Int32) (zi902 : Int32) (kd900 : K qa900 = 13) (bd901 : ((0 : Int) ≤ zi901.toInt ∧ zi901.toInt ≤ 16)) (bd902 : ((16 : Int) ≤ zi902.toInt ∧ zi902.toInt ≤ 16)) : Met l yX12_roomFor (WS yX12_roomFor cX12_roomFor 3 none) { frames := 2, cells := 0, slots := 0, locals := 41 } (PB2 [.ref qa900, .int zi901, .int zi902] sz G cy ev (va_pl Ls (cellOf cy K ln hp0))) (QBv (S := (Nat → Nat → Value)) (fun u : (Nat → Nat → Value) => Ok K u ∧ Fr [13011, 13013, 13014] K hp0 u ∧ (4*(gi u qa900 11) + (gi u qa900 13) ≥ 4*(gi hp0 qa900 11) + (gi hp0 qa900 13)) ∧ ((gi u qa900 13) ≥ (gi hp0 qa900 13)) ∧ (4*(gi u qa900 11) + (gi u qa900 13) ≥ 4*(gi hp0 qa900 11) + 1) ∧ ((zi901 : Int32).toInt ≤ (zi902 : Int32).toInt - 1 + (gi u qa900 13))) G (fun u => va_pl Ls (cellOf cy K ln u)) (va_A (va_pl Ls (cellOf cy K ln hp0)) sz)) 0 0 (va_A (va_pl Ls (cellOf cy K ln hp0)) sz) := by
  refine met_of2 (y := yX12_roomFor) (L := 3) (av := [.ref qa900, .int zi901, .int zi902]) (Qc := fun A => QBv (S := (Nat → Nat → Value)) (fun u : (Nat → Nat → Value) => Ok K u ∧ Fr [13011, 13013, 13014] K hp0 u ∧ (4*(gi u qa900 11) + (gi u qa900 13) ≥ 4*(gi hp0 qa900 11) + (gi hp0 qa900 13)) ∧ ((gi u qa900 13) ≥ (gi hp0 qa900 13)) ∧ (4*(gi u qa900 11) + (gi u qa900 13) ≥ 4*(gi hp0 qa900 11) + 1) ∧ ((zi901 : Int32).toInt ≤ (zi902 : Int32).toInt - 1 + (gi u qa900 13))) G (fun u => va_pl Ls (cellOf cy K ln u)) A) (plainFor_of_name (by decide)) (Nat.le_of_ble_eq_true rfl) ?_
  intro p e s m below meth c hsz hx hb hr hml hown hT hlocks hin hK A hA hE hw hS ls hl
  have hw : PW G cy K ln Ls A hp0 s.heap := hw
  have hown : s.vm.findClass "LieClockModel" = some m.cls := hown
  have hl : lv_has ls 3 [(0, .ref qa900), (1, .int zi901), (2, .int zi902)] := hl
  obtain ⟨Q, hQ⟩ : ∃ Q : State → Prop, Q = MQ below (QBv (S := (Nat → Nat → Value)) (fun u : (Nat → Nat → Value) => Ok K u ∧ Fr [13011, 13013, 13014] K hp0 u ∧ (4*(gi u qa900 11) + (gi u qa900 13) ≥ 4*(gi hp0 qa900 11) + (gi hp0 qa900 13)) ∧ ((gi u qa900 13) ≥ (gi hp0 qa900 13)) ∧ (4*(gi u qa900 11) + (gi u qa900 13) ≥ 4*(gi hp0 qa900 11) + 1) ∧ ((zi901 : Int32).toInt ≤ (zi902 : Int32).toInt - 1 + (gi u qa900 13))) G (fun u => va_pl Ls (cellOf cy K ln u)) A) ([.ref qa900, .int zi901, .int zi902] : List Value).toArray s 0 0 A := ⟨_, rfl⟩
  rw [← hQ]
  obtain ⟨zi2, eq1, bd3⟩ := rd_13013 ok0 kd900
  obtain ⟨zi5, eq4, bd6⟩ := rd_13011 ok0 kd900
  refine lv_iload_n hx hb dX12_roomFor_0 rfl (lv_at hl 1 rfl) ?_
  refine lv_iload_n hx hb dX12_roomFor_1 rfl (lv_at hl 2 rfl) ?_
  have jn30 : ∀ (hp21 : Nat → Nat → Value) (zi25 : Int32) (H : Heap) (locs : List Loc) (ls : Array Slot), Ok K hp21 → Fr [13013, 13014] K hp0 hp21 → ((0 : Int) ≤ zi25.toInt ∧ zi25.toInt ≤ 2) → hp21 qa900 13 = .int zi25 → (4*zi5.toInt + zi25.toInt ≥ 4*zi5.toInt + zi2.toInt) → (zi25.toInt ≥ zi2.toInt) → (zi901.toInt ≤ zi902.toInt - 1 + zi25.toInt) → lv_has ls 3 [(0, .ref qa900)] → PW G cy K ln Ls A hp21 H → va_S A s.heap H locs → W p l e ({ frames := 2, cells := 0, slots := 0, locals := 41 } : Room) s m ([.ref qa900, .int zi901, .int zi902] : List Value).toArray below meth c H locs 0 0 Q (F0 m 10 ls []) := by
    intro hp21 zi25 H locs ls ok23 F22 bd29 eq24 rq26 rq27 rq28 hl hw hS
    refine lv_aload_n hx hb dX12_roomFor_10 rfl (lv_at hl 0 rfl) ?_
    refine p_get (ci := 12) (v := .int zi25) (C := RX12) (T := TX12) (N := 69) hx hb hT iw_X12 hown hK hw hW kd900 (by decide) rfl rfl 13 (by decide) eq24 (hT _ tb_1387) (fun _ h9 => h9) dX12_roomFor_11 ?_
    have eq32 : hp21 qa900 11 = .int zi5 := Eq.trans (Fr.at (cq := 13011) F22 kd900 (cd_o (by decide)) (by decide)) eq4
    refine lv_if_ne (tgt := 21) hx hb dX12_roomFor_14 (by decide) (fun cn31 => ?_) (fun cn31 => ?_)
    · skip
      have tf33 : (zi25 : Int32).toInt ≠ (0 : Int32).toInt := fun e => cn31 (Int32.toInt_inj.mp e)
      have := toi bc_0
      have bd34 : (1 : Int) ≤ zi25.toInt ∧ zi25.toInt ≤ 2 := r_ne_lo cn31 bd29 (toi bc_0) (by decide) (by decide)
      rw [hQ]
      exact kz_v hx hb hr hlocks hS hp21 hw ⟨ok23, (Fr.tr (Fr.rf) F22 (by decide)), (by simp only [gi_of eq1, gi_of eq24, gi_of eq32, gi_of eq4]; omega), (by simp only [gi_of eq1, gi_of eq24]; omega), (by simp only [gi_of eq24, gi_of eq32, gi_of eq4]; omega), (by simp only [gi_of eq24]; omega)⟩ (Nat.le_of_ble_eq_true rfl) (Nat.le_of_ble_eq_true rfl) dX12_roomFor_21
    · skip
      have bd35 : (0 : Int) ≤ zi25.toInt ∧ zi25.toInt ≤ 0 := r_eq_x cn31 bd29 bc_0 (by decide) (by decide)
      refine lv_aload_n hx hb dX12_roomFor_17 rfl (lv_at hl 0 rfl) ?_
      refine kq_v hw hS hA (va_runV (As := []) (rest := []) ⟨hx, hb, hml, hown, hT⟩ (cX12_goesOn_0 l G cy ev K ln Ls hW _ hp21 ok23 qa900 kd900) (cwV 0 hT (good_V tb_1639 tb_1636 tb_1638 tb_56 tb_122) rfl rfl rfl (by decide +kernel) ⟨Nat.le_of_ble_eq_true rfl, Nat.le_of_ble_eq_true rfl⟩) (pool_preV (ci := 12) hK hE hS hA hw hW kd900 (by decide) rfl) rfl rfl hl.1 rfl (lv_room (Nat.le_of_ble_eq_true rfl)) dX12_roomFor_18 ⟨Nat.le_of_ble_eq_true rfl, Nat.le_of_ble_eq_true rfl⟩) (fun hp36 H locs hq39 hw hS => ?_)
      obtain ⟨ok37, F38, ⟨zi41, eq42, bd43⟩, rh44, rh45, rh46⟩ := hq39
      have hw : PW G cy K ln Ls A hp36 H := hw
      obtain ⟨zi48, eq47, bd49⟩ := rd_13013 ok37 kd900
      simp only [gi_of eq24, gi_of eq32, gi_of eq42, gi_of eq47] at rh44
      simp only [gi_of eq24, gi_of eq47] at rh45
      simp only [gi_of eq32, gi_of eq42, gi_of eq47] at rh46
      rw [hQ]
      exact kz_v hx hb hr hlocks hS hp36 hw ⟨ok37, (Fr.tr (Fr.tr (Fr.rf) F22 (by decide)) F38 (by decide)), (by simp only [gi_of eq1, gi_of eq4, gi_of eq42, gi_of eq47]; omega), (by simp only [gi_of eq1, gi_of eq47]; omega), (by simp only [gi_of eq4, gi_of eq42, gi_of eq47]; omega), (by simp only [gi_of eq47]; omega)⟩ (Nat.le_of_ble_eq_true rfl) (Nat.le_of_ble_eq_true rfl) dX12_roomFor_21
  refine lv_icmp_ne (tgt := 10) hx hb dX12_roomFor_2 (by decide) (fun cn7 => ?_) (fun cn7 => ?_)
  · skip
    have tf50 : (zi901 : Int32).toInt ≠ (zi902 : Int32).toInt := fun e => cn7 (Int32.toInt_inj.mp e)
    have bd51 : (0 : Int) ≤ zi901.toInt ∧ zi901.toInt ≤ 15 := r_ne_hi cn7 bd901 (toi bd902) (by decide) (by decide)
    exact jn30 hp0 zi2 _ _ ls ok0 (Fr.rf) (b_wid2 bd3 (by decide) (by decide)) eq1 (by omega) (by omega) (by omega) (lv_sub hl [0] rfl) hw hS
  · skip
    have tf52 : zi901.toInt = zi902.toInt := congrArg Int32.toInt cn7
    have bd53 : (16 : Int) ≤ zi901.toInt ∧ zi901.toInt ≤ 16 := r_eq_x cn7 bd901 bd902 (by decide) (by decide)
    refine lv_aload_n hx hb dX12_roomFor_5 rfl (lv_at hl 0 rfl) ?_
    refine lv_iconst (v := 2) hx hb dX12_roomFor_6 (by decide) ?_
    refine kq_v hw hS hA (va_runV (As := [.int 2]) (rest := []) ⟨hx, hb, hml, hown, hT⟩ (cX12_fail_0 l G cy ev K ln Ls hW _ hp0 ok0 qa900 2 kd900 (b_wid2 bc_2 (by decide) (by decide))) (cwV 1 hT (good_V tb_1635 tb_1632 tb_1634 tb_55 tb_122) rfl rfl rfl (by decide +kernel) ⟨Nat.le_of_ble_eq_true rfl, Nat.le_of_ble_eq_true rfl⟩) (pool_preV (ci := 12) hK hE hS hA hw hW kd900 (by decide) rfl) rfl rfl hl.1 rfl (lv_room (Nat.le_of_ble_eq_true rfl)) dX12_roomFor_7 ⟨Nat.le_of_ble_eq_true rfl, Nat.le_of_ble_eq_true rfl⟩) (fun hp54 H locs hq57 hw hS => ?_)
    obtain ⟨ok55, F56, ⟨zi59, eq60, bd61⟩, rh62⟩ := hq57
    have hw : PW G cy K ln Ls A hp54 H := hw
    simp only [gi_of eq1, gi_of eq60] at rh62
    have eq63 : hp54 qa900 11 = .int zi5 := Eq.trans (Fr.at (cq := 13011) F56 kd900 (cd_o (by decide)) (by decide)) eq4
    exact jn30 hp54 zi59 _ _ ls ok55 (Fr.tr (Fr.rf) F56 (by decide)) (b_wid2 bd61 (by decide) (by decide)) eq60 (by omega) (by omega) (by omega) (lv_sub hl [0] rfl) hw hS

set_option maxRecDepth 100000 in
set_option maxHeartbeats 4000000 in
theorem cX12_known_0 (l : Launch) (G : va_G) (cy : Nat → ClassId) (ev : Ew) (K ln : Nat → Nat) (Ls : List Nat) (hW : SW K ln Ls) (sz : Nat) (hp0 : Nat → Nat → Value) (ok0 : Ok K hp0) (qa900 : Nat) (zi901 : Int32) (kd900 : K qa900 = 13) : Met l yX12_known (WS yX12_known cX12_known 4 (some .int)) { frames := 3, cells := 0, slots := 0, locals := 62 } (PB2 [.ref qa900, .int zi901] sz G cy ev (va_pl Ls (cellOf cy K ln hp0))) (QBi (S := (Nat → Nat → Value)) (fun (r : Int32) (u : (Nat → Nat → Value)) => Ok K u ∧ Fr [13011, 13013, 13014, 13015, 13016] K hp0 u ∧ ((-1 : Int) ≤ r.toInt ∧ r.toInt ≤ 7) ∧ (4*(gi u qa900 11) + (gi u qa900 13) ≥ 4*(gi hp0 qa900 11) + (gi hp0 qa900 13)) ∧ ((gi u qa900 13) ≥ (gi hp0 qa900 13)) ∧ (4*(gi u qa900 11) + (gi u qa900 13) ≥ 4*(gi hp0 qa900 11) + 1)) G (fun u => va_pl Ls (cellOf cy K ln u)) (va_A (va_pl Ls (cellOf cy K ln hp0)) sz)) 0 0 (va_A (va_pl Ls (cellOf cy K ln hp0)) sz) := by
  refine met_of2 (y := yX12_known) (L := 4) (av := [.ref qa900, .int zi901]) (Qc := fun A => QBi (S := (Nat → Nat → Value)) (fun (r : Int32) (u : (Nat → Nat → Value)) => Ok K u ∧ Fr [13011, 13013, 13014, 13015, 13016] K hp0 u ∧ ((-1 : Int) ≤ r.toInt ∧ r.toInt ≤ 7) ∧ (4*(gi u qa900 11) + (gi u qa900 13) ≥ 4*(gi hp0 qa900 11) + (gi hp0 qa900 13)) ∧ ((gi u qa900 13) ≥ (gi hp0 qa900 13)) ∧ (4*(gi u qa900 11) + (gi u qa900 13) ≥ 4*(gi hp0 qa900 11) + 1)) G (fun u => va_pl Ls (cellOf cy K ln u)) A) (plainFor_of_name (by decide)) (Nat.le_of_ble_eq_true rfl) ?_
  intro p e s m below meth c hsz hx hb hr hml hown hT hlocks hin hK A hA hE hw hS ls hl
  have hw : PW G cy K ln Ls A hp0 s.heap := hw
  have hown : s.vm.findClass "LieClockModel" = some m.cls := hown
  have hl : lv_has ls 4 [(0, .ref qa900), (1, .int zi901)] := hl
  obtain ⟨Q, hQ⟩ : ∃ Q : State → Prop, Q = MQ below (QBi (S := (Nat → Nat → Value)) (fun (r : Int32) (u : (Nat → Nat → Value)) => Ok K u ∧ Fr [13011, 13013, 13014, 13015, 13016] K hp0 u ∧ ((-1 : Int) ≤ r.toInt ∧ r.toInt ≤ 7) ∧ (4*(gi u qa900 11) + (gi u qa900 13) ≥ 4*(gi hp0 qa900 11) + (gi hp0 qa900 13)) ∧ ((gi u qa900 13) ≥ (gi hp0 qa900 13)) ∧ (4*(gi u qa900 11) + (gi u qa900 13) ≥ 4*(gi hp0 qa900 11) + 1)) G (fun u => va_pl Ls (cellOf cy K ln u)) A) ([.ref qa900, .int zi901] : List Value).toArray s 0 0 A := ⟨_, rfl⟩
  rw [← hQ]
  obtain ⟨zi2, eq1, bd3⟩ := rd_13013 ok0 kd900
  obtain ⟨zi5, eq4, bd6⟩ := rd_13011 ok0 kd900
  refine lv_aload_n hx hb dX12_known_0 rfl (lv_at hl 0 rfl) ?_
  refine p_get (ci := 12) (v := .int zi5) (C := RX12) (T := TX12) (N := 69) hx hb hT iw_X12 hown hK hw hW kd900 (by decide) rfl rfl 11 (by decide) eq4 (hT _ tb_1385) (fun _ h9 => h9) dX12_known_1 ?_
  refine lv_istore_n (lv' := [(2, .int zi5), (0, .ref qa900), (1, .int zi901)]) hx hb dX12_known_4 rfl hl (by decide) rfl (fun ls hl => ?_)
  refine lv_aload_n hx hb dX12_known_5 rfl (lv_at hl 1 rfl) ?_
  refine lv_iconst (v := 1) hx hb dX12_known_6 (by decide) ?_
  refine kq_v hw hS hA (va_runV (As := [.int 1]) (rest := []) ⟨hx, hb, hml, hown, hT⟩ (cX12_must_0 l G cy ev K ln Ls hW _ hp0 ok0 qa900 1 kd900) (cwV 1 hT (good_V tb_1651 tb_1648 tb_1650 tb_59 tb_122) rfl rfl rfl (by decide +kernel) ⟨Nat.le_of_ble_eq_true rfl, Nat.le_of_ble_eq_true rfl⟩) (pool_preV (ci := 12) hK hE hS hA hw hW kd900 (by decide) rfl) rfl rfl hl.1 rfl (lv_room (Nat.le_of_ble_eq_true rfl)) dX12_known_7 ⟨Nat.le_of_ble_eq_true rfl, Nat.le_of_ble_eq_true rfl⟩) (fun hp7 H locs hq10 hw hS => ?_)
  obtain ⟨ok8, F9, rh12, rh13, rh14⟩ := hq10
  have hw : PW G cy K ln Ls A hp7 H := hw
  obtain ⟨zi16, eq15, bd17⟩ := rd_13013 ok8 kd900
  obtain ⟨zi19, eq18, bd20⟩ := rd_13011 ok8 kd900
  simp only [gi_of eq1, gi_of eq15, gi_of eq18, gi_of eq4] at rh12
  simp only [gi_of eq1, gi_of eq15] at rh13
  simp only [gi_of eq15, gi_of eq18, gi_of eq4] at rh14
  refine lv_aload_n hx hb dX12_known_10 rfl (lv_at hl 1 rfl) ?_
  refine p_get (ci := 12) (v := .int zi16) (C := RX12) (T := TX12) (N := 69) hx hb hT iw_X12 hown hK hw hW kd900 (by decide) rfl rfl 13 (by decide) eq15 (hT _ tb_1387) (fun _ h9 => h9) dX12_known_11 ?_
  refine lv_if_le (tgt := 19) hx hb dX12_known_14 (by decide) (fun cn21 => ?_) (fun cn21 => ?_)
  · skip
    have bd22 : (0 : Int) ≤ zi16.toInt ∧ zi16.toInt ≤ 0 := r_le_x cn21 bd17 bc_0 (by decide) (by decide)
    refine lv_iconst (v := 0) hx hb dX12_known_19 (by decide) ?_
    refine lv_istore_n (lv' := [(3, .int 0), (2, .int zi5), (0, .ref qa900), (1, .int zi901)]) hx hb dX12_known_20 rfl hl (by decide) rfl (fun ls hl => ?_)
    have lp441 : ∀ (n439 : Nat) (zi333 : Int32) (H : Heap) (locs : List Loc) (ls : Array Slot), 24 - zi333.toInt < (n439 : Int) → ((0 : Int) ≤ zi333.toInt ∧ zi333.toInt ≤ 24) → lv_has ls 4 [(0, .ref qa900), (1, .int zi901), (2, .int zi5), (3, .int zi333)] → PW G cy K ln Ls A hp7 H → va_S A s.heap H locs → W p l e ({ frames := 3, cells := 0, slots := 0, locals := 62 } : Room) s m ([.ref qa900, .int zi901] : List Value).toArray below meth c H locs 0 0 Q (F0 m 21 ls []) := by
      intro n439
      induction n439 with
      | zero =>
        intro zi333 H locs ls hm442 bd334 hl hw hS
        exact absurd hm442 (by have := bd334; omega)
      | succ n439 ih440 =>
        intro zi333 H locs ls hm442 bd334 hl hw hS
        refine lv_iload_n hx hb dX12_known_21 rfl (lv_at hl 3 rfl) ?_
        refine lv_aload_n hx hb dX12_known_22 rfl (lv_at hl 0 rfl) ?_
        obtain ⟨zi444, eq443, bd445⟩ := rd_13020 ok8 kd900
        refine p_get (ci := 12) (v := .int zi444) (C := RX12) (T := TX12) (N := 69) hx hb hT iw_X12 hown hK hw hW kd900 (by decide) rfl rfl 20 (by decide) eq443 (hT _ tb_1394) (fun _ h9 => h9) dX12_known_23 ?_
        refine lv_icmp_ge (tgt := 68) hx hb dX12_known_26 (by decide) (fun cn446 => ?_) (fun cn446 => ?_)
        · skip
          have tf447 : zi444.toInt ≤ zi333.toInt := (fa_le _ _).mp cn446
          refine lv_aload_n hx hb dX12_known_68 rfl (lv_at hl 0 rfl) ?_
          refine lv_iconst (v := 4) hx hb dX12_known_69 (by decide) ?_
          refine lv_iload_n hx hb dX12_known_70 rfl (lv_at hl 2 rfl) ?_
          refine kq_v hw hS hA (va_runV (As := [.int 4, .int zi5]) (rest := []) ⟨hx, hb, hml, hown, hT⟩ (cX12_wrong_0 l G cy ev K ln Ls hW _ hp7 ok8 qa900 4 zi5 kd900 (b_wid2 bd6 (by decide) (by decide))) (cwV 2 hT (good_V tb_1655 tb_1652 tb_1654 tb_60 tb_122) rfl rfl rfl (by decide +kernel) ⟨Nat.le_of_ble_eq_true rfl, Nat.le_of_ble_eq_true rfl⟩) (pool_preV (ci := 12) hK hE hS hA hw hW kd900 (by decide) rfl) rfl rfl hl.1 rfl (lv_room (Nat.le_of_ble_eq_true rfl)) dX12_known_71 ⟨Nat.le_of_ble_eq_true rfl, Nat.le_of_ble_eq_true rfl⟩) (fun hp448 H locs hq451 hw hS => ?_)
          obtain ⟨ok449, F450⟩ := hq451
          have hw : PW G cy K ln Ls A hp448 H := hw
          refine lv_iconst (v := (-1)) hx hb dX12_known_74 (by decide) ?_
          have eq453 : hp448 qa900 13 = .int zi16 := Eq.trans (Fr.at (cq := 13013) F450 kd900 (cd_o (by decide)) (by decide)) eq15
          have eq454 : hp448 qa900 11 = .int zi19 := Eq.trans (Fr.at (cq := 13011) F450 kd900 (cd_o (by decide)) (by decide)) eq18
          rw [hQ]
          exact kz_i hx hb hr hlocks hS rfl hp448 hw ⟨ok449, (Fr.tr (Fr.tr (Fr.rf) F9 (by decide)) F450 (by decide)), (b_wid2 bc_m1 (by decide) (by decide)), (by simp only [gi_of eq1, gi_of eq4, gi_of eq453, gi_of eq454]; omega), (by simp only [gi_of eq1, gi_of eq453]; omega), (by simp only [gi_of eq4, gi_of eq453, gi_of eq454]; omega)⟩ (Nat.le_of_ble_eq_true rfl) (Nat.le_of_ble_eq_true rfl) dX12_known_75
        · skip
          have tf455 : zi333.toInt < zi444.toInt := (fa_lt _ _).mp (Int32.not_le.mp cn446)
          have bd456 : (0 : Int) ≤ zi333.toInt ∧ zi333.toInt ≤ 23 := r_lt_x (Int32.not_le.mp cn446) bd334 bd445 (by decide) (by decide)
          have bd457 : (1 : Int) ≤ zi444.toInt ∧ zi444.toInt ≤ 24 := r_lt_y (Int32.not_le.mp cn446) bd334 bd445 (by decide) (by decide)
          refine lv_aload_n hx hb dX12_known_29 rfl (lv_at hl 0 rfl) ?_
          obtain ⟨qa459, eq458, kd460⟩ := rd_13021 ok8 kd900
          refine p_get (ci := 12) (v := .ref qa459) (C := RX12) (T := TX12) (N := 69) hx hb hT iw_X12 hown hK hw hW kd900 (by decide) rfl rfl 21 (by decide) eq458 (hT _ tb_1395) (fun _ h9 => h9) dX12_known_30 ?_
          refine lv_iload_n hx hb dX12_known_33 rfl (lv_at hl 3 rfl) ?_
          obtain ⟨wl462, eq461⟩ := rd_67000 ok8 kd460 ((zi333 : Int32).toNatClampNeg)
          refine p_lald (v := wl462) hx hb hK hw hW kd460 (by decide) rfl (hW.len kd460 (n := 24) rfl (by decide)) (vp_b bd456 (by decide) (by decide)) eq461 dX12_known_34 ?_
          refine lv_aload_n hx hb dX12_known_35 rfl (lv_at hl 0 rfl) ?_
          obtain ⟨qa464, eq463, kd465⟩ := rd_13008 ok8 kd900
          refine p_get (ci := 12) (v := .ref qa464) (C := RX12) (T := TX12) (N := 69) hx hb hT iw_X12 hown hK hw hW kd900 (by decide) rfl rfl 8 (by decide) eq463 (hT _ tb_1382) (fun _ h9 => h9) dX12_known_36 ?_
          refine lv_iload_n hx hb dX12_known_39 rfl (lv_at hl 2 rfl) ?_
          obtain ⟨wl467, eq466⟩ := rd_65000 ok8 kd465 ((zi5 : Int32).toNatClampNeg)
          refine p_lald (v := wl467) hx hb hK hw hW kd465 (by decide) rfl (hW.len kd465 (n := 403) rfl (by decide)) (vp_b bd6 (by decide) (by decide)) eq466 dX12_known_40 ?_
          refine W.lcmp hx hb dX12_known_41 (lv_topi (fun zi468 ea469 => ?_))
          refine lv_if_ne (tgt := 62) hx hb dX12_known_42 (by decide) (fun cn470 => ?_) (fun cn470 => ?_)
          · skip
            have tf471 : (zi468 : Int32).toInt ≠ (0 : Int32).toInt := fun e => cn470 (Int32.toInt_inj.mp e)
            have := toi bc_0
            obtain ⟨zi472, ea473⟩ : ∃ z : Int32, z = zi333 + 1 := ⟨_, rfl⟩
            have bd474 : (1 : Int) ≤ zi472.toInt ∧ zi472.toInt ≤ 24 := b_iadd ea473 bd456 bc_1 (by decide) (by decide) (by decide) (by decide)
            have qe475 : zi472.toInt = (zi333 : Int32).toInt + (1 : Int32).toInt := e_iadd ea473 bd456 bc_1 (by decide) (by decide)
            have qe476 : zi472.toInt = zi333.toInt + 1 := by have ha : (1 : Int32).toInt = 1 := (by decide); rw [ha] at qe475; exact qe475
            refine lv_iinc (v := zi472) (lv' := [(3, .int zi472), (0, .ref qa900), (1, .int zi901), (2, .int zi5)]) hx hb dX12_known_62 hl (k := 3) rfl ea473.symm (by decide) rfl (fun ls hl => ?_)
            refine lv_goto (tgt := 21) hx hb dX12_known_65 (by decide) ?_
            exact ih440 zi472 _ _ ls (by have := hm442; have := qe476; omega) (b_wid2 bd474 (by decide) (by decide)) (lv_sub hl [1, 2, 3, 0] rfl) hw hS
          · skip
            have bd477 : (0 : Int) ≤ zi468.toInt ∧ zi468.toInt ≤ 0 := r_eq_x cn470 (b_all zi468) bc_0 (by decide) (by decide)
            refine lv_aload_n hx hb dX12_known_45 rfl (lv_at hl 0 rfl) ?_
            obtain ⟨qa479, eq478, kd480⟩ := rd_13022 ok8 kd900
            refine p_get (ci := 12) (v := .ref qa479) (C := RX12) (T := TX12) (N := 69) hx hb hT iw_X12 hown hK hw hW kd900 (by decide) rfl rfl 22 (by decide) eq478 (hT _ tb_1396) (fun _ h9 => h9) dX12_known_46 ?_
            refine lv_iload_n hx hb dX12_known_49 rfl (lv_at hl 3 rfl) ?_
            obtain ⟨zi482, eq481⟩ := rd_68000 ok8 kd480 ((zi333 : Int32).toNatClampNeg)
            refine p_iald (v := zi482) hx hb hK hw hW kd480 (by decide) rfl (hW.len kd480 (n := 24) rfl (by decide)) (vp_b bd456 (by decide) (by decide)) eq481 dX12_known_50 ?_
            refine lv_iload_n hx hb dX12_known_51 rfl (lv_at hl 1 rfl) ?_
            refine lv_icmp_ne (tgt := 62) hx hb dX12_known_52 (by decide) (fun cn483 => ?_) (fun cn483 => ?_)
            · skip
              have tf484 : (zi482 : Int32).toInt ≠ (zi901 : Int32).toInt := fun e => cn483 (Int32.toInt_inj.mp e)
              obtain ⟨zi485, ea486⟩ : ∃ z : Int32, z = zi333 + 1 := ⟨_, rfl⟩
              have bd487 : (1 : Int) ≤ zi485.toInt ∧ zi485.toInt ≤ 24 := b_iadd ea486 bd456 bc_1 (by decide) (by decide) (by decide) (by decide)
              have qe488 : zi485.toInt = (zi333 : Int32).toInt + (1 : Int32).toInt := e_iadd ea486 bd456 bc_1 (by decide) (by decide)
              have qe489 : zi485.toInt = zi333.toInt + 1 := by have ha : (1 : Int32).toInt = 1 := (by decide); rw [ha] at qe488; exact qe488
              refine lv_iinc (v := zi485) (lv' := [(3, .int zi485), (0, .ref qa900), (1, .int zi901), (2, .int zi5)]) hx hb dX12_known_62 hl (k := 3) rfl ea486.symm (by decide) rfl (fun ls hl => ?_)
              refine lv_goto (tgt := 21) hx hb dX12_known_65 (by decide) ?_
              exact ih440 zi485 _ _ ls (by have := hm442; have := qe489; omega) (b_wid2 bd487 (by decide) (by decide)) (lv_sub hl [1, 2, 3, 0] rfl) hw hS
            · skip
              have tf490 : zi482.toInt = zi901.toInt := congrArg Int32.toInt cn483
              refine lv_aload_n hx hb dX12_known_55 rfl (lv_at hl 0 rfl) ?_
              obtain ⟨qa492, eq491, kd493⟩ := rd_13023 ok8 kd900
              refine p_get (ci := 12) (v := .ref qa492) (C := RX12) (T := TX12) (N := 69) hx hb hT iw_X12 hown hK hw hW kd900 (by decide) rfl rfl 23 (by decide) eq491 (hT _ tb_1397) (fun _ h9 => h9) dX12_known_56 ?_
              refine lv_iload_n hx hb dX12_known_59 rfl (lv_at hl 3 rfl) ?_
              obtain ⟨zi495, eq494, bd496⟩ := rd_69000 ok8 kd493 ((zi333 : Int32).toNatClampNeg)
              refine p_iald (v := zi495) hx hb hK hw hW kd493 (by decide) rfl (hW.len kd493 (n := 24) rfl (by decide)) (vp_b bd456 (by decide) (by decide)) eq494 dX12_known_60 ?_
              rw [hQ]
              exact kz_i hx hb hr hlocks hS rfl hp7 hw ⟨ok8, (Fr.tr (Fr.rf) F9 (by decide)), (b_wid2 bd496 (by decide) (by decide)), (by simp only [gi_of eq1, gi_of eq15, gi_of eq18, gi_of eq4]; omega), (by simp only [gi_of eq1, gi_of eq15]; omega), (by simp only [gi_of eq15, gi_of eq18, gi_of eq4]; omega)⟩ (Nat.le_of_ble_eq_true rfl) (Nat.le_of_ble_eq_true rfl) dX12_known_61
    exact lp441 _ 0 _ _ ls (lp_in _) (b_wid2 bc_0 (by decide) (by decide)) (lv_sub hl [2, 3, 1, 0] rfl) hw hS
  · skip
    have bd497 : (1 : Int) ≤ zi16.toInt ∧ zi16.toInt ≤ 2 := r_lt_y (Int32.not_le.mp cn21) bc_0 bd17 (by decide) (by decide)
    refine lv_iconst (v := (-1)) hx hb dX12_known_17 (by decide) ?_
    rw [hQ]
    exact kz_i hx hb hr hlocks hS rfl hp7 hw ⟨ok8, (Fr.tr (Fr.rf) F9 (by decide)), (b_wid2 bc_m1 (by decide) (by decide)), (by simp only [gi_of eq1, gi_of eq15, gi_of eq18, gi_of eq4]; omega), (by simp only [gi_of eq1, gi_of eq15]; omega), (by simp only [gi_of eq15, gi_of eq18, gi_of eq4]; omega)⟩ (Nat.le_of_ble_eq_true rfl) (Nat.le_of_ble_eq_true rfl) dX12_known_18

set_option maxRecDepth 100000 in
set_option maxHeartbeats 4000000 in
theorem cX12_opensCondition_0 (l : Launch) (G : va_G) (cy : Nat → ClassId) (ev : Ew) (K ln : Nat → Nat) (Ls : List Nat) (hW : SW K ln Ls) (sz : Nat) (hp0 : Nat → Nat → Value) (ok0 : Ok K hp0) (qa900 : Nat) (kd900 : K qa900 = 13) : Met l yX12_opensCondition (WS yX12_opensCondition cX12_opensCondition 1 none) { frames := 0, cells := 0, slots := 0, locals := 0 } (PB2 [.ref qa900] sz G cy ev (va_pl Ls (cellOf cy K ln hp0))) (QBv (S := (Nat → Nat → Value)) (fun u : (Nat → Nat → Value) => Ok K u ∧ Fr [86000, 87000] K hp0 u) G (fun u => va_pl Ls (cellOf cy K ln u)) (va_A (va_pl Ls (cellOf cy K ln hp0)) sz)) 0 0 (va_A (va_pl Ls (cellOf cy K ln hp0)) sz) := by
  refine met_of2 (y := yX12_opensCondition) (L := 1) (av := [.ref qa900]) (Qc := fun A => QBv (S := (Nat → Nat → Value)) (fun u : (Nat → Nat → Value) => Ok K u ∧ Fr [86000, 87000] K hp0 u) G (fun u => va_pl Ls (cellOf cy K ln u)) A) (plainFor_of_name (by decide)) (Nat.le_of_ble_eq_true rfl) ?_
  intro p e s m below meth c hsz hx hb hr hml hown hT hlocks hin hK A hA hE hw hS ls hl
  have hw : PW G cy K ln Ls A hp0 s.heap := hw
  have hown : s.vm.findClass "LieClockModel" = some m.cls := hown
  have hl : lv_has ls 1 [(0, .ref qa900)] := hl
  obtain ⟨Q, hQ⟩ : ∃ Q : State → Prop, Q = MQ below (QBv (S := (Nat → Nat → Value)) (fun u : (Nat → Nat → Value) => Ok K u ∧ Fr [86000, 87000] K hp0 u) G (fun u => va_pl Ls (cellOf cy K ln u)) A) ([.ref qa900] : List Value).toArray s 0 0 A := ⟨_, rfl⟩
  rw [← hQ]
  refine lv_aload_n hx hb dX12_opensCondition_0 rfl (lv_at hl 0 rfl) ?_
  obtain ⟨qa2, eq1, kd3⟩ := rd_13041 ok0 kd900
  refine p_get (ci := 12) (v := .ref qa2) (C := RX12) (T := TX12) (N := 69) hx hb hT iw_X12 hown hK hw hW kd900 (by decide) rfl rfl 41 (by decide) eq1 (hT _ tb_1415) (fun _ h9 => h9) dX12_opensCondition_1 ?_
  refine lv_aload_n hx hb dX12_opensCondition_4 rfl (lv_at hl 0 rfl) ?_
  obtain ⟨zi5, eq4, bd6⟩ := rd_13012 ok0 kd900
  refine p_get (ci := 12) (v := .int zi5) (C := RX12) (T := TX12) (N := 69) hx hb hT iw_X12 hown hK hw hW kd900 (by decide) rfl rfl 12 (by decide) eq4 (hT _ tb_1386) (fun _ h9 => h9) dX12_opensCondition_5 ?_
  refine lv_lconst (v := 0) hx hb dX12_opensCondition_8 (by decide) ?_
  refine p_last (x := 0) hx hb hK hw hS hW kd3 (by decide) rfl (hW.len kd3 (n := 8) rfl (by decide)) (vp_b bd6 (by decide) (by decide)) dX12_opensCondition_9 (fun hp7 eh8 H locs hw hS => ?_)
  have ok9 := wr_86000 ok0 kd3 eh8
  refine lv_aload_n hx hb dX12_opensCondition_10 rfl (lv_at hl 0 rfl) ?_
  obtain ⟨qa11, eq10, kd12⟩ := rd_13042 ok9 kd900
  refine p_get (ci := 12) (v := .ref qa11) (C := RX12) (T := TX12) (N := 69) hx hb hT iw_X12 hown hK hw hW kd900 (by decide) rfl rfl 42 (by decide) eq10 (hT _ tb_1416) (fun _ h9 => h9) dX12_opensCondition_11 ?_
  refine lv_aload_n hx hb dX12_opensCondition_14 rfl (lv_at hl 0 rfl) ?_
  have eq13 : hp7 qa900 12 = .int zi5 := Eq.trans (up_at eh8 (Or.inl (kd_ne kd900 kd3 (by decide)))) eq4
  refine p_get (ci := 12) (v := .int zi5) (C := RX12) (T := TX12) (N := 69) hx hb hT iw_X12 hown hK hw hW kd900 (by decide) rfl rfl 12 (by decide) eq13 (hT _ tb_1386) (fun _ h9 => h9) dX12_opensCondition_15 ?_
  refine lv_ldc2 (v := (-1)) hx hb hown (hT _ tb_1680) dX12_opensCondition_18 ?_
  refine p_last (x := (-1)) hx hb hK hw hS hW kd12 (by decide) rfl (hW.len kd12 (n := 8) rfl (by decide)) (vp_b bd6 (by decide) (by decide)) dX12_opensCondition_21 (fun hp14 eh15 H locs hw hS => ?_)
  have ok16 := wr_87000 ok9 kd12 eh15
  rw [hQ]
  exact kz_v hx hb hr hlocks hS hp14 hw ⟨ok16, (Fr.put (cq := 87000) (Fr.put (cq := 86000) (Fr.rf) eh8 kd3 (cd_a (by decide)) (by decide)) eh15 kd12 (cd_a (by decide)) (by decide))⟩ (Nat.le_of_ble_eq_true rfl) (Nat.le_of_ble_eq_true rfl) dX12_opensCondition_22

set_option maxRecDepth 100000 in
set_option maxHeartbeats 4000000 in
theorem cX12_nots_0 (l : Launch) (G : va_G) (cy : Nat → ClassId) (ev : Ew) (K ln : Nat → Nat) (Ls : List Nat) (hW : SW K ln Ls) (sz : Nat) (hp0 : Nat → Nat → Value) (ok0 : Ok K hp0) (qa900 : Nat) (kd900 : K qa900 = 13) : Met l yX12_nots (WS yX12_nots cX12_nots 1 none) { frames := 2, cells := 0, slots := 0, locals := 41 } (PB2 [.ref qa900] sz G cy ev (va_pl Ls (cellOf cy K ln hp0))) (QBv (S := (Nat → Nat → Value)) (fun u : (Nat → Nat → Value) => Ok K u ∧ Fr [13011, 13013, 13014, 88000] K hp0 u ∧ (4*(gi u qa900 11) + (gi u qa900 13) ≥ 4*(gi hp0 qa900 11) + (gi hp0 qa900 13)) ∧ ((gi u qa900 13) ≥ (gi hp0 qa900 13))) G (fun u => va_pl Ls (cellOf cy K ln u)) (va_A (va_pl Ls (cellOf cy K ln hp0)) sz)) 0 0 (va_A (va_pl Ls (cellOf cy K ln hp0)) sz) := by
  refine met_of2 (y := yX12_nots) (L := 1) (av := [.ref qa900]) (Qc := fun A => QBv (S := (Nat → Nat → Value)) (fun u : (Nat → Nat → Value) => Ok K u ∧ Fr [13011, 13013, 13014, 88000] K hp0 u ∧ (4*(gi u qa900 11) + (gi u qa900 13) ≥ 4*(gi hp0 qa900 11) + (gi hp0 qa900 13)) ∧ ((gi u qa900 13) ≥ (gi hp0 qa900 13))) G (fun u => va_pl Ls (cellOf cy K ln u)) A) (plainFor_of_name (by decide)) (Nat.le_of_ble_eq_true rfl) ?_
  intro p e s m below meth c hsz hx hb hr hml hown hT hlocks hin hK A hA hE hw hS ls hl
  have hw : PW G cy K ln Ls A hp0 s.heap := hw
  have hown : s.vm.findClass "LieClockModel" = some m.cls := hown
  have hl : lv_has ls 1 [(0, .ref qa900)] := hl
  obtain ⟨Q, hQ⟩ : ∃ Q : State → Prop, Q = MQ below (QBv (S := (Nat → Nat → Value)) (fun u : (Nat → Nat → Value) => Ok K u ∧ Fr [13011, 13013, 13014, 88000] K hp0 u ∧ (4*(gi u qa900 11) + (gi u qa900 13) ≥ 4*(gi hp0 qa900 11) + (gi hp0 qa900 13)) ∧ ((gi u qa900 13) ≥ (gi hp0 qa900 13))) G (fun u => va_pl Ls (cellOf cy K ln u)) A) ([.ref qa900] : List Value).toArray s 0 0 A := ⟨_, rfl⟩
  rw [← hQ]
  obtain ⟨zi2, eq1, bd3⟩ := rd_13013 ok0 kd900
  obtain ⟨zi5, eq4, bd6⟩ := rd_13011 ok0 kd900
  refine lv_aload_n hx hb dX12_nots_0 rfl (lv_at hl 0 rfl) ?_
  obtain ⟨qa8, eq7, kd9⟩ := rd_13043 ok0 kd900
  refine p_get (ci := 12) (v := .ref qa8) (C := RX12) (T := TX12) (N := 69) hx hb hT iw_X12 hown hK hw hW kd900 (by decide) rfl rfl 43 (by decide) eq7 (hT _ tb_1417) (fun _ h9 => h9) dX12_nots_1 ?_
  refine lv_aload_n hx hb dX12_nots_4 rfl (lv_at hl 0 rfl) ?_
  obtain ⟨zi11, eq10, bd12⟩ := rd_13012 ok0 kd900
  refine p_get (ci := 12) (v := .int zi11) (C := RX12) (T := TX12) (N := 69) hx hb hT iw_X12 hown hK hw hW kd900 (by decide) rfl rfl 12 (by decide) eq10 (hT _ tb_1386) (fun _ h9 => h9) dX12_nots_5 ?_
  refine lv_iconst (v := 0) hx hb dX12_nots_8 (by decide) ?_
  refine p_zast (x := 0) hx hb hK hw hS hW kd9 (by decide) rfl (hW.len kd9 (n := 8) rfl (by decide)) (vp_b bd12 (by decide) (by decide)) dX12_nots_9 (fun hp13 eh14 H locs hw hS => ?_)
  have ok15 := wr_88000 (nar_z 0) (by decide) (by decide) ok0 kd9 eh14
  have eq16 : hp13 qa900 11 = .int zi5 := Eq.trans (up_at eh14 (Or.inl (kd_ne kd900 kd9 (by decide)))) eq4
  have eq17 : hp13 qa900 13 = .int zi2 := Eq.trans (up_at eh14 (Or.inl (kd_ne kd900 kd9 (by decide)))) eq1
  have lp340 : ∀ (n338 : Nat) (hp211 : Nat → Nat → Value) (zi215 : Int32) (zi217 : Int32) (H : Heap) (locs : List Loc) (ls : Array Slot), 1602 - 4*zi215.toInt - zi217.toInt < (n338 : Int) → Ok K hp211 → Fr [13011, 13013, 13014, 88000] K hp13 hp211 → ((0 : Int) ≤ zi215.toInt ∧ zi215.toInt ≤ 400) → hp211 qa900 11 = .int zi215 → ((0 : Int) ≤ zi217.toInt ∧ zi217.toInt ≤ 2) → hp211 qa900 13 = .int zi217 → (4*zi215.toInt + zi217.toInt ≥ 4*zi5.toInt + zi2.toInt) → (zi217.toInt ≥ zi2.toInt) → lv_has ls 1 [(0, .ref qa900)] → PW G cy K ln Ls A hp211 H → va_S A s.heap H locs → W p l e ({ frames := 2, cells := 0, slots := 0, locals := 41 } : Room) s m ([.ref qa900] : List Value).toArray below meth c H locs 0 0 Q (F0 m 10 ls []) := by
    intro n338
    induction n338 with
    | zero =>
      intro hp211 zi215 zi217 H locs ls hm341 ok213 F212 bd220 eq214 bd221 eq216 rq218 rq219 hl hw hS
      exact absurd hm341 (by omega)
    | succ n338 ih339 =>
      intro hp211 zi215 zi217 H locs ls hm341 ok213 F212 bd220 eq214 bd221 eq216 rq218 rq219 hl hw hS
      refine lv_aload_n hx hb dX12_nots_10 rfl (lv_at hl 0 rfl) ?_
      refine lv_bipush (v := 33) hx hb dX12_nots_11 (by decide) ?_
      obtain ⟨qa343, eq342, kd344⟩ := rd_13005 ok213 kd900
      obtain ⟨zi346, eq345⟩ := rd_62000 ok213 kd344 ((zi215 : Int32).toNatClampNeg)
      refine kq_i hw hS hA (va_runV (As := [.int 33]) (rest := []) ⟨hx, hb, hml, hown, hT⟩ (cX12_is_0 l G cy ev K ln Ls hW _ hp211 ok213 qa900 33 kd900) (cwV 1 hT (good_V tb_1623 tb_1620 tb_1622 tb_52 tb_122) rfl rfl rfl (by decide +kernel) ⟨Nat.le_of_ble_eq_true rfl, Nat.le_of_ble_eq_true rfl⟩) (pool_preV (ci := 12) hK hE hS hA hw hW kd900 (by decide) rfl) rfl rfl hl.1 rfl (lv_room (Nat.le_of_ble_eq_true rfl)) dX12_nots_13 ⟨Nat.le_of_ble_eq_true rfl, Nat.le_of_ble_eq_true rfl⟩) (fun zi351 hp347 H locs hq350 hw hS => ?_)
      obtain ⟨ok348, F349, bd352, hc353, rh354, rh355, rh356⟩ := hq350
      obtain rfl : hp211 = hp347 := (Fr.nil F349).symm
      have hw : PW G cy K ln Ls A hp211 H := hw
      rcases b01 bd352 with cn357 | cn357
      · skip
        subst cn357
        have rh358 := rh356 rfl
        simp only [ge_of eq342 eq214 eq345, gi_of eq216, toi bc_33] at rh358
        refine lv_if_eq (tgt := 52) hx hb dX12_nots_16 (by decide) (fun _ => ?_) (fun c => absurd (d_eq bc_0 bc_0) c)
        rw [hQ]
        exact kz_v hx hb hr hlocks hS hp211 hw ⟨ok213, (Fr.tr (Fr.put (cq := 88000) (Fr.rf) eh14 kd9 (cd_a (by decide)) (by decide)) F212 (by decide)), (by simp only [gi_of eq1, gi_of eq214, gi_of eq216, gi_of eq4]; omega), (by simp only [gi_of eq1, gi_of eq216]; omega)⟩ (Nat.le_of_ble_eq_true rfl) (Nat.le_of_ble_eq_true rfl) dX12_nots_52
      · skip
        subst cn357
        obtain ⟨zi359, eq360, bd361⟩ := hc353 rfl
        have hx362 : zi217 = zi359 := Value.int.inj (Eq.trans (Eq.symm eq216) eq360)
        subst hx362
        have bd363 : (0 : Int) ≤ zi217.toInt ∧ zi217.toInt ≤ 0 := b_meet bd221 bd361 (by decide) (by decide)
        have rh364 := rh354 rfl
        simp only [ge_of eq342 eq214 eq345, toi bc_33] at rh364
        have rh365 := rh355 rfl
        simp only [gi_of eq216] at rh365
        refine lv_if_eq (tgt := 52) hx hb dX12_nots_16 (by decide) (fun c => absurd c (d_ne bc_1 bc_0 (by decide))) (fun _ => ?_)
        refine lv_aload_n hx hb dX12_nots_19 rfl (lv_at hl 0 rfl) ?_
        have eq366 : hp211 qa900 43 = .ref qa8 := Eq.trans (Fr.at (cq := 13043) F212 kd900 (cd_o (by decide)) (by decide)) (Eq.trans (up_at eh14 (Or.inl (kd_ne kd900 kd9 (by decide)))) eq7)
        refine p_get (ci := 12) (v := .ref qa8) (C := RX12) (T := TX12) (N := 69) hx hb hT iw_X12 hown hK hw hW kd900 (by decide) rfl rfl 43 (by decide) eq366 (hT _ tb_1417) (fun _ h9 => h9) dX12_nots_20 ?_
        refine lv_aload_n hx hb dX12_nots_23 rfl (lv_at hl 0 rfl) ?_
        have eq367 : hp211 qa900 12 = .int zi11 := Eq.trans (Fr.at (cq := 13012) F212 kd900 (cd_o (by decide)) (by decide)) (Eq.trans (up_at eh14 (Or.inl (kd_ne kd900 kd9 (by decide)))) eq10)
        refine p_get (ci := 12) (v := .int zi11) (C := RX12) (T := TX12) (N := 69) hx hb hT iw_X12 hown hK hw hW kd900 (by decide) rfl rfl 12 (by decide) eq367 (hT _ tb_1386) (fun _ h9 => h9) dX12_nots_24 ?_
        refine lv_aload_n hx hb dX12_nots_27 rfl (lv_at hl 0 rfl) ?_
        refine p_get (ci := 12) (v := .ref qa8) (C := RX12) (T := TX12) (N := 69) hx hb hT iw_X12 hown hK hw hW kd900 (by decide) rfl rfl 43 (by decide) eq366 (hT _ tb_1417) (fun _ h9 => h9) dX12_nots_28 ?_
        refine lv_aload_n hx hb dX12_nots_31 rfl (lv_at hl 0 rfl) ?_
        refine p_get (ci := 12) (v := .int zi11) (C := RX12) (T := TX12) (N := 69) hx hb hT iw_X12 hown hK hw hW kd900 (by decide) rfl rfl 12 (by decide) eq367 (hT _ tb_1386) (fun _ h9 => h9) dX12_nots_32 ?_
        obtain ⟨zi369, eq368, bd370⟩ := rd_88000 ok213 kd9 ((zi11 : Int32).toNatClampNeg)
        refine p_zald (v := zi369) hx hb hK hw hW kd9 (by decide) rfl (hW.len kd9 (n := 8) rfl (by decide)) (vp_b bd12 (by decide) (by decide)) eq368 dX12_nots_35 ?_
        have jn377 : ∀ (zi375 : Int32) (H : Heap) (locs : List Loc) (ls : Array Slot), ((0 : Int) ≤ zi375.toInt ∧ zi375.toInt ≤ 1) → lv_has ls 1 [(0, .ref qa900)] → PW G cy K ln Ls A hp211 H → va_S A s.heap H locs → W p l e ({ frames := 2, cells := 0, slots := 0, locals := 41 } : Room) s m ([.ref qa900] : List Value).toArray below meth c H locs 0 0 Q (F0 m 44 ls [.int zi375, .int zi11, .ref qa8]) := by
          intro zi375 H locs ls bd376 hl hw hS
          refine p_zast (x := zi375) hx hb hK hw hS hW kd9 (by decide) rfl (hW.len kd9 (n := 8) rfl (by decide)) (vp_b bd12 (by decide) (by decide)) dX12_nots_44 (fun hp378 eh379 H locs hw hS => ?_)
          have ok380 := wr_88000 (nar_z zi375) (by decide) (by decide) ok213 kd9 eh379
          refine lv_aload_n hx hb dX12_nots_45 rfl (lv_at hl 0 rfl) ?_
          have eq381 : hp378 qa900 13 = .int zi217 := Eq.trans (up_at eh379 (Or.inl (kd_ne kd900 kd9 (by decide)))) eq216
          have eq382 : hp378 qa900 11 = .int zi215 := Eq.trans (up_at eh379 (Or.inl (kd_ne kd900 kd9 (by decide)))) eq214
          refine kq_v hw hS hA (va_runV (As := []) (rest := []) ⟨hx, hb, hml, hown, hT⟩ (cX12_goesOn_0 l G cy ev K ln Ls hW _ hp378 ok380 qa900 kd900) (cwV 0 hT (good_V tb_1639 tb_1636 tb_1638 tb_56 tb_122) rfl rfl rfl (by decide +kernel) ⟨Nat.le_of_ble_eq_true rfl, Nat.le_of_ble_eq_true rfl⟩) (pool_preV (ci := 12) hK hE hS hA hw hW kd900 (by decide) rfl) rfl rfl hl.1 rfl (lv_room (Nat.le_of_ble_eq_true rfl)) dX12_nots_46 ⟨Nat.le_of_ble_eq_true rfl, Nat.le_of_ble_eq_true rfl⟩) (fun hp383 H locs hq386 hw hS => ?_)
          obtain ⟨ok384, F385, ⟨zi388, eq389, bd390⟩, rh391, rh392, rh393⟩ := hq386
          have hw : PW G cy K ln Ls A hp383 H := hw
          obtain ⟨zi395, eq394, bd396⟩ := rd_13013 ok384 kd900
          simp only [gi_of eq381, gi_of eq382, gi_of eq389, gi_of eq394] at rh391
          simp only [gi_of eq381, gi_of eq394] at rh392
          simp only [gi_of eq382, gi_of eq389, gi_of eq394] at rh393
          refine lv_goto (tgt := 10) hx hb dX12_nots_49 (by decide) ?_
          exact ih339 hp383 zi388 zi395 _ _ ls (by have := hm341; omega) ok384 (Fr.tr (Fr.put (cq := 88000) (Fr.tr (Fr.rf) F212 (by decide)) eh379 kd9 (cd_a (by decide)) (by decide)) F385 (by decide)) (b_wid2 bd390 (by decide) (by decide)) eq389 (b_wid2 bd396 (by decide) (by decide)) eq394 (by omega) (by omega) (lv_sub hl [0] rfl) hw hS
        refine lv_if_ne (tgt := 43) hx hb dX12_nots_36 (by decide) (fun cn371 => ?_) (fun cn371 => ?_)
        · skip
          have tf397 : (zi369 : Int32).toInt ≠ (0 : Int32).toInt := fun e => cn371 (Int32.toInt_inj.mp e)
          have := toi bc_0
          have bd398 : (1 : Int) ≤ zi369.toInt ∧ zi369.toInt ≤ 1 := r_ne_lo cn371 bd370 (toi bc_0) (by decide) (by decide)
          refine lv_iconst (v := 0) hx hb dX12_nots_43 (by decide) ?_
          exact jn377 0 _ _ ls (b_wid2 bc_0 (by decide) (by decide)) (lv_sub hl [0] rfl) hw hS
        · skip
          have bd399 : (0 : Int) ≤ zi369.toInt ∧ zi369.toInt ≤ 0 := r_eq_x cn371 bd370 bc_0 (by decide) (by decide)
          refine lv_iconst (v := 1) hx hb dX12_nots_39 (by decide) ?_
          refine lv_goto (tgt := 44) hx hb dX12_nots_40 (by decide) ?_
          exact jn377 1 _ _ ls (b_wid2 bc_1 (by decide) (by decide)) (lv_sub hl [0] rfl) hw hS
  exact lp340 _ hp13 zi5 zi2 _ _ ls (lp_in _) ok15 (Fr.rf) (b_wid2 bd6 (by decide) (by decide)) eq16 (b_wid2 bd3 (by decide) (by decide)) eq17 (by omega) (by omega) (lv_sub hl [0] rfl) hw hS

set_option maxRecDepth 100000 in
set_option maxHeartbeats 4000000 in
theorem cX12_statesOf_0 (l : Launch) (G : va_G) (cy : Nat → ClassId) (ev : Ew) (K ln : Nat → Nat) (Ls : List Nat) (hW : SW K ln Ls) (sz : Nat) (hp0 : Nat → Nat → Value) (ok0 : Ok K hp0) (zi900 : Int32)  : Met l yX12_statesOf (WS yX12_statesOf cX12_statesOf 4 (some .long)) { frames := 0, cells := 0, slots := 0, locals := 0 } (PB2 [.int zi900] sz G cy ev (va_pl Ls (cellOf cy K ln hp0))) (QBl (S := (Nat → Nat → Value)) (fun (r : Int64) (u : (Nat → Nat → Value)) => Ok K u ∧ Fr [] K hp0 u) G (fun u => va_pl Ls (cellOf cy K ln u)) (va_A (va_pl Ls (cellOf cy K ln hp0)) sz)) 0 0 (va_A (va_pl Ls (cellOf cy K ln hp0)) sz) := by
  refine met_of2 (y := yX12_statesOf) (L := 4) (av := [.int zi900]) (Qc := fun A => QBl (S := (Nat → Nat → Value)) (fun (r : Int64) (u : (Nat → Nat → Value)) => Ok K u ∧ Fr [] K hp0 u) G (fun u => va_pl Ls (cellOf cy K ln u)) A) (plainFor_of_name (by decide)) (Nat.le_of_ble_eq_true rfl) ?_
  intro p e s m below meth c hsz hx hb hr hml hown hT hlocks hin hK A hA hE hw hS ls hl
  have hw : PW G cy K ln Ls A hp0 s.heap := hw
  have hown : s.vm.findClass "LieClockModel" = some m.cls := hown
  have hl : lv_has ls 4 [(0, .int zi900)] := hl
  obtain ⟨Q, hQ⟩ : ∃ Q : State → Prop, Q = MQ below (QBl (S := (Nat → Nat → Value)) (fun (r : Int64) (u : (Nat → Nat → Value)) => Ok K u ∧ Fr [] K hp0 u) G (fun u => va_pl Ls (cellOf cy K ln u)) A) ([.int zi900] : List Value).toArray s 0 0 A := ⟨_, rfl⟩
  rw [← hQ]
  refine lv_lconst (v := 0) hx hb dX12_statesOf_0 (by decide) ?_
  refine lv_lstore_n (lv' := [(1, .long 0), (0, .int zi900)]) hx hb dX12_statesOf_1 rfl hl (by decide) rfl (fun ls hl => ?_)
  refine lv_iconst (v := 0) hx hb dX12_statesOf_2 (by decide) ?_
  refine lv_istore_n (lv' := [(3, .int 0), (1, .long 0), (0, .int zi900)]) hx hb dX12_statesOf_3 rfl hl (by decide) rfl (fun ls hl => ?_)
  have lp196 : ∀ (n194 : Nat) (wl143 : Int64) (zi144 : Int32) (H : Heap) (locs : List Loc) (ls : Array Slot), 64 - zi144.toInt < (n194 : Int) → ((0 : Int) ≤ zi144.toInt ∧ zi144.toInt ≤ 64) → lv_has ls 4 [(0, .int zi900), (1, .long wl143), (3, .int zi144)] → PW G cy K ln Ls A hp0 H → va_S A s.heap H locs → W p l e ({ frames := 0, cells := 0, slots := 0, locals := 0 } : Room) s m ([.int zi900] : List Value).toArray below meth c H locs 0 0 Q (F0 m 4 ls []) := by
    intro n194
    induction n194 with
    | zero =>
      intro wl143 zi144 H locs ls hm197 bd145 hl hw hS
      exact absurd hm197 (by have := bd145; omega)
    | succ n194 ih195 =>
      intro wl143 zi144 H locs ls hm197 bd145 hl hw hS
      refine lv_iload_n hx hb dX12_statesOf_4 rfl (lv_at hl 2 rfl) ?_
      refine lv_bipush (v := 64) hx hb dX12_statesOf_5 (by decide) ?_
      refine lv_icmp_ge (tgt := 31) hx hb dX12_statesOf_7 (by decide) (fun cn198 => ?_) (fun cn198 => ?_)
      · skip
        have bd222 : (64 : Int) ≤ zi144.toInt ∧ zi144.toInt ≤ 64 := r_le_y cn198 bc_64 bd145 (by decide) (by decide)
        refine lv_lload_n hx hb dX12_statesOf_31 rfl (lv_at hl 1 rfl) ?_
        rw [hQ]
        exact kz_l hx hb hr hlocks hS hp0 hw ⟨ok0, (Fr.rf)⟩ (Nat.le_of_ble_eq_true rfl) (Nat.le_of_ble_eq_true rfl) dX12_statesOf_32
      · skip
        have bd223 : (0 : Int) ≤ zi144.toInt ∧ zi144.toInt ≤ 63 := r_lt_x (Int32.not_le.mp cn198) bd145 bc_64 (by decide) (by decide)
        refine lv_iload_n hx hb dX12_statesOf_10 rfl (lv_at hl 2 rfl) ?_
        refine lv_iload_n hx hb dX12_statesOf_11 rfl (lv_at hl 0 rfl) ?_
        refine lv_ishr hx hb dX12_statesOf_12 (lv_topi (fun zi224 ea225 => ?_))
        refine lv_iconst (v := 1) hx hb dX12_statesOf_13 (by decide) ?_
        refine lv_iand hx hb dX12_statesOf_14 (lv_topi (fun zi226 ea227 => ?_))
        have bd228 : (0 : Int) ≤ zi226.toInt ∧ zi226.toInt ≤ 1 := b_and_r ea227 bc_1 (by decide) (by decide) (by decide)
        refine lv_iconst (v := 1) hx hb dX12_statesOf_15 (by decide) ?_
        have jn235 : ∀ (wl234 : Int64) (H : Heap) (locs : List Loc) (ls : Array Slot), lv_has ls 4 [(0, .int zi900), (1, .long wl234), (3, .int zi144)] → PW G cy K ln Ls A hp0 H → va_S A s.heap H locs → W p l e ({ frames := 0, cells := 0, slots := 0, locals := 0 } : Room) s m ([.int zi900] : List Value).toArray below meth c H locs 0 0 Q (F0 m 25 ls []) := by
          intro wl234 H locs ls hl hw hS
          obtain ⟨zi236, ea237⟩ : ∃ z : Int32, z = zi144 + 1 := ⟨_, rfl⟩
          have bd238 : (1 : Int) ≤ zi236.toInt ∧ zi236.toInt ≤ 64 := b_iadd ea237 bd223 bc_1 (by decide) (by decide) (by decide) (by decide)
          have qe239 : zi236.toInt = (zi144 : Int32).toInt + (1 : Int32).toInt := e_iadd ea237 bd223 bc_1 (by decide) (by decide)
          have qe240 : zi236.toInt = zi144.toInt + 1 := by have ha : (1 : Int32).toInt = 1 := (by decide); rw [ha] at qe239; exact qe239
          refine lv_iinc (v := zi236) (lv' := [(3, .int zi236), (0, .int zi900), (1, .long wl234)]) hx hb dX12_statesOf_25 hl (k := 2) rfl ea237.symm (by decide) rfl (fun ls hl => ?_)
          refine lv_goto (tgt := 4) hx hb dX12_statesOf_28 (by decide) ?_
          exact ih195 wl234 zi236 _ _ ls (by have := hm197; have := qe240; omega) (b_wid2 bd238 (by decide) (by decide)) (lv_sub hl [1, 2, 0] rfl) hw hS
        refine lv_icmp_ne (tgt := 25) hx hb dX12_statesOf_16 (by decide) (fun cn229 => ?_) (fun cn229 => ?_)
        · skip
          have bd241 : (0 : Int) ≤ zi226.toInt ∧ zi226.toInt ≤ 0 := r_ne_hi cn229 bd228 (toi bc_1) (by decide) (by decide)
          exact jn235 wl143 _ _ ls (lv_sub hl [0, 1, 2] rfl) hw hS
        · skip
          have bd242 : (1 : Int) ≤ zi226.toInt ∧ zi226.toInt ≤ 1 := r_eq_x cn229 bd228 bc_1 (by decide) (by decide)
          refine lv_lload_n hx hb dX12_statesOf_19 rfl (lv_at hl 1 rfl) ?_
          refine lv_lconst (v := 1) hx hb dX12_statesOf_20 (by decide) ?_
          refine lv_iload_n hx hb dX12_statesOf_21 rfl (lv_at hl 2 rfl) ?_
          refine lv_lshl hx hb dX12_statesOf_22 rfl (lv_topl (fun wl243 _ => ?_))
          refine lv_lor hx hb dX12_statesOf_23 (lv_topl (fun wl244 _ => ?_))
          refine lv_lstore_n (lv' := [(1, .long wl244), (0, .int zi900), (3, .int zi144)]) hx hb dX12_statesOf_24 rfl hl (by decide) rfl (fun ls hl => ?_)
          exact jn235 wl244 _ _ ls (lv_sub hl [1, 0, 2] rfl) hw hS
  exact lp196 _ 0 0 _ _ ls (lp_in _) (b_wid2 bc_0 (by decide) (by decide)) (lv_sub hl [2, 1, 0] rfl) hw hS
