set_option maxRecDepth 100000 in
set_option maxHeartbeats 4000000 in
theorem cX12_tell_0 (l : Launch) (G : va_G) (cy : Nat → ClassId) (ev : Ew) (K ln : Nat → Nat) (Ls : List Nat) (hW : SW K ln Ls) (sz : Nat) (hp0 : Nat → Nat → Value) (ok0 : Ok K hp0) (qa900 : Nat) (kd900 : K qa900 = 13) (rp0 : (gi hp0 qa900 20) ≤ (ge hp0 qa900 24 19) + (ge hp0 qa900 27 19) + (ge hp0 qa900 32 19)) (rp1 : (gi hp0 qa900 12) = 0) (rp2 : (gi hp0 qa900 13) = 0) (rp3 : (gi hp0 qa900 38) ≤ 420*(gi hp0 qa900 19) + (gi hp0 qa900 11) + (gi hp0 qa900 13)) (pdLPx : LPx hp0 qa900) : Met l yX12_tell (WS yX12_tell cX12_tell 3 none) { frames := 6, cells := 0, slots := 0, locals := 129 } (PB2 [.ref qa900] sz G cy ev (va_pl Ls (cellOf cy K ln hp0))) (QBv (S := (Nat → Nat → Value)) (fun u : (Nat → Nat → Value) => Ok K u ∧ Fr [13011, 13012, 13013, 13014, 13015, 13016, 13020, 13038, 13045, 67000, 68000, 69000, 70000, 71000, 72000, 73000, 74000, 75000, 76000, 77000, 78000, 79000, 80000, 81000, 82000, 83000, 84000, 85000, 86000, 87000, 88000, 89000] K hp0 u ∧ (LW u qa900) ∧ (gi u qa900 13 = 0 → LPx u qa900) ∧ (4*(gi u qa900 11) + (gi u qa900 13) ≥ 4*(gi hp0 qa900 11) + (gi hp0 qa900 13)) ∧ ((gi u qa900 13) ≥ (gi hp0 qa900 13)) ∧ (4*(gi u qa900 11) + (gi u qa900 13) ≥ 4*(gi hp0 qa900 11) + 1) ∧ ((gi u qa900 20) ≤ (ge u qa900 24 19) + (ge u qa900 27 19) + (ge u qa900 32 19)) ∧ ((gi u qa900 12) ≤ 7*(gi u qa900 13)) ∧ ((gi u qa900 38) ≤ 420*(gi u qa900 19) + (gi u qa900 11) + (gi u qa900 13))) G (fun u => va_pl Ls (cellOf cy K ln u)) (va_A (va_pl Ls (cellOf cy K ln hp0)) sz)) 0 0 (va_A (va_pl Ls (cellOf cy K ln hp0)) sz) := by
  refine met_of2 (y := yX12_tell) (L := 3) (av := [.ref qa900]) (Qc := fun A => QBv (S := (Nat → Nat → Value)) (fun u : (Nat → Nat → Value) => Ok K u ∧ Fr [13011, 13012, 13013, 13014, 13015, 13016, 13020, 13038, 13045, 67000, 68000, 69000, 70000, 71000, 72000, 73000, 74000, 75000, 76000, 77000, 78000, 79000, 80000, 81000, 82000, 83000, 84000, 85000, 86000, 87000, 88000, 89000] K hp0 u ∧ (LW u qa900) ∧ (gi u qa900 13 = 0 → LPx u qa900) ∧ (4*(gi u qa900 11) + (gi u qa900 13) ≥ 4*(gi hp0 qa900 11) + (gi hp0 qa900 13)) ∧ ((gi u qa900 13) ≥ (gi hp0 qa900 13)) ∧ (4*(gi u qa900 11) + (gi u qa900 13) ≥ 4*(gi hp0 qa900 11) + 1) ∧ ((gi u qa900 20) ≤ (ge u qa900 24 19) + (ge u qa900 27 19) + (ge u qa900 32 19)) ∧ ((gi u qa900 12) ≤ 7*(gi u qa900 13)) ∧ ((gi u qa900 38) ≤ 420*(gi u qa900 19) + (gi u qa900 11) + (gi u qa900 13))) G (fun u => va_pl Ls (cellOf cy K ln u)) A) (plainFor_of_name (by decide)) (Nat.le_of_ble_eq_true rfl) ?_
  intro p e s m below meth c hsz hx hb hr hml hown hT hlocks hin hK A hA hE hw hS ls hl
  have hw : PW G cy K ln Ls A hp0 s.heap := hw
  have hown : s.vm.findClass "LieClockModel" = some m.cls := hown
  have hl : lv_has ls 3 [(0, .ref qa900)] := hl
  obtain ⟨Q, hQ⟩ : ∃ Q : State → Prop, Q = MQ below (QBv (S := (Nat → Nat → Value)) (fun u : (Nat → Nat → Value) => Ok K u ∧ Fr [13011, 13012, 13013, 13014, 13015, 13016, 13020, 13038, 13045, 67000, 68000, 69000, 70000, 71000, 72000, 73000, 74000, 75000, 76000, 77000, 78000, 79000, 80000, 81000, 82000, 83000, 84000, 85000, 86000, 87000, 88000, 89000] K hp0 u ∧ (LW u qa900) ∧ (gi u qa900 13 = 0 → LPx u qa900) ∧ (4*(gi u qa900 11) + (gi u qa900 13) ≥ 4*(gi hp0 qa900 11) + (gi hp0 qa900 13)) ∧ ((gi u qa900 13) ≥ (gi hp0 qa900 13)) ∧ (4*(gi u qa900 11) + (gi u qa900 13) ≥ 4*(gi hp0 qa900 11) + 1) ∧ ((gi u qa900 20) ≤ (ge u qa900 24 19) + (ge u qa900 27 19) + (ge u qa900 32 19)) ∧ ((gi u qa900 12) ≤ 7*(gi u qa900 13)) ∧ ((gi u qa900 38) ≤ 420*(gi u qa900 19) + (gi u qa900 11) + (gi u qa900 13))) G (fun u => va_pl Ls (cellOf cy K ln u)) A) ([.ref qa900] : List Value).toArray s 0 0 A := ⟨_, rfl⟩
  rw [← hQ]
  obtain ⟨qa2, eq1, kd3⟩ := rd_13032 ok0 kd900
  obtain ⟨zi5, eq4, bd6⟩ := rd_13019 ok0 kd900
  obtain ⟨zi8, eq7, bd9⟩ := rd_78000 ok0 kd3 ((zi5 : Int32).toNatClampNeg)
  obtain ⟨zi11, eq10, bd12⟩ := rd_13038 ok0 kd900
  obtain ⟨qa14, eq13, kd15⟩ := rd_13024 ok0 kd900
  obtain ⟨zi17, eq16, bd18⟩ := rd_70000 ok0 kd15 ((zi5 : Int32).toNatClampNeg)
  obtain ⟨zi20, eq19, bd21⟩ := rd_13013 ok0 kd900
  obtain ⟨zi23, eq22, bd24⟩ := rd_13020 ok0 kd900
  obtain ⟨zi26, eq25, bd27⟩ := rd_13012 ok0 kd900
  obtain ⟨zi29, eq28, bd30⟩ := rd_13011 ok0 kd900
  obtain ⟨qa32, eq31, kd33⟩ := rd_13027 ok0 kd900
  obtain ⟨zi35, eq34, bd36⟩ := rd_73000 ok0 kd33 ((zi5 : Int32).toNatClampNeg)
  have rq0 := rp0
  simp only [ge_of eq1 eq4 eq7, ge_of eq13 eq4 eq16, gi_of eq22, ge_of eq31 eq4 eq34] at rq0
  have rq1 := rp1
  simp only [gi_of eq25] at rq1
  have rq2 := rp2
  simp only [gi_of eq19] at rq2
  have rq3 := rp3
  simp only [gi_of eq10, gi_of eq19, gi_of eq4, gi_of eq28] at rq3
  have bd37 : (0 : Int) ≤ zi26.toInt ∧ zi26.toInt ≤ 0 := (by omega)
  have bd38 : (0 : Int) ≤ zi20.toInt ∧ zi20.toInt ≤ 0 := (by omega)
  refine lv_aload_n hx hb dX12_tell_0 rfl (lv_at hl 0 rfl) ?_
  obtain ⟨qa40, eq39, kd41⟩ := rd_13005 ok0 kd900
  refine p_get (ci := 12) (v := .ref qa40) (C := RX12) (T := TX12) (N := 69) hx hb hT iw_X12 hown hK hw hW kd900 (by decide) rfl rfl 5 (by decide) eq39 (hT _ tb_1379) (fun _ h9 => h9) dX12_tell_1 ?_
  refine lv_aload_n hx hb dX12_tell_4 rfl (lv_at hl 0 rfl) ?_
  refine p_get (ci := 12) (v := .int zi29) (C := RX12) (T := TX12) (N := 69) hx hb hT iw_X12 hown hK hw hW kd900 (by decide) rfl rfl 11 (by decide) eq28 (hT _ tb_1385) (fun _ h9 => h9) dX12_tell_5 ?_
  obtain ⟨zi43, eq42⟩ := rd_62000 ok0 kd41 ((zi29 : Int32).toNatClampNeg)
  refine p_iald (v := zi43) hx hb hK hw hW kd41 (by decide) rfl (hW.len kd41 (n := 403) rfl (by decide)) (vp_b bd30 (by decide) (by decide)) eq42 dX12_tell_8 ?_
  by_cases cn44 : zi43 = 20
  · skip
    refine lv_tableIn (tgt := 68) hx hb dX12_tell_9 (by rw [cn44]; decide) (by rw [cn44]; decide) (by rw [cn44]; rfl) (by decide) ?_
    have bd66 : (20 : Int) ≤ zi43.toInt ∧ zi43.toInt ≤ 20 := r_eq_x cn44 (b_all zi43) bc_20 (by decide) (by decide)
    refine lv_aload_n hx hb dX12_tell_68 rfl (lv_at hl 0 rfl) ?_
    refine lv_aload_n hx hb dX12_tell_69 rfl (lv_at hl 0 rfl) ?_
    refine p_get (ci := 12) (v := .ref qa14) (C := RX12) (T := TX12) (N := 69) hx hb hT iw_X12 hown hK hw hW kd900 (by decide) rfl rfl 24 (by decide) eq13 (hT _ tb_1398) (fun _ h9 => h9) dX12_tell_70 ?_
    refine lv_aload_n hx hb dX12_tell_73 rfl (lv_at hl 0 rfl) ?_
    refine p_get (ci := 12) (v := .int zi5) (C := RX12) (T := TX12) (N := 69) hx hb hT iw_X12 hown hK hw hW kd900 (by decide) rfl rfl 19 (by decide) eq4 (hT _ tb_1393) (fun _ h9 => h9) dX12_tell_74 ?_
    refine p_iald (v := zi17) hx hb hK hw hW kd15 (by decide) rfl (hW.len kd15 (n := 2) rfl (by decide)) (vp_b bd6 (by decide) (by decide)) eq16 dX12_tell_77 ?_
    refine lv_bipush (v := 6) hx hb dX12_tell_78 (by decide) ?_
    refine kq_v hw hS hA (va_runV (As := [.int zi17, .int 6]) (rest := []) ⟨hx, hb, hml, hown, hT⟩ (cX12_roomFor_0 l G cy ev K ln Ls hW _ hp0 ok0 qa900 zi17 6 kd900 (b_wid2 bd18 (by decide) (by decide)) (b_wid2 bc_6 (by decide) (by decide))) (cwV 2 hT (good_V tb_1631 tb_1628 tb_1630 tb_54 tb_122) rfl rfl rfl (by decide +kernel) ⟨Nat.le_of_ble_eq_true rfl, Nat.le_of_ble_eq_true rfl⟩) (pool_preV (ci := 12) hK hE hS hA hw hW kd900 (by decide) rfl) rfl rfl hl.1 rfl (lv_room (Nat.le_of_ble_eq_true rfl)) dX12_tell_80 ⟨Nat.le_of_ble_eq_true rfl, Nat.le_of_ble_eq_true rfl⟩) (fun hp67 H locs hq70 hw hS => ?_)
    obtain ⟨ok68, F69, rh72, rh73, rh74, rh75⟩ := hq70
    have hw : PW G cy K ln Ls A hp67 H := hw
    obtain ⟨zi77, eq76, bd78⟩ := rd_13013 ok68 kd900
    obtain ⟨zi80, eq79, bd81⟩ := rd_13011 ok68 kd900
    simp only [gi_of eq19, gi_of eq28, gi_of eq76, gi_of eq79] at rh72
    simp only [gi_of eq19, gi_of eq76] at rh73
    simp only [gi_of eq28, gi_of eq76, gi_of eq79] at rh74
    simp only [gi_of eq76, toi bc_6] at rh75
    refine lv_aload_n hx hb dX12_tell_83 rfl (lv_at hl 0 rfl) ?_
    refine p_get (ci := 12) (v := .int zi77) (C := RX12) (T := TX12) (N := 69) hx hb hT iw_X12 hown hK hw hW kd900 (by decide) rfl rfl 13 (by decide) eq76 (hT _ tb_1387) (fun _ h9 => h9) dX12_tell_84 ?_
    have eq83 : hp67 qa900 20 = .int zi23 := Eq.trans (Fr.at (cq := 13020) F69 kd900 (cd_o (by decide)) (by decide)) eq22
    have eq84 : hp67 qa900 24 = .ref qa14 := Eq.trans (Fr.at (cq := 13024) F69 kd900 (cd_o (by decide)) (by decide)) eq13
    have eq85 : hp67 qa900 19 = .int zi5 := Eq.trans (Fr.at (cq := 13019) F69 kd900 (cd_o (by decide)) (by decide)) eq4
    have eq86 : hp67 qa14 (zi5 : Int32).toNatClampNeg = .int zi17 := Eq.trans (Fr.at (cq := 70000) F69 kd15 (cd_a (by decide)) (by decide)) eq16
    have eq87 : hp67 qa900 27 = .ref qa32 := Eq.trans (Fr.at (cq := 13027) F69 kd900 (cd_o (by decide)) (by decide)) eq31
    have eq88 : hp67 qa32 (zi5 : Int32).toNatClampNeg = .int zi35 := Eq.trans (Fr.at (cq := 73000) F69 kd33 (cd_a (by decide)) (by decide)) eq34
    have eq89 : hp67 qa900 32 = .ref qa2 := Eq.trans (Fr.at (cq := 13032) F69 kd900 (cd_o (by decide)) (by decide)) eq1
    have eq90 : hp67 qa2 (zi5 : Int32).toNatClampNeg = .int zi8 := Eq.trans (Fr.at (cq := 78000) F69 kd3 (cd_a (by decide)) (by decide)) eq7
    have eq91 : hp67 qa900 12 = .int zi26 := Eq.trans (Fr.at (cq := 13012) F69 kd900 (cd_o (by decide)) (by decide)) eq25
    have eq92 : hp67 qa900 38 = .int zi11 := Eq.trans (Fr.at (cq := 13038) F69 kd900 (cd_o (by decide)) (by decide)) eq10
    refine lv_if_ne (tgt := 276) hx hb dX12_tell_87 (by decide) (fun cn82 => ?_) (fun cn82 => ?_)
    · skip
      have tf93 : (zi77 : Int32).toInt ≠ (0 : Int32).toInt := fun e => cn82 (Int32.toInt_inj.mp e)
      have := toi bc_0
      have bd94 : (1 : Int) ≤ zi77.toInt ∧ zi77.toInt ≤ 2 := r_ne_lo cn82 bd78 (toi bc_0) (by decide) (by decide)
      have pd95 : LPx hp67 qa900 := LP_fr ok0 kd900 (show Fr [13011, 13013, 13014] K hp0 hp67 from (Fr.tr (Fr.rf) F69 (by decide))) (by decide) pdLPx
      rw [hQ]
      exact kz_v hx hb hr hlocks hS hp67 hw ⟨ok68, (Fr.tr (Fr.rf) F69 (by decide)), ((pd95).lw), (fun _ => pd95), (by simp only [gi_of eq19, gi_of eq28, gi_of eq76, gi_of eq79]; omega), (by simp only [gi_of eq19, gi_of eq76]; omega), (by simp only [gi_of eq28, gi_of eq76, gi_of eq79]; omega), (by simp only [ge_of eq84 eq85 eq86, ge_of eq87 eq85 eq88, ge_of eq89 eq85 eq90, gi_of eq83]; omega), (by simp only [gi_of eq76, gi_of eq91]; omega), (by simp only [gi_of eq76, gi_of eq79, gi_of eq85, gi_of eq92]; omega)⟩ (Nat.le_of_ble_eq_true rfl) (Nat.le_of_ble_eq_true rfl) dX12_tell_276
    · skip
      have bd96 : (0 : Int) ≤ zi77.toInt ∧ zi77.toInt ≤ 0 := r_eq_x cn82 bd78 bc_0 (by decide) (by decide)
      refine lv_aload_n hx hb dX12_tell_90 rfl (lv_at hl 0 rfl) ?_
      refine kq_v hw hS hA (va_runV (As := []) (rest := []) ⟨hx, hb, hml, hown, hT⟩ (cX12_tellFact_0 l G cy ev K ln Ls hW _ hp67 ok68 qa900 kd900 (by simp only [ge_of eq89 eq85 eq90, ge_of eq84 eq85 eq86, gi_of eq83, ge_of eq87 eq85 eq88]; omega) (by simp only [ge_of eq84 eq85 eq86]; omega)) (cwV 0 hT (good_V tb_1643 tb_1640 tb_1642 tb_57 tb_122) rfl rfl rfl (by decide +kernel) ⟨Nat.le_of_ble_eq_true rfl, Nat.le_of_ble_eq_true rfl⟩) (pool_preV (ci := 12) hK hE hS hA hw hW kd900 (by decide) rfl) rfl rfl hl.1 rfl (lv_room (Nat.le_of_ble_eq_true rfl)) dX12_tell_91 ⟨Nat.le_of_ble_eq_true rfl, Nat.le_of_ble_eq_true rfl⟩) (fun hp97 H locs hq100 hw hS => ?_)
      obtain ⟨ok98, F99, rh102, rh103, rh104⟩ := hq100
      have hw : PW G cy K ln Ls A hp97 H := hw
      obtain ⟨zi106, eq105, bd107⟩ := rd_13013 ok98 kd900
      obtain ⟨zi109, eq108, bd110⟩ := rd_13011 ok98 kd900
      simp only [gi_of eq105, gi_of eq108, gi_of eq76, gi_of eq79] at rh102
      simp only [gi_of eq105, gi_of eq76] at rh103
      have eq111 : hp97 qa900 32 = .ref qa2 := Eq.trans (Fr.at (cq := 13032) F99 kd900 (cd_o (by decide)) (by decide)) eq89
      have eq112 : hp97 qa900 19 = .int zi5 := Eq.trans (Fr.at (cq := 13019) F99 kd900 (cd_o (by decide)) (by decide)) eq85
      have eq113 : hp97 qa2 (zi5 : Int32).toNatClampNeg = .int zi8 := Eq.trans (Fr.at (cq := 78000) F99 kd3 (cd_a (by decide)) (by decide)) eq90
      have eq114 : hp97 qa900 24 = .ref qa14 := Eq.trans (Fr.at (cq := 13024) F99 kd900 (cd_o (by decide)) (by decide)) eq84
      obtain ⟨zi116, eq115, bd117⟩ := rd_70000 ok98 kd15 ((zi5 : Int32).toNatClampNeg)
      obtain ⟨zi119, eq118, bd120⟩ := rd_13020 ok98 kd900
      have eq121 : hp97 qa900 27 = .ref qa32 := Eq.trans (Fr.at (cq := 13027) F99 kd900 (cd_o (by decide)) (by decide)) eq87
      have eq122 : hp97 qa32 (zi5 : Int32).toNatClampNeg = .int zi35 := Eq.trans (Fr.at (cq := 73000) F99 kd33 (cd_a (by decide)) (by decide)) eq88
      simp only [ge_of eq111 eq112 eq113, ge_of eq114 eq112 eq115, ge_of eq121 eq112 eq122, gi_of eq118] at rh104
      refine lv_goto (tgt := 276) hx hb dX12_tell_94 (by decide) ?_
      have pd123 : LPx hp97 qa900 := LP_fr ok0 kd900 (show Fr [13011, 13013, 13014, 13015, 13016, 13020, 67000, 68000, 69000, 70000, 71000, 72000] K hp0 hp97 from (Fr.tr (Fr.tr (Fr.rf) F69 (by decide)) F99 (by decide))) (by decide) pdLPx
      have eq124 : hp97 qa900 12 = .int zi26 := Eq.trans (Fr.at (cq := 13012) F99 kd900 (cd_o (by decide)) (by decide)) eq91
      have eq125 : hp97 qa900 38 = .int zi11 := Eq.trans (Fr.at (cq := 13038) F99 kd900 (cd_o (by decide)) (by decide)) eq92
      rw [hQ]
      exact kz_v hx hb hr hlocks hS hp97 hw ⟨ok98, (Fr.tr (Fr.tr (Fr.rf) F69 (by decide)) F99 (by decide)), ((pd123).lw), (fun _ => pd123), (by simp only [gi_of eq105, gi_of eq108, gi_of eq19, gi_of eq28]; omega), (by simp only [gi_of eq105, gi_of eq19]; omega), (by simp only [gi_of eq105, gi_of eq108, gi_of eq28]; omega), (by simp only [ge_of eq111 eq112 eq113, ge_of eq114 eq112 eq115, ge_of eq121 eq112 eq122, gi_of eq118]; omega), (by simp only [gi_of eq105, gi_of eq124]; omega), (by simp only [gi_of eq105, gi_of eq108, gi_of eq112, gi_of eq125]; omega)⟩ (Nat.le_of_ble_eq_true rfl) (Nat.le_of_ble_eq_true rfl) dX12_tell_276
  by_cases cn45 : zi43 = 21
  · skip
    refine lv_tableIn (tgt := 271) hx hb dX12_tell_9 (by rw [cn45]; decide) (by rw [cn45]; decide) (by rw [cn45]; rfl) (by decide) ?_
    have bd126 : (21 : Int) ≤ zi43.toInt ∧ zi43.toInt ≤ 21 := r_eq_x cn45 (b_all zi43) bc_21 (by decide) (by decide)
    refine lv_aload_n hx hb dX12_tell_271 rfl (lv_at hl 0 rfl) ?_
    refine lv_iconst (v := 1) hx hb dX12_tell_272 (by decide) ?_
    refine kq_v hw hS hA (va_runV (As := [.int 1]) (rest := []) ⟨hx, hb, hml, hown, hT⟩ (cX12_fail_0 l G cy ev K ln Ls hW _ hp0 ok0 qa900 1 kd900 (b_wid2 bc_1 (by decide) (by decide))) (cwV 1 hT (good_V tb_1635 tb_1632 tb_1634 tb_55 tb_122) rfl rfl rfl (by decide +kernel) ⟨Nat.le_of_ble_eq_true rfl, Nat.le_of_ble_eq_true rfl⟩) (pool_preV (ci := 12) hK hE hS hA hw hW kd900 (by decide) rfl) rfl rfl hl.1 rfl (lv_room (Nat.le_of_ble_eq_true rfl)) dX12_tell_273 ⟨Nat.le_of_ble_eq_true rfl, Nat.le_of_ble_eq_true rfl⟩) (fun hp127 H locs hq130 hw hS => ?_)
    obtain ⟨ok128, F129, ⟨zi132, eq133, bd134⟩, rh135⟩ := hq130
    have hw : PW G cy K ln Ls A hp127 H := hw
    simp only [gi_of eq133, gi_of eq19] at rh135
    have pd136 : LPx hp127 qa900 := LP_fr ok0 kd900 (show Fr [13013, 13014] K hp0 hp127 from (Fr.tr (Fr.rf) F129 (by decide))) (by decide) pdLPx
    have eq137 : hp127 qa900 11 = .int zi29 := Eq.trans (Fr.at (cq := 13011) F129 kd900 (cd_o (by decide)) (by decide)) eq28
    have eq138 : hp127 qa900 32 = .ref qa2 := Eq.trans (Fr.at (cq := 13032) F129 kd900 (cd_o (by decide)) (by decide)) eq1
    have eq139 : hp127 qa900 19 = .int zi5 := Eq.trans (Fr.at (cq := 13019) F129 kd900 (cd_o (by decide)) (by decide)) eq4
    have eq140 : hp127 qa2 (zi5 : Int32).toNatClampNeg = .int zi8 := Eq.trans (Fr.at (cq := 78000) F129 kd3 (cd_a (by decide)) (by decide)) eq7
    have eq141 : hp127 qa900 24 = .ref qa14 := Eq.trans (Fr.at (cq := 13024) F129 kd900 (cd_o (by decide)) (by decide)) eq13
    have eq142 : hp127 qa14 (zi5 : Int32).toNatClampNeg = .int zi17 := Eq.trans (Fr.at (cq := 70000) F129 kd15 (cd_a (by decide)) (by decide)) eq16
    have eq143 : hp127 qa900 20 = .int zi23 := Eq.trans (Fr.at (cq := 13020) F129 kd900 (cd_o (by decide)) (by decide)) eq22
    have eq144 : hp127 qa900 27 = .ref qa32 := Eq.trans (Fr.at (cq := 13027) F129 kd900 (cd_o (by decide)) (by decide)) eq31
    have eq145 : hp127 qa32 (zi5 : Int32).toNatClampNeg = .int zi35 := Eq.trans (Fr.at (cq := 73000) F129 kd33 (cd_a (by decide)) (by decide)) eq34
    have eq146 : hp127 qa900 12 = .int zi26 := Eq.trans (Fr.at (cq := 13012) F129 kd900 (cd_o (by decide)) (by decide)) eq25
    have eq147 : hp127 qa900 38 = .int zi11 := Eq.trans (Fr.at (cq := 13038) F129 kd900 (cd_o (by decide)) (by decide)) eq10
    rw [hQ]
    exact kz_v hx hb hr hlocks hS hp127 hw ⟨ok128, (Fr.tr (Fr.rf) F129 (by decide)), ((pd136).lw), (fun _ => pd136), (by simp only [gi_of eq133, gi_of eq137, gi_of eq19, gi_of eq28]; omega), (by simp only [gi_of eq133, gi_of eq19]; omega), (by simp only [gi_of eq133, gi_of eq137, gi_of eq28]; omega), (by simp only [ge_of eq138 eq139 eq140, ge_of eq141 eq139 eq142, ge_of eq144 eq139 eq145, gi_of eq143]; omega), (by simp only [gi_of eq133, gi_of eq146]; omega), (by simp only [gi_of eq133, gi_of eq137, gi_of eq139, gi_of eq147]; omega)⟩ (Nat.le_of_ble_eq_true rfl) (Nat.le_of_ble_eq_true rfl) dX12_tell_276
  by_cases cn46 : zi43 = 22
  · skip
    refine lv_tableIn (tgt := 271) hx hb dX12_tell_9 (by rw [cn46]; decide) (by rw [cn46]; decide) (by rw [cn46]; rfl) (by decide) ?_
    have bd148 : (22 : Int) ≤ zi43.toInt ∧ zi43.toInt ≤ 22 := r_eq_x cn46 (b_all zi43) bc_22 (by decide) (by decide)
    refine lv_aload_n hx hb dX12_tell_271 rfl (lv_at hl 0 rfl) ?_
    refine lv_iconst (v := 1) hx hb dX12_tell_272 (by decide) ?_
    refine kq_v hw hS hA (va_runV (As := [.int 1]) (rest := []) ⟨hx, hb, hml, hown, hT⟩ (cX12_fail_0 l G cy ev K ln Ls hW _ hp0 ok0 qa900 1 kd900 (b_wid2 bc_1 (by decide) (by decide))) (cwV 1 hT (good_V tb_1635 tb_1632 tb_1634 tb_55 tb_122) rfl rfl rfl (by decide +kernel) ⟨Nat.le_of_ble_eq_true rfl, Nat.le_of_ble_eq_true rfl⟩) (pool_preV (ci := 12) hK hE hS hA hw hW kd900 (by decide) rfl) rfl rfl hl.1 rfl (lv_room (Nat.le_of_ble_eq_true rfl)) dX12_tell_273 ⟨Nat.le_of_ble_eq_true rfl, Nat.le_of_ble_eq_true rfl⟩) (fun hp149 H locs hq152 hw hS => ?_)
    obtain ⟨ok150, F151, ⟨zi154, eq155, bd156⟩, rh157⟩ := hq152
    have hw : PW G cy K ln Ls A hp149 H := hw
    simp only [gi_of eq155, gi_of eq19] at rh157
    have pd158 : LPx hp149 qa900 := LP_fr ok0 kd900 (show Fr [13013, 13014] K hp0 hp149 from (Fr.tr (Fr.rf) F151 (by decide))) (by decide) pdLPx
    have eq159 : hp149 qa900 11 = .int zi29 := Eq.trans (Fr.at (cq := 13011) F151 kd900 (cd_o (by decide)) (by decide)) eq28
    have eq160 : hp149 qa900 32 = .ref qa2 := Eq.trans (Fr.at (cq := 13032) F151 kd900 (cd_o (by decide)) (by decide)) eq1
    have eq161 : hp149 qa900 19 = .int zi5 := Eq.trans (Fr.at (cq := 13019) F151 kd900 (cd_o (by decide)) (by decide)) eq4
    have eq162 : hp149 qa2 (zi5 : Int32).toNatClampNeg = .int zi8 := Eq.trans (Fr.at (cq := 78000) F151 kd3 (cd_a (by decide)) (by decide)) eq7
    have eq163 : hp149 qa900 24 = .ref qa14 := Eq.trans (Fr.at (cq := 13024) F151 kd900 (cd_o (by decide)) (by decide)) eq13
    have eq164 : hp149 qa14 (zi5 : Int32).toNatClampNeg = .int zi17 := Eq.trans (Fr.at (cq := 70000) F151 kd15 (cd_a (by decide)) (by decide)) eq16
    have eq165 : hp149 qa900 20 = .int zi23 := Eq.trans (Fr.at (cq := 13020) F151 kd900 (cd_o (by decide)) (by decide)) eq22
    have eq166 : hp149 qa900 27 = .ref qa32 := Eq.trans (Fr.at (cq := 13027) F151 kd900 (cd_o (by decide)) (by decide)) eq31
    have eq167 : hp149 qa32 (zi5 : Int32).toNatClampNeg = .int zi35 := Eq.trans (Fr.at (cq := 73000) F151 kd33 (cd_a (by decide)) (by decide)) eq34
    have eq168 : hp149 qa900 12 = .int zi26 := Eq.trans (Fr.at (cq := 13012) F151 kd900 (cd_o (by decide)) (by decide)) eq25
    have eq169 : hp149 qa900 38 = .int zi11 := Eq.trans (Fr.at (cq := 13038) F151 kd900 (cd_o (by decide)) (by decide)) eq10
    rw [hQ]
    exact kz_v hx hb hr hlocks hS hp149 hw ⟨ok150, (Fr.tr (Fr.rf) F151 (by decide)), ((pd158).lw), (fun _ => pd158), (by simp only [gi_of eq155, gi_of eq159, gi_of eq19, gi_of eq28]; omega), (by simp only [gi_of eq155, gi_of eq19]; omega), (by simp only [gi_of eq155, gi_of eq159, gi_of eq28]; omega), (by simp only [ge_of eq160 eq161 eq162, ge_of eq163 eq161 eq164, ge_of eq166 eq161 eq167, gi_of eq165]; omega), (by simp only [gi_of eq155, gi_of eq168]; omega), (by simp only [gi_of eq155, gi_of eq159, gi_of eq161, gi_of eq169]; omega)⟩ (Nat.le_of_ble_eq_true rfl) (Nat.le_of_ble_eq_true rfl) dX12_tell_276
  by_cases cn47 : zi43 = 23
  · skip
    refine lv_tableIn (tgt := 271) hx hb dX12_tell_9 (by rw [cn47]; decide) (by rw [cn47]; decide) (by rw [cn47]; rfl) (by decide) ?_
    have bd170 : (23 : Int) ≤ zi43.toInt ∧ zi43.toInt ≤ 23 := r_eq_x cn47 (b_all zi43) bc_23 (by decide) (by decide)
    refine lv_aload_n hx hb dX12_tell_271 rfl (lv_at hl 0 rfl) ?_
    refine lv_iconst (v := 1) hx hb dX12_tell_272 (by decide) ?_
    refine kq_v hw hS hA (va_runV (As := [.int 1]) (rest := []) ⟨hx, hb, hml, hown, hT⟩ (cX12_fail_0 l G cy ev K ln Ls hW _ hp0 ok0 qa900 1 kd900 (b_wid2 bc_1 (by decide) (by decide))) (cwV 1 hT (good_V tb_1635 tb_1632 tb_1634 tb_55 tb_122) rfl rfl rfl (by decide +kernel) ⟨Nat.le_of_ble_eq_true rfl, Nat.le_of_ble_eq_true rfl⟩) (pool_preV (ci := 12) hK hE hS hA hw hW kd900 (by decide) rfl) rfl rfl hl.1 rfl (lv_room (Nat.le_of_ble_eq_true rfl)) dX12_tell_273 ⟨Nat.le_of_ble_eq_true rfl, Nat.le_of_ble_eq_true rfl⟩) (fun hp171 H locs hq174 hw hS => ?_)
    obtain ⟨ok172, F173, ⟨zi176, eq177, bd178⟩, rh179⟩ := hq174
    have hw : PW G cy K ln Ls A hp171 H := hw
    simp only [gi_of eq177, gi_of eq19] at rh179
    have pd180 : LPx hp171 qa900 := LP_fr ok0 kd900 (show Fr [13013, 13014] K hp0 hp171 from (Fr.tr (Fr.rf) F173 (by decide))) (by decide) pdLPx
    have eq181 : hp171 qa900 11 = .int zi29 := Eq.trans (Fr.at (cq := 13011) F173 kd900 (cd_o (by decide)) (by decide)) eq28
    have eq182 : hp171 qa900 32 = .ref qa2 := Eq.trans (Fr.at (cq := 13032) F173 kd900 (cd_o (by decide)) (by decide)) eq1
    have eq183 : hp171 qa900 19 = .int zi5 := Eq.trans (Fr.at (cq := 13019) F173 kd900 (cd_o (by decide)) (by decide)) eq4
    have eq184 : hp171 qa2 (zi5 : Int32).toNatClampNeg = .int zi8 := Eq.trans (Fr.at (cq := 78000) F173 kd3 (cd_a (by decide)) (by decide)) eq7
    have eq185 : hp171 qa900 24 = .ref qa14 := Eq.trans (Fr.at (cq := 13024) F173 kd900 (cd_o (by decide)) (by decide)) eq13
    have eq186 : hp171 qa14 (zi5 : Int32).toNatClampNeg = .int zi17 := Eq.trans (Fr.at (cq := 70000) F173 kd15 (cd_a (by decide)) (by decide)) eq16
    have eq187 : hp171 qa900 20 = .int zi23 := Eq.trans (Fr.at (cq := 13020) F173 kd900 (cd_o (by decide)) (by decide)) eq22
    have eq188 : hp171 qa900 27 = .ref qa32 := Eq.trans (Fr.at (cq := 13027) F173 kd900 (cd_o (by decide)) (by decide)) eq31
    have eq189 : hp171 qa32 (zi5 : Int32).toNatClampNeg = .int zi35 := Eq.trans (Fr.at (cq := 73000) F173 kd33 (cd_a (by decide)) (by decide)) eq34
    have eq190 : hp171 qa900 12 = .int zi26 := Eq.trans (Fr.at (cq := 13012) F173 kd900 (cd_o (by decide)) (by decide)) eq25
    have eq191 : hp171 qa900 38 = .int zi11 := Eq.trans (Fr.at (cq := 13038) F173 kd900 (cd_o (by decide)) (by decide)) eq10
    rw [hQ]
    exact kz_v hx hb hr hlocks hS hp171 hw ⟨ok172, (Fr.tr (Fr.rf) F173 (by decide)), ((pd180).lw), (fun _ => pd180), (by simp only [gi_of eq177, gi_of eq181, gi_of eq19, gi_of eq28]; omega), (by simp only [gi_of eq177, gi_of eq19]; omega), (by simp only [gi_of eq177, gi_of eq181, gi_of eq28]; omega), (by simp only [ge_of eq182 eq183 eq184, ge_of eq185 eq183 eq186, ge_of eq188 eq183 eq189, gi_of eq187]; omega), (by simp only [gi_of eq177, gi_of eq190]; omega), (by simp only [gi_of eq177, gi_of eq181, gi_of eq183, gi_of eq191]; omega)⟩ (Nat.le_of_ble_eq_true rfl) (Nat.le_of_ble_eq_true rfl) dX12_tell_276
  by_cases cn48 : zi43 = 24
  · skip
    refine lv_tableIn (tgt := 97) hx hb dX12_tell_9 (by rw [cn48]; decide) (by rw [cn48]; decide) (by rw [cn48]; rfl) (by decide) ?_
    have bd192 : (24 : Int) ≤ zi43.toInt ∧ zi43.toInt ≤ 24 := r_eq_x cn48 (b_all zi43) bc_24 (by decide) (by decide)
    refine lv_aload_n hx hb dX12_tell_97 rfl (lv_at hl 0 rfl) ?_
    refine lv_aload_n hx hb dX12_tell_98 rfl (lv_at hl 0 rfl) ?_
    refine p_get (ci := 12) (v := .ref qa32) (C := RX12) (T := TX12) (N := 69) hx hb hT iw_X12 hown hK hw hW kd900 (by decide) rfl rfl 27 (by decide) eq31 (hT _ tb_1401) (fun _ h9 => h9) dX12_tell_99 ?_
    refine lv_aload_n hx hb dX12_tell_102 rfl (lv_at hl 0 rfl) ?_
    refine p_get (ci := 12) (v := .int zi5) (C := RX12) (T := TX12) (N := 69) hx hb hT iw_X12 hown hK hw hW kd900 (by decide) rfl rfl 19 (by decide) eq4 (hT _ tb_1393) (fun _ h9 => h9) dX12_tell_103 ?_
    refine p_iald (v := zi35) hx hb hK hw hW kd33 (by decide) rfl (hW.len kd33 (n := 2) rfl (by decide)) (vp_b bd6 (by decide) (by decide)) eq34 dX12_tell_106 ?_
    refine lv_bipush (v := 6) hx hb dX12_tell_107 (by decide) ?_
    refine kq_v hw hS hA (va_runV (As := [.int zi35, .int 6]) (rest := []) ⟨hx, hb, hml, hown, hT⟩ (cX12_roomFor_0 l G cy ev K ln Ls hW _ hp0 ok0 qa900 zi35 6 kd900 (b_wid2 bd36 (by decide) (by decide)) (b_wid2 bc_6 (by decide) (by decide))) (cwV 2 hT (good_V tb_1631 tb_1628 tb_1630 tb_54 tb_122) rfl rfl rfl (by decide +kernel) ⟨Nat.le_of_ble_eq_true rfl, Nat.le_of_ble_eq_true rfl⟩) (pool_preV (ci := 12) hK hE hS hA hw hW kd900 (by decide) rfl) rfl rfl hl.1 rfl (lv_room (Nat.le_of_ble_eq_true rfl)) dX12_tell_109 ⟨Nat.le_of_ble_eq_true rfl, Nat.le_of_ble_eq_true rfl⟩) (fun hp193 H locs hq196 hw hS => ?_)
    obtain ⟨ok194, F195, rh198, rh199, rh200, rh201⟩ := hq196
    have hw : PW G cy K ln Ls A hp193 H := hw
    obtain ⟨zi203, eq202, bd204⟩ := rd_13013 ok194 kd900
    obtain ⟨zi206, eq205, bd207⟩ := rd_13011 ok194 kd900
    simp only [gi_of eq19, gi_of eq202, gi_of eq205, gi_of eq28] at rh198
    simp only [gi_of eq19, gi_of eq202] at rh199
    simp only [gi_of eq202, gi_of eq205, gi_of eq28] at rh200
    simp only [gi_of eq202, toi bc_6] at rh201
    refine lv_aload_n hx hb dX12_tell_112 rfl (lv_at hl 0 rfl) ?_
    refine p_get (ci := 12) (v := .int zi203) (C := RX12) (T := TX12) (N := 69) hx hb hT iw_X12 hown hK hw hW kd900 (by decide) rfl rfl 13 (by decide) eq202 (hT _ tb_1387) (fun _ h9 => h9) dX12_tell_113 ?_
    have eq209 : hp193 qa900 20 = .int zi23 := Eq.trans (Fr.at (cq := 13020) F195 kd900 (cd_o (by decide)) (by decide)) eq22
    have eq210 : hp193 qa900 24 = .ref qa14 := Eq.trans (Fr.at (cq := 13024) F195 kd900 (cd_o (by decide)) (by decide)) eq13
    have eq211 : hp193 qa900 19 = .int zi5 := Eq.trans (Fr.at (cq := 13019) F195 kd900 (cd_o (by decide)) (by decide)) eq4
    have eq212 : hp193 qa14 (zi5 : Int32).toNatClampNeg = .int zi17 := Eq.trans (Fr.at (cq := 70000) F195 kd15 (cd_a (by decide)) (by decide)) eq16
    have eq213 : hp193 qa900 27 = .ref qa32 := Eq.trans (Fr.at (cq := 13027) F195 kd900 (cd_o (by decide)) (by decide)) eq31
    have eq214 : hp193 qa32 (zi5 : Int32).toNatClampNeg = .int zi35 := Eq.trans (Fr.at (cq := 73000) F195 kd33 (cd_a (by decide)) (by decide)) eq34
    have eq215 : hp193 qa900 32 = .ref qa2 := Eq.trans (Fr.at (cq := 13032) F195 kd900 (cd_o (by decide)) (by decide)) eq1
    have eq216 : hp193 qa2 (zi5 : Int32).toNatClampNeg = .int zi8 := Eq.trans (Fr.at (cq := 78000) F195 kd3 (cd_a (by decide)) (by decide)) eq7
    have eq217 : hp193 qa900 12 = .int zi26 := Eq.trans (Fr.at (cq := 13012) F195 kd900 (cd_o (by decide)) (by decide)) eq25
    have eq218 : hp193 qa900 38 = .int zi11 := Eq.trans (Fr.at (cq := 13038) F195 kd900 (cd_o (by decide)) (by decide)) eq10
    refine lv_if_ne (tgt := 276) hx hb dX12_tell_116 (by decide) (fun cn208 => ?_) (fun cn208 => ?_)
    · skip
      have tf219 : (zi203 : Int32).toInt ≠ (0 : Int32).toInt := fun e => cn208 (Int32.toInt_inj.mp e)
      have := toi bc_0
      have bd220 : (1 : Int) ≤ zi203.toInt ∧ zi203.toInt ≤ 2 := r_ne_lo cn208 bd204 (toi bc_0) (by decide) (by decide)
      have pd221 : LPx hp193 qa900 := LP_fr ok0 kd900 (show Fr [13011, 13013, 13014] K hp0 hp193 from (Fr.tr (Fr.rf) F195 (by decide))) (by decide) pdLPx
      rw [hQ]
      exact kz_v hx hb hr hlocks hS hp193 hw ⟨ok194, (Fr.tr (Fr.rf) F195 (by decide)), ((pd221).lw), (fun _ => pd221), (by simp only [gi_of eq19, gi_of eq202, gi_of eq205, gi_of eq28]; omega), (by simp only [gi_of eq19, gi_of eq202]; omega), (by simp only [gi_of eq202, gi_of eq205, gi_of eq28]; omega), (by simp only [ge_of eq210 eq211 eq212, ge_of eq213 eq211 eq214, ge_of eq215 eq211 eq216, gi_of eq209]; omega), (by simp only [gi_of eq202, gi_of eq217]; omega), (by simp only [gi_of eq202, gi_of eq205, gi_of eq211, gi_of eq218]; omega)⟩ (Nat.le_of_ble_eq_true rfl) (Nat.le_of_ble_eq_true rfl) dX12_tell_276
    · skip
      have bd222 : (0 : Int) ≤ zi203.toInt ∧ zi203.toInt ≤ 0 := r_eq_x cn208 bd204 bc_0 (by decide) (by decide)
      refine lv_aload_n hx hb dX12_tell_119 rfl (lv_at hl 0 rfl) ?_
      refine kq_v hw hS hA (va_runV (As := []) (rest := []) ⟨hx, hb, hml, hown, hT⟩ (cX12_tellWitness_0 l G cy ev K ln Ls hW _ hp193 ok194 qa900 kd900 (by simp only [ge_of eq215 eq211 eq216, ge_of eq210 eq211 eq212, gi_of eq209, ge_of eq213 eq211 eq214]; omega) (by simp only [ge_of eq213 eq211 eq214]; omega)) (cwV 0 hT (good_V tb_1663 tb_1660 tb_1662 tb_62 tb_122) rfl rfl rfl (by decide +kernel) ⟨Nat.le_of_ble_eq_true rfl, Nat.le_of_ble_eq_true rfl⟩) (pool_preV (ci := 12) hK hE hS hA hw hW kd900 (by decide) rfl) rfl rfl hl.1 rfl (lv_room (Nat.le_of_ble_eq_true rfl)) dX12_tell_120 ⟨Nat.le_of_ble_eq_true rfl, Nat.le_of_ble_eq_true rfl⟩) (fun hp223 H locs hq226 hw hS => ?_)
      obtain ⟨ok224, F225, rh228, rh229, rh230⟩ := hq226
      have hw : PW G cy K ln Ls A hp223 H := hw
      obtain ⟨zi232, eq231, bd233⟩ := rd_13013 ok224 kd900
      obtain ⟨zi235, eq234, bd236⟩ := rd_13011 ok224 kd900
      simp only [gi_of eq202, gi_of eq205, gi_of eq231, gi_of eq234] at rh228
      simp only [gi_of eq202, gi_of eq231] at rh229
      have eq237 : hp223 qa900 32 = .ref qa2 := Eq.trans (Fr.at (cq := 13032) F225 kd900 (cd_o (by decide)) (by decide)) eq215
      have eq238 : hp223 qa900 19 = .int zi5 := Eq.trans (Fr.at (cq := 13019) F225 kd900 (cd_o (by decide)) (by decide)) eq211
      have eq239 : hp223 qa2 (zi5 : Int32).toNatClampNeg = .int zi8 := Eq.trans (Fr.at (cq := 78000) F225 kd3 (cd_a (by decide)) (by decide)) eq216
      have eq240 : hp223 qa900 24 = .ref qa14 := Eq.trans (Fr.at (cq := 13024) F225 kd900 (cd_o (by decide)) (by decide)) eq210
      have eq241 : hp223 qa14 (zi5 : Int32).toNatClampNeg = .int zi17 := Eq.trans (Fr.at (cq := 70000) F225 kd15 (cd_a (by decide)) (by decide)) eq212
      obtain ⟨zi243, eq242, bd244⟩ := rd_13020 ok224 kd900
      have eq245 : hp223 qa900 27 = .ref qa32 := Eq.trans (Fr.at (cq := 13027) F225 kd900 (cd_o (by decide)) (by decide)) eq213
      obtain ⟨zi247, eq246, bd248⟩ := rd_73000 ok224 kd33 ((zi5 : Int32).toNatClampNeg)
      simp only [ge_of eq237 eq238 eq239, ge_of eq240 eq238 eq241, ge_of eq245 eq238 eq246, gi_of eq242] at rh230
      refine lv_goto (tgt := 276) hx hb dX12_tell_123 (by decide) ?_
      have pd249 : LPx hp223 qa900 := LP_fr ok0 kd900 (show Fr [13011, 13013, 13014, 13015, 13016, 13020, 67000, 68000, 69000, 73000] K hp0 hp223 from (Fr.tr (Fr.tr (Fr.rf) F195 (by decide)) F225 (by decide))) (by decide) pdLPx
      have eq250 : hp223 qa900 12 = .int zi26 := Eq.trans (Fr.at (cq := 13012) F225 kd900 (cd_o (by decide)) (by decide)) eq217
      have eq251 : hp223 qa900 38 = .int zi11 := Eq.trans (Fr.at (cq := 13038) F225 kd900 (cd_o (by decide)) (by decide)) eq218
      rw [hQ]
      exact kz_v hx hb hr hlocks hS hp223 hw ⟨ok224, (Fr.tr (Fr.tr (Fr.rf) F195 (by decide)) F225 (by decide)), ((pd249).lw), (fun _ => pd249), (by simp only [gi_of eq19, gi_of eq231, gi_of eq234, gi_of eq28]; omega), (by simp only [gi_of eq19, gi_of eq231]; omega), (by simp only [gi_of eq231, gi_of eq234, gi_of eq28]; omega), (by simp only [ge_of eq237 eq238 eq239, ge_of eq240 eq238 eq241, ge_of eq245 eq238 eq246, gi_of eq242]; omega), (by simp only [gi_of eq231, gi_of eq250]; omega), (by simp only [gi_of eq231, gi_of eq234, gi_of eq238, gi_of eq251]; omega)⟩ (Nat.le_of_ble_eq_true rfl) (Nat.le_of_ble_eq_true rfl) dX12_tell_276
  by_cases cn49 : zi43 = 25
  · skip
    refine lv_tableIn (tgt := 126) hx hb dX12_tell_9 (by rw [cn49]; decide) (by rw [cn49]; decide) (by rw [cn49]; rfl) (by decide) ?_
    have bd252 : (25 : Int) ≤ zi43.toInt ∧ zi43.toInt ≤ 25 := r_eq_x cn49 (b_all zi43) bc_25 (by decide) (by decide)
    refine lv_aload_n hx hb dX12_tell_126 rfl (lv_at hl 0 rfl) ?_
    refine lv_aload_n hx hb dX12_tell_127 rfl (lv_at hl 0 rfl) ?_
    obtain ⟨qa254, eq253, kd255⟩ := rd_13028 ok0 kd900
    refine p_get (ci := 12) (v := .ref qa254) (C := RX12) (T := TX12) (N := 69) hx hb hT iw_X12 hown hK hw hW kd900 (by decide) rfl rfl 28 (by decide) eq253 (hT _ tb_1402) (fun _ h9 => h9) dX12_tell_128 ?_
    refine lv_aload_n hx hb dX12_tell_131 rfl (lv_at hl 0 rfl) ?_
    refine p_get (ci := 12) (v := .int zi5) (C := RX12) (T := TX12) (N := 69) hx hb hT iw_X12 hown hK hw hW kd900 (by decide) rfl rfl 19 (by decide) eq4 (hT _ tb_1393) (fun _ h9 => h9) dX12_tell_132 ?_
    obtain ⟨zi257, eq256, bd258⟩ := rd_74000 ok0 kd255 ((zi5 : Int32).toNatClampNeg)
    refine p_iald (v := zi257) hx hb hK hw hW kd255 (by decide) rfl (hW.len kd255 (n := 2) rfl (by decide)) (vp_b bd6 (by decide) (by decide)) eq256 dX12_tell_135 ?_
    refine lv_bipush (v := 16) hx hb dX12_tell_136 (by decide) ?_
    refine kq_v hw hS hA (va_runV (As := [.int zi257, .int 16]) (rest := []) ⟨hx, hb, hml, hown, hT⟩ (cX12_roomFor_1 l G cy ev K ln Ls hW _ hp0 ok0 qa900 zi257 16 kd900 (b_wid2 bd258 (by decide) (by decide)) (b_wid2 bc_16 (by decide) (by decide))) (cwV 2 hT (good_V tb_1631 tb_1628 tb_1630 tb_54 tb_122) rfl rfl rfl (by decide +kernel) ⟨Nat.le_of_ble_eq_true rfl, Nat.le_of_ble_eq_true rfl⟩) (pool_preV (ci := 12) hK hE hS hA hw hW kd900 (by decide) rfl) rfl rfl hl.1 rfl (lv_room (Nat.le_of_ble_eq_true rfl)) dX12_tell_138 ⟨Nat.le_of_ble_eq_true rfl, Nat.le_of_ble_eq_true rfl⟩) (fun hp259 H locs hq262 hw hS => ?_)
    obtain ⟨ok260, F261, rh264, rh265, rh266, rh267⟩ := hq262
    have hw : PW G cy K ln Ls A hp259 H := hw
    obtain ⟨zi269, eq268, bd270⟩ := rd_13013 ok260 kd900
    obtain ⟨zi272, eq271, bd273⟩ := rd_13011 ok260 kd900
    simp only [gi_of eq19, gi_of eq268, gi_of eq271, gi_of eq28] at rh264
    simp only [gi_of eq19, gi_of eq268] at rh265
    simp only [gi_of eq268, gi_of eq271, gi_of eq28] at rh266
    simp only [gi_of eq268, toi bc_16] at rh267
    refine lv_aload_n hx hb dX12_tell_141 rfl (lv_at hl 0 rfl) ?_
    refine p_get (ci := 12) (v := .int zi269) (C := RX12) (T := TX12) (N := 69) hx hb hT iw_X12 hown hK hw hW kd900 (by decide) rfl rfl 13 (by decide) eq268 (hT _ tb_1387) (fun _ h9 => h9) dX12_tell_142 ?_
    have eq275 : hp259 qa900 20 = .int zi23 := Eq.trans (Fr.at (cq := 13020) F261 kd900 (cd_o (by decide)) (by decide)) eq22
    have eq276 : hp259 qa900 24 = .ref qa14 := Eq.trans (Fr.at (cq := 13024) F261 kd900 (cd_o (by decide)) (by decide)) eq13
    have eq277 : hp259 qa900 19 = .int zi5 := Eq.trans (Fr.at (cq := 13019) F261 kd900 (cd_o (by decide)) (by decide)) eq4
    have eq278 : hp259 qa14 (zi5 : Int32).toNatClampNeg = .int zi17 := Eq.trans (Fr.at (cq := 70000) F261 kd15 (cd_a (by decide)) (by decide)) eq16
    have eq279 : hp259 qa900 27 = .ref qa32 := Eq.trans (Fr.at (cq := 13027) F261 kd900 (cd_o (by decide)) (by decide)) eq31
    have eq280 : hp259 qa32 (zi5 : Int32).toNatClampNeg = .int zi35 := Eq.trans (Fr.at (cq := 73000) F261 kd33 (cd_a (by decide)) (by decide)) eq34
    have eq281 : hp259 qa900 32 = .ref qa2 := Eq.trans (Fr.at (cq := 13032) F261 kd900 (cd_o (by decide)) (by decide)) eq1
    have eq282 : hp259 qa2 (zi5 : Int32).toNatClampNeg = .int zi8 := Eq.trans (Fr.at (cq := 78000) F261 kd3 (cd_a (by decide)) (by decide)) eq7
    have eq283 : hp259 qa900 12 = .int zi26 := Eq.trans (Fr.at (cq := 13012) F261 kd900 (cd_o (by decide)) (by decide)) eq25
    have eq284 : hp259 qa900 38 = .int zi11 := Eq.trans (Fr.at (cq := 13038) F261 kd900 (cd_o (by decide)) (by decide)) eq10
    refine lv_if_ne (tgt := 276) hx hb dX12_tell_145 (by decide) (fun cn274 => ?_) (fun cn274 => ?_)
    · skip
      have tf285 : (zi269 : Int32).toInt ≠ (0 : Int32).toInt := fun e => cn274 (Int32.toInt_inj.mp e)
      have := toi bc_0
      have bd286 : (1 : Int) ≤ zi269.toInt ∧ zi269.toInt ≤ 2 := r_ne_lo cn274 bd270 (toi bc_0) (by decide) (by decide)
      have pd287 : LPx hp259 qa900 := LP_fr ok0 kd900 (show Fr [13011, 13013, 13014] K hp0 hp259 from (Fr.tr (Fr.rf) F261 (by decide))) (by decide) pdLPx
      rw [hQ]
      exact kz_v hx hb hr hlocks hS hp259 hw ⟨ok260, (Fr.tr (Fr.rf) F261 (by decide)), ((pd287).lw), (fun _ => pd287), (by simp only [gi_of eq19, gi_of eq268, gi_of eq271, gi_of eq28]; omega), (by simp only [gi_of eq19, gi_of eq268]; omega), (by simp only [gi_of eq268, gi_of eq271, gi_of eq28]; omega), (by simp only [ge_of eq276 eq277 eq278, ge_of eq279 eq277 eq280, ge_of eq281 eq277 eq282, gi_of eq275]; omega), (by simp only [gi_of eq268, gi_of eq283]; omega), (by simp only [gi_of eq268, gi_of eq271, gi_of eq277, gi_of eq284]; omega)⟩ (Nat.le_of_ble_eq_true rfl) (Nat.le_of_ble_eq_true rfl) dX12_tell_276
    · skip
      have bd288 : (0 : Int) ≤ zi269.toInt ∧ zi269.toInt ≤ 0 := r_eq_x cn274 bd270 bc_0 (by decide) (by decide)
      refine lv_aload_n hx hb dX12_tell_148 rfl (lv_at hl 0 rfl) ?_
      have eq289 : hp259 qa900 28 = .ref qa254 := Eq.trans (Fr.at (cq := 13028) F261 kd900 (cd_o (by decide)) (by decide)) eq253
      have eq290 : hp259 qa254 (zi5 : Int32).toNatClampNeg = .int zi257 := Eq.trans (Fr.at (cq := 74000) F261 kd255 (cd_a (by decide)) (by decide)) eq256
      refine kq_v hw hS hA (va_runV (As := []) (rest := []) ⟨hx, hb, hml, hown, hT⟩ (cX12_tellWord_0 l G cy ev K ln Ls hW _ hp259 ok260 qa900 kd900 (by simp only [gi_of eq268, gi_of eq283]; omega) (by simp only [ge_of eq289 eq277 eq290]; omega)) (cwV 0 hT (good_V tb_1667 tb_1664 tb_1666 tb_63 tb_122) rfl rfl rfl (by decide +kernel) ⟨Nat.le_of_ble_eq_true rfl, Nat.le_of_ble_eq_true rfl⟩) (pool_preV (ci := 12) hK hE hS hA hw hW kd900 (by decide) rfl) rfl rfl hl.1 rfl (lv_room (Nat.le_of_ble_eq_true rfl)) dX12_tell_149 ⟨Nat.le_of_ble_eq_true rfl, Nat.le_of_ble_eq_true rfl⟩) (fun hp291 H locs hq294 hw hS => ?_)
      obtain ⟨ok292, F293, rh296, rh297, rh298⟩ := hq294
      have hw : PW G cy K ln Ls A hp291 H := hw
      obtain ⟨zi300, eq299, bd301⟩ := rd_13013 ok292 kd900
      obtain ⟨zi303, eq302, bd304⟩ := rd_13011 ok292 kd900
      simp only [gi_of eq268, gi_of eq271, gi_of eq299, gi_of eq302] at rh296
      simp only [gi_of eq268, gi_of eq299] at rh297
      obtain ⟨zi306, eq305, bd307⟩ := rd_13012 ok292 kd900
      simp only [gi_of eq299, gi_of eq305] at rh298
      refine lv_goto (tgt := 276) hx hb dX12_tell_152 (by decide) ?_
      have pd308 : LPx hp291 qa900 := LP_fr ok0 kd900 (show Fr [13011, 13012, 13013, 13014, 13015, 13016, 74000, 75000, 76000, 77000, 86000, 87000, 88000] K hp0 hp291 from (Fr.tr (Fr.tr (Fr.rf) F261 (by decide)) F293 (by decide))) (by decide) pdLPx
      have eq309 : hp291 qa900 32 = .ref qa2 := Eq.trans (Fr.at (cq := 13032) F293 kd900 (cd_o (by decide)) (by decide)) eq281
      have eq310 : hp291 qa900 19 = .int zi5 := Eq.trans (Fr.at (cq := 13019) F293 kd900 (cd_o (by decide)) (by decide)) eq277
      have eq311 : hp291 qa2 (zi5 : Int32).toNatClampNeg = .int zi8 := Eq.trans (Fr.at (cq := 78000) F293 kd3 (cd_a (by decide)) (by decide)) eq282
      have eq312 : hp291 qa900 24 = .ref qa14 := Eq.trans (Fr.at (cq := 13024) F293 kd900 (cd_o (by decide)) (by decide)) eq276
      have eq313 : hp291 qa14 (zi5 : Int32).toNatClampNeg = .int zi17 := Eq.trans (Fr.at (cq := 70000) F293 kd15 (cd_a (by decide)) (by decide)) eq278
      have eq314 : hp291 qa900 20 = .int zi23 := Eq.trans (Fr.at (cq := 13020) F293 kd900 (cd_o (by decide)) (by decide)) eq275
      have eq315 : hp291 qa900 27 = .ref qa32 := Eq.trans (Fr.at (cq := 13027) F293 kd900 (cd_o (by decide)) (by decide)) eq279
      have eq316 : hp291 qa32 (zi5 : Int32).toNatClampNeg = .int zi35 := Eq.trans (Fr.at (cq := 73000) F293 kd33 (cd_a (by decide)) (by decide)) eq280
      have eq317 : hp291 qa900 38 = .int zi11 := Eq.trans (Fr.at (cq := 13038) F293 kd900 (cd_o (by decide)) (by decide)) eq284
      rw [hQ]
      exact kz_v hx hb hr hlocks hS hp291 hw ⟨ok292, (Fr.tr (Fr.tr (Fr.rf) F261 (by decide)) F293 (by decide)), ((pd308).lw), (fun _ => pd308), (by simp only [gi_of eq19, gi_of eq28, gi_of eq299, gi_of eq302]; omega), (by simp only [gi_of eq19, gi_of eq299]; omega), (by simp only [gi_of eq28, gi_of eq299, gi_of eq302]; omega), (by simp only [ge_of eq309 eq310 eq311, ge_of eq312 eq310 eq313, ge_of eq315 eq310 eq316, gi_of eq314]; omega), (by simp only [gi_of eq299, gi_of eq305]; omega), (by simp only [gi_of eq299, gi_of eq302, gi_of eq310, gi_of eq317]; omega)⟩ (Nat.le_of_ble_eq_true rfl) (Nat.le_of_ble_eq_true rfl) dX12_tell_276
  by_cases cn50 : zi43 = 26
  · skip
    refine lv_tableIn (tgt := 271) hx hb dX12_tell_9 (by rw [cn50]; decide) (by rw [cn50]; decide) (by rw [cn50]; rfl) (by decide) ?_
    have bd318 : (26 : Int) ≤ zi43.toInt ∧ zi43.toInt ≤ 26 := r_eq_x cn50 (b_all zi43) bc_26 (by decide) (by decide)
    refine lv_aload_n hx hb dX12_tell_271 rfl (lv_at hl 0 rfl) ?_
    refine lv_iconst (v := 1) hx hb dX12_tell_272 (by decide) ?_
    refine kq_v hw hS hA (va_runV (As := [.int 1]) (rest := []) ⟨hx, hb, hml, hown, hT⟩ (cX12_fail_0 l G cy ev K ln Ls hW _ hp0 ok0 qa900 1 kd900 (b_wid2 bc_1 (by decide) (by decide))) (cwV 1 hT (good_V tb_1635 tb_1632 tb_1634 tb_55 tb_122) rfl rfl rfl (by decide +kernel) ⟨Nat.le_of_ble_eq_true rfl, Nat.le_of_ble_eq_true rfl⟩) (pool_preV (ci := 12) hK hE hS hA hw hW kd900 (by decide) rfl) rfl rfl hl.1 rfl (lv_room (Nat.le_of_ble_eq_true rfl)) dX12_tell_273 ⟨Nat.le_of_ble_eq_true rfl, Nat.le_of_ble_eq_true rfl⟩) (fun hp319 H locs hq322 hw hS => ?_)
    obtain ⟨ok320, F321, ⟨zi324, eq325, bd326⟩, rh327⟩ := hq322
    have hw : PW G cy K ln Ls A hp319 H := hw
    simp only [gi_of eq19, gi_of eq325] at rh327
    have pd328 : LPx hp319 qa900 := LP_fr ok0 kd900 (show Fr [13013, 13014] K hp0 hp319 from (Fr.tr (Fr.rf) F321 (by decide))) (by decide) pdLPx
    have eq329 : hp319 qa900 11 = .int zi29 := Eq.trans (Fr.at (cq := 13011) F321 kd900 (cd_o (by decide)) (by decide)) eq28
    have eq330 : hp319 qa900 32 = .ref qa2 := Eq.trans (Fr.at (cq := 13032) F321 kd900 (cd_o (by decide)) (by decide)) eq1
    have eq331 : hp319 qa900 19 = .int zi5 := Eq.trans (Fr.at (cq := 13019) F321 kd900 (cd_o (by decide)) (by decide)) eq4
    have eq332 : hp319 qa2 (zi5 : Int32).toNatClampNeg = .int zi8 := Eq.trans (Fr.at (cq := 78000) F321 kd3 (cd_a (by decide)) (by decide)) eq7
    have eq333 : hp319 qa900 24 = .ref qa14 := Eq.trans (Fr.at (cq := 13024) F321 kd900 (cd_o (by decide)) (by decide)) eq13
    have eq334 : hp319 qa14 (zi5 : Int32).toNatClampNeg = .int zi17 := Eq.trans (Fr.at (cq := 70000) F321 kd15 (cd_a (by decide)) (by decide)) eq16
    have eq335 : hp319 qa900 20 = .int zi23 := Eq.trans (Fr.at (cq := 13020) F321 kd900 (cd_o (by decide)) (by decide)) eq22
    have eq336 : hp319 qa900 27 = .ref qa32 := Eq.trans (Fr.at (cq := 13027) F321 kd900 (cd_o (by decide)) (by decide)) eq31
    have eq337 : hp319 qa32 (zi5 : Int32).toNatClampNeg = .int zi35 := Eq.trans (Fr.at (cq := 73000) F321 kd33 (cd_a (by decide)) (by decide)) eq34
    have eq338 : hp319 qa900 12 = .int zi26 := Eq.trans (Fr.at (cq := 13012) F321 kd900 (cd_o (by decide)) (by decide)) eq25
    have eq339 : hp319 qa900 38 = .int zi11 := Eq.trans (Fr.at (cq := 13038) F321 kd900 (cd_o (by decide)) (by decide)) eq10
    rw [hQ]
    exact kz_v hx hb hr hlocks hS hp319 hw ⟨ok320, (Fr.tr (Fr.rf) F321 (by decide)), ((pd328).lw), (fun _ => pd328), (by simp only [gi_of eq19, gi_of eq28, gi_of eq325, gi_of eq329]; omega), (by simp only [gi_of eq19, gi_of eq325]; omega), (by simp only [gi_of eq28, gi_of eq325, gi_of eq329]; omega), (by simp only [ge_of eq330 eq331 eq332, ge_of eq333 eq331 eq334, ge_of eq336 eq331 eq337, gi_of eq335]; omega), (by simp only [gi_of eq325, gi_of eq338]; omega), (by simp only [gi_of eq325, gi_of eq329, gi_of eq331, gi_of eq339]; omega)⟩ (Nat.le_of_ble_eq_true rfl) (Nat.le_of_ble_eq_true rfl) dX12_tell_276
  by_cases cn51 : zi43 = 27
  · skip
    refine lv_tableIn (tgt := 155) hx hb dX12_tell_9 (by rw [cn51]; decide) (by rw [cn51]; decide) (by rw [cn51]; rfl) (by decide) ?_
    have bd340 : (27 : Int) ≤ zi43.toInt ∧ zi43.toInt ≤ 27 := r_eq_x cn51 (b_all zi43) bc_27 (by decide) (by decide)
    refine lv_aload_n hx hb dX12_tell_155 rfl (lv_at hl 0 rfl) ?_
    refine lv_aload_n hx hb dX12_tell_156 rfl (lv_at hl 0 rfl) ?_
    refine p_get (ci := 12) (v := .ref qa2) (C := RX12) (T := TX12) (N := 69) hx hb hT iw_X12 hown hK hw hW kd900 (by decide) rfl rfl 32 (by decide) eq1 (hT _ tb_1406) (fun _ h9 => h9) dX12_tell_157 ?_
    refine lv_aload_n hx hb dX12_tell_160 rfl (lv_at hl 0 rfl) ?_
    refine p_get (ci := 12) (v := .int zi5) (C := RX12) (T := TX12) (N := 69) hx hb hT iw_X12 hown hK hw hW kd900 (by decide) rfl rfl 19 (by decide) eq4 (hT _ tb_1393) (fun _ h9 => h9) dX12_tell_161 ?_
    refine p_iald (v := zi8) hx hb hK hw hW kd3 (by decide) rfl (hW.len kd3 (n := 2) rfl (by decide)) (vp_b bd6 (by decide) (by decide)) eq7 dX12_tell_164 ?_
    refine lv_bipush (v := 8) hx hb dX12_tell_165 (by decide) ?_
    refine kq_v hw hS hA (va_runV (As := [.int zi8, .int 8]) (rest := []) ⟨hx, hb, hml, hown, hT⟩ (cX12_roomFor_2 l G cy ev K ln Ls hW _ hp0 ok0 qa900 zi8 8 kd900 (b_wid2 bd9 (by decide) (by decide)) (b_wid2 bc_8 (by decide) (by decide))) (cwV 2 hT (good_V tb_1631 tb_1628 tb_1630 tb_54 tb_122) rfl rfl rfl (by decide +kernel) ⟨Nat.le_of_ble_eq_true rfl, Nat.le_of_ble_eq_true rfl⟩) (pool_preV (ci := 12) hK hE hS hA hw hW kd900 (by decide) rfl) rfl rfl hl.1 rfl (lv_room (Nat.le_of_ble_eq_true rfl)) dX12_tell_167 ⟨Nat.le_of_ble_eq_true rfl, Nat.le_of_ble_eq_true rfl⟩) (fun hp341 H locs hq344 hw hS => ?_)
    obtain ⟨ok342, F343, rh346, rh347, rh348, rh349⟩ := hq344
    have hw : PW G cy K ln Ls A hp341 H := hw
    obtain ⟨zi351, eq350, bd352⟩ := rd_13013 ok342 kd900
    obtain ⟨zi354, eq353, bd355⟩ := rd_13011 ok342 kd900
    simp only [gi_of eq19, gi_of eq28, gi_of eq350, gi_of eq353] at rh346
    simp only [gi_of eq19, gi_of eq350] at rh347
    simp only [gi_of eq28, gi_of eq350, gi_of eq353] at rh348
    simp only [gi_of eq350, toi bc_8] at rh349
    refine lv_aload_n hx hb dX12_tell_170 rfl (lv_at hl 0 rfl) ?_
    refine p_get (ci := 12) (v := .int zi351) (C := RX12) (T := TX12) (N := 69) hx hb hT iw_X12 hown hK hw hW kd900 (by decide) rfl rfl 13 (by decide) eq350 (hT _ tb_1387) (fun _ h9 => h9) dX12_tell_171 ?_
    have eq357 : hp341 qa900 20 = .int zi23 := Eq.trans (Fr.at (cq := 13020) F343 kd900 (cd_o (by decide)) (by decide)) eq22
    have eq358 : hp341 qa900 24 = .ref qa14 := Eq.trans (Fr.at (cq := 13024) F343 kd900 (cd_o (by decide)) (by decide)) eq13
    have eq359 : hp341 qa900 19 = .int zi5 := Eq.trans (Fr.at (cq := 13019) F343 kd900 (cd_o (by decide)) (by decide)) eq4
    have eq360 : hp341 qa14 (zi5 : Int32).toNatClampNeg = .int zi17 := Eq.trans (Fr.at (cq := 70000) F343 kd15 (cd_a (by decide)) (by decide)) eq16
    have eq361 : hp341 qa900 27 = .ref qa32 := Eq.trans (Fr.at (cq := 13027) F343 kd900 (cd_o (by decide)) (by decide)) eq31
    have eq362 : hp341 qa32 (zi5 : Int32).toNatClampNeg = .int zi35 := Eq.trans (Fr.at (cq := 73000) F343 kd33 (cd_a (by decide)) (by decide)) eq34
    have eq363 : hp341 qa900 32 = .ref qa2 := Eq.trans (Fr.at (cq := 13032) F343 kd900 (cd_o (by decide)) (by decide)) eq1
    have eq364 : hp341 qa2 (zi5 : Int32).toNatClampNeg = .int zi8 := Eq.trans (Fr.at (cq := 78000) F343 kd3 (cd_a (by decide)) (by decide)) eq7
    have eq365 : hp341 qa900 12 = .int zi26 := Eq.trans (Fr.at (cq := 13012) F343 kd900 (cd_o (by decide)) (by decide)) eq25
    have eq366 : hp341 qa900 38 = .int zi11 := Eq.trans (Fr.at (cq := 13038) F343 kd900 (cd_o (by decide)) (by decide)) eq10
    refine lv_if_ne (tgt := 276) hx hb dX12_tell_174 (by decide) (fun cn356 => ?_) (fun cn356 => ?_)
    · skip
      have tf367 : (zi351 : Int32).toInt ≠ (0 : Int32).toInt := fun e => cn356 (Int32.toInt_inj.mp e)
      have := toi bc_0
      have bd368 : (1 : Int) ≤ zi351.toInt ∧ zi351.toInt ≤ 2 := r_ne_lo cn356 bd352 (toi bc_0) (by decide) (by decide)
      have pd369 : LPx hp341 qa900 := LP_fr ok0 kd900 (show Fr [13011, 13013, 13014] K hp0 hp341 from (Fr.tr (Fr.rf) F343 (by decide))) (by decide) pdLPx
      rw [hQ]
      exact kz_v hx hb hr hlocks hS hp341 hw ⟨ok342, (Fr.tr (Fr.rf) F343 (by decide)), ((pd369).lw), (fun _ => pd369), (by simp only [gi_of eq19, gi_of eq28, gi_of eq350, gi_of eq353]; omega), (by simp only [gi_of eq19, gi_of eq350]; omega), (by simp only [gi_of eq28, gi_of eq350, gi_of eq353]; omega), (by simp only [ge_of eq358 eq359 eq360, ge_of eq361 eq359 eq362, ge_of eq363 eq359 eq364, gi_of eq357]; omega), (by simp only [gi_of eq350, gi_of eq365]; omega), (by simp only [gi_of eq350, gi_of eq353, gi_of eq359, gi_of eq366]; omega)⟩ (Nat.le_of_ble_eq_true rfl) (Nat.le_of_ble_eq_true rfl) dX12_tell_276
    · skip
      have bd370 : (0 : Int) ≤ zi351.toInt ∧ zi351.toInt ≤ 0 := r_eq_x cn356 bd352 bc_0 (by decide) (by decide)
      refine lv_aload_n hx hb dX12_tell_177 rfl (lv_at hl 0 rfl) ?_
      refine kq_v hw hS hA (va_runV (As := []) (rest := []) ⟨hx, hb, hml, hown, hT⟩ (cX12_tellCase_0 l G cy ev K ln Ls hW _ hp341 ok342 qa900 kd900 (by simp only [ge_of eq363 eq359 eq364, ge_of eq358 eq359 eq360, gi_of eq357, ge_of eq361 eq359 eq362]; omega) (by simp only [gi_of eq350, gi_of eq365]; omega) (by simp only [ge_of eq363 eq359 eq364]; omega)) (cwV 0 hT (good_V tb_1695 tb_1692 tb_1694 tb_69 tb_122) rfl rfl rfl (by decide +kernel) ⟨Nat.le_of_ble_eq_true rfl, Nat.le_of_ble_eq_true rfl⟩) (pool_preV (ci := 12) hK hE hS hA hw hW kd900 (by decide) rfl) rfl rfl hl.1 rfl (lv_room (Nat.le_of_ble_eq_true rfl)) dX12_tell_178 ⟨Nat.le_of_ble_eq_true rfl, Nat.le_of_ble_eq_true rfl⟩) (fun hp371 H locs hq374 hw hS => ?_)
      obtain ⟨ok372, F373, rh376, rh377, rh378, rh379⟩ := hq374
      have hw : PW G cy K ln Ls A hp371 H := hw
      obtain ⟨zi381, eq380, bd382⟩ := rd_13013 ok372 kd900
      obtain ⟨zi384, eq383, bd385⟩ := rd_13011 ok372 kd900
      simp only [gi_of eq350, gi_of eq353, gi_of eq380, gi_of eq383] at rh376
      simp only [gi_of eq350, gi_of eq380] at rh377
      have eq386 : hp371 qa900 32 = .ref qa2 := Eq.trans (Fr.at (cq := 13032) F373 kd900 (cd_o (by decide)) (by decide)) eq363
      have eq387 : hp371 qa900 19 = .int zi5 := Eq.trans (Fr.at (cq := 13019) F373 kd900 (cd_o (by decide)) (by decide)) eq359
      obtain ⟨zi389, eq388, bd390⟩ := rd_78000 ok372 kd3 ((zi5 : Int32).toNatClampNeg)
      have eq391 : hp371 qa900 24 = .ref qa14 := Eq.trans (Fr.at (cq := 13024) F373 kd900 (cd_o (by decide)) (by decide)) eq358
      have eq392 : hp371 qa14 (zi5 : Int32).toNatClampNeg = .int zi17 := Eq.trans (Fr.at (cq := 70000) F373 kd15 (cd_a (by decide)) (by decide)) eq360
      obtain ⟨zi394, eq393, bd395⟩ := rd_13020 ok372 kd900
      have eq396 : hp371 qa900 27 = .ref qa32 := Eq.trans (Fr.at (cq := 13027) F373 kd900 (cd_o (by decide)) (by decide)) eq361
      have eq397 : hp371 qa32 (zi5 : Int32).toNatClampNeg = .int zi35 := Eq.trans (Fr.at (cq := 73000) F373 kd33 (cd_a (by decide)) (by decide)) eq362
      simp only [ge_of eq386 eq387 eq388, ge_of eq391 eq387 eq392, ge_of eq396 eq387 eq397, gi_of eq393] at rh378
      obtain ⟨zi399, eq398, bd400⟩ := rd_13012 ok372 kd900
      simp only [gi_of eq380, gi_of eq398] at rh379
      refine lv_goto (tgt := 276) hx hb dX12_tell_181 (by decide) ?_
      have pd401 : LPx hp371 qa900 := LP_fr ok0 kd900 (show Fr [13011, 13012, 13013, 13014, 13015, 13016, 13020, 67000, 68000, 69000, 78000, 79000, 80000, 86000, 87000, 88000] K hp0 hp371 from (Fr.tr (Fr.tr (Fr.rf) F343 (by decide)) F373 (by decide))) (by decide) pdLPx
      have eq402 : hp371 qa900 38 = .int zi11 := Eq.trans (Fr.at (cq := 13038) F373 kd900 (cd_o (by decide)) (by decide)) eq366
      rw [hQ]
      exact kz_v hx hb hr hlocks hS hp371 hw ⟨ok372, (Fr.tr (Fr.tr (Fr.rf) F343 (by decide)) F373 (by decide)), ((pd401).lw), (fun _ => pd401), (by simp only [gi_of eq19, gi_of eq28, gi_of eq380, gi_of eq383]; omega), (by simp only [gi_of eq19, gi_of eq380]; omega), (by simp only [gi_of eq28, gi_of eq380, gi_of eq383]; omega), (by simp only [ge_of eq386 eq387 eq388, ge_of eq391 eq387 eq392, ge_of eq396 eq387 eq397, gi_of eq393]; omega), (by simp only [gi_of eq380, gi_of eq398]; omega), (by simp only [gi_of eq380, gi_of eq383, gi_of eq387, gi_of eq402]; omega)⟩ (Nat.le_of_ble_eq_true rfl) (Nat.le_of_ble_eq_true rfl) dX12_tell_276
  by_cases cn52 : zi43 = 28
  · skip
    refine lv_tableIn (tgt := 184) hx hb dX12_tell_9 (by rw [cn52]; decide) (by rw [cn52]; decide) (by rw [cn52]; rfl) (by decide) ?_
    have bd403 : (28 : Int) ≤ zi43.toInt ∧ zi43.toInt ≤ 28 := r_eq_x cn52 (b_all zi43) bc_28 (by decide) (by decide)
    refine lv_iconst (v := 2) hx hb dX12_tell_184 (by decide) ?_
    refine lv_aload_n hx hb dX12_tell_185 rfl (lv_at hl 0 rfl) ?_
    refine p_get (ci := 12) (v := .int zi5) (C := RX12) (T := TX12) (N := 69) hx hb hT iw_X12 hown hK hw hW kd900 (by decide) rfl rfl 19 (by decide) eq4 (hT _ tb_1393) (fun _ h9 => h9) dX12_tell_186 ?_
    refine lv_imul hx hb dX12_tell_189 (lv_topi (fun zi404 ea405 => ?_))
    have bd406 : (0 : Int) ≤ zi404.toInt ∧ zi404.toInt ≤ 2 := b_imul ea405 bc_2 bd6 (by decide) (by decide) (by decide) (by decide) (by decide)
    have qe407 : zi404.toInt = (2 : Int32).toInt * (zi5 : Int32).toInt := e_imul (b := 2) (d := 1) ea405 (b_wid2 bc_2 (by decide) (by decide)) (b_wid2 bd6 (by decide) (by decide)) (by decide)
    have qe408 : zi404.toInt = 2 * zi5.toInt := by have ha : (2 : Int32).toInt = 2 := (by decide); rw [ha] at qe407; exact qe407
    refine lv_aload_n hx hb dX12_tell_190 rfl (lv_at hl 0 rfl) ?_
    refine p_get (ci := 12) (v := .ref qa40) (C := RX12) (T := TX12) (N := 69) hx hb hT iw_X12 hown hK hw hW kd900 (by decide) rfl rfl 5 (by decide) eq39 (hT _ tb_1379) (fun _ h9 => h9) dX12_tell_191 ?_
    refine lv_aload_n hx hb dX12_tell_194 rfl (lv_at hl 0 rfl) ?_
    refine p_get (ci := 12) (v := .int zi29) (C := RX12) (T := TX12) (N := 69) hx hb hT iw_X12 hown hK hw hW kd900 (by decide) rfl rfl 11 (by decide) eq28 (hT _ tb_1385) (fun _ h9 => h9) dX12_tell_195 ?_
    refine p_iald (v := zi43) hx hb hK hw hW kd41 (by decide) rfl (hW.len kd41 (n := 403) rfl (by decide)) (vp_b bd30 (by decide) (by decide)) eq42 dX12_tell_198 ?_
    refine lv_iadd hx hb dX12_tell_199 (lv_topi (fun zi409 ea410 => ?_))
    have bd411 : (28 : Int) ≤ zi409.toInt ∧ zi409.toInt ≤ 30 := b_iadd ea410 bd406 bd403 (by decide) (by decide) (by decide) (by decide)
    have qe412 : zi409.toInt = zi404.toInt + zi43.toInt := e_iadd ea410 bd406 bd403 (by decide) (by decide)
    refine lv_bipush (v := 28) hx hb dX12_tell_200 (by decide) ?_
    refine lv_isub hx hb dX12_tell_202 (lv_topi (fun zi413 ea414 => ?_))
    have bd415 : (0 : Int) ≤ zi413.toInt ∧ zi413.toInt ≤ 2 := b_isub ea414 bd411 bc_28 (by decide) (by decide) (by decide) (by decide)
    have qe416 : zi413.toInt = (zi409 : Int32).toInt - (28 : Int32).toInt := e_isub ea414 bd411 bc_28 (by decide) (by decide)
    have qe417 : zi413.toInt = zi409.toInt - 28 := by have ha : (28 : Int32).toInt = 28 := (by decide); rw [ha] at qe416; exact qe416
    refine lv_istore_n (lv' := [(1, .int zi413), (0, .ref qa900)]) hx hb dX12_tell_203 rfl hl (by decide) rfl (fun ls hl => ?_)
    refine lv_aload_n hx hb dX12_tell_204 rfl (lv_at hl 1 rfl) ?_
    refine kq_v hw hS hA (va_runV (As := []) (rest := []) ⟨hx, hb, hml, hown, hT⟩ (cX12_goesOn_0 l G cy ev K ln Ls hW _ hp0 ok0 qa900 kd900) (cwV 0 hT (good_V tb_1639 tb_1636 tb_1638 tb_56 tb_122) rfl rfl rfl (by decide +kernel) ⟨Nat.le_of_ble_eq_true rfl, Nat.le_of_ble_eq_true rfl⟩) (pool_preV (ci := 12) hK hE hS hA hw hW kd900 (by decide) rfl) rfl rfl hl.1 rfl (lv_room (Nat.le_of_ble_eq_true rfl)) dX12_tell_205 ⟨Nat.le_of_ble_eq_true rfl, Nat.le_of_ble_eq_true rfl⟩) (fun hp418 H locs hq421 hw hS => ?_)
    obtain ⟨ok419, F420, ⟨zi423, eq424, bd425⟩, rh426, rh427, rh428⟩ := hq421
    have hw : PW G cy K ln Ls A hp418 H := hw
    obtain ⟨zi430, eq429, bd431⟩ := rd_13013 ok419 kd900
    simp only [gi_of eq19, gi_of eq28, gi_of eq424, gi_of eq429] at rh426
    simp only [gi_of eq19, gi_of eq429] at rh427
    simp only [gi_of eq28, gi_of eq424, gi_of eq429] at rh428
    have eq432 : hp418 qa900 38 = .int zi11 := Eq.trans (Fr.at (cq := 13038) F420 kd900 (cd_o (by decide)) (by decide)) eq10
    have eq433 : hp418 qa900 19 = .int zi5 := Eq.trans (Fr.at (cq := 13019) F420 kd900 (cd_o (by decide)) (by decide)) eq4
    have pd435 : LPx hp418 qa900 := LP_fr ok0 kd900 (show Fr [13011, 13013, 13014] K hp0 hp418 from (Fr.tr (Fr.rf) F420 (by decide))) (by decide) pdLPx
    have q7434 := (pd435).2.2.2.2.2.2
    rw [gi_of eq433, gi_of eq432] at q7434
    refine lv_aload_n hx hb dX12_tell_208 rfl (lv_at hl 1 rfl) ?_
    refine p_get (ci := 12) (v := .int zi11) (C := RX12) (T := TX12) (N := 69) hx hb hT iw_X12 hown hK hw hW kd900 (by decide) rfl rfl 38 (by decide) eq432 (hT _ tb_1412) (fun _ h9 => h9) dX12_tell_209 ?_
    refine lv_istore_n (lv' := [(2, .int zi11), (1, .int zi413), (0, .ref qa900)]) hx hb dX12_tell_212 rfl hl (by decide) rfl (fun ls hl => ?_)
    refine lv_aload_n hx hb dX12_tell_213 rfl (lv_at hl 2 rfl) ?_
    have eq436 : hp418 qa900 12 = .int zi26 := Eq.trans (Fr.at (cq := 13012) F420 kd900 (cd_o (by decide)) (by decide)) eq25
    refine kq_v hw hS hA (va_runV (As := []) (rest := []) ⟨hx, hb, hml, hown, hT⟩ (cX12_expression_0 l G cy ev K ln Ls hW _ hp418 ok419 qa900 kd900 (by simp only [gi_of eq436]; omega) (by simp only [gi_of eq432, gi_of eq429, gi_of eq433, gi_of eq424]; omega) pd435) (cwV 0 hT (good_V tb_1703 tb_1700 tb_1702 tb_71 tb_122) rfl rfl rfl (by decide +kernel) ⟨Nat.le_of_ble_eq_true rfl, Nat.le_of_ble_eq_true rfl⟩) (pool_preV (ci := 12) hK hE hS hA hw hW kd900 (by decide) rfl) rfl rfl hl.1 rfl (lv_room (Nat.le_of_ble_eq_true rfl)) dX12_tell_214 ⟨Nat.le_of_ble_eq_true rfl, Nat.le_of_ble_eq_true rfl⟩) (fun hp437 H locs hq440 hw hS => ?_)
    obtain ⟨ok438, F439, xq442, xq443, rh444, rh445, rh446, rh447⟩ := hq440
    have hw : PW G cy K ln Ls A hp437 H := hw
    obtain ⟨zi449, eq448, bd450⟩ := rd_13038 ok438 kd900
    obtain ⟨zi452, eq451, bd453⟩ := rd_13013 ok438 kd900
    have eq454 : hp437 qa900 19 = .int zi5 := Eq.trans (Fr.at (cq := 13019) F439 kd900 (cd_o (by decide)) (by decide)) eq433
    obtain ⟨qa456, eq455, kd457⟩ := rd_13039 ok438 kd900
    obtain ⟨qa459, eq458, kd460⟩ := rd_13040 ok438 kd900
    obtain ⟨zi462, eq461, bd463⟩ := rd_13011 ok438 kd900
    simp only [gi_of eq424, gi_of eq429, gi_of eq451, gi_of eq461] at rh444
    simp only [gi_of eq429, gi_of eq451] at rh445
    obtain ⟨zi465, eq464, bd466⟩ := rd_13012 ok438 kd900
    simp only [gi_of eq451, gi_of eq464] at rh446
    simp only [gi_of eq448, gi_of eq451, gi_of eq454, gi_of eq461] at rh447
    refine lv_aload_n hx hb dX12_tell_217 rfl (lv_at hl 2 rfl) ?_
    refine lv_iconst (v := 4) hx hb dX12_tell_218 (by decide) ?_
    refine kq_v hw hS hA (va_runV (As := [.int 4]) (rest := []) ⟨hx, hb, hml, hown, hT⟩ (cX12_must_0 l G cy ev K ln Ls hW _ hp437 ok438 qa900 4 kd900) (cwV 1 hT (good_V tb_1651 tb_1648 tb_1650 tb_59 tb_122) rfl rfl rfl (by decide +kernel) ⟨Nat.le_of_ble_eq_true rfl, Nat.le_of_ble_eq_true rfl⟩) (pool_preV (ci := 12) hK hE hS hA hw hW kd900 (by decide) rfl) rfl rfl hl.1 rfl (lv_room (Nat.le_of_ble_eq_true rfl)) dX12_tell_219 ⟨Nat.le_of_ble_eq_true rfl, Nat.le_of_ble_eq_true rfl⟩) (fun hp467 H locs hq470 hw hS => ?_)
    obtain ⟨ok468, F469, rh472, rh473, rh474⟩ := hq470
    have hw : PW G cy K ln Ls A hp467 H := hw
    obtain ⟨zi476, eq475, bd477⟩ := rd_13013 ok468 kd900
    obtain ⟨zi479, eq478, bd480⟩ := rd_13011 ok468 kd900
    simp only [gi_of eq451, gi_of eq461, gi_of eq475, gi_of eq478] at rh472
    simp only [gi_of eq451, gi_of eq475] at rh473
    simp only [gi_of eq461, gi_of eq475, gi_of eq478] at rh474
    have pd481 : LPx hp467 qa900 := LP_fr ok438 kd900 (show Fr [13011, 13013, 13014] K hp437 hp467 from (Fr.tr (Fr.rf) F469 (by decide))) (by decide) xq442
    have eq482 : hp467 qa900 38 = .int zi449 := Eq.trans (Fr.at (cq := 13038) F469 kd900 (cd_o (by decide)) (by decide)) eq448
    obtain ⟨zi484, eq483, bd485⟩ := rd_13018 ok468 kd900
    have eq486 : hp467 qa900 19 = .int zi5 := Eq.trans (Fr.at (cq := 13019) F469 kd900 (cd_o (by decide)) (by decide)) eq454
    obtain ⟨qa488, eq487, kd489⟩ := rd_13035 ok468 kd900
    obtain ⟨qa491, eq490, kd492⟩ := rd_13036 ok468 kd900
    have eq493 : hp467 qa900 39 = .ref qa456 := Eq.trans (Fr.at (cq := 13039) F469 kd900 (cd_o (by decide)) (by decide)) eq455
    have eq494 : hp467 qa900 40 = .ref qa459 := Eq.trans (Fr.at (cq := 13040) F469 kd900 (cd_o (by decide)) (by decide)) eq458
    have cf495 : gi hp467 qa900 13 = 0 → (zi11 : Int32).toInt < gi hp467 qa900 38 ∧ CF (mA hp467 qa900 39) (mA hp467 qa900 40) (zi11 : Int32).toInt.toNat (gi hp467 qa900 38 - (zi11 : Int32).toInt).toNat := CFt xq443 (fun q => by rw [gi_of eq475] at q; rw [gi_of eq451]; omega) (mA_eq eq455 eq493 (show hp467 qa456 = hp437 qa456 from (funext fun i => Fr.at (cq := 84000) F469 kd457 (cd_a (by decide)) (by decide)))) (mA_eq eq458 eq494 (show hp467 qa459 = hp437 qa459 from (funext fun i => Fr.at (cq := 85000) F469 kd460 (cd_a (by decide)) (by decide)))) (by rw [gi_of eq482, gi_of eq448] <;> (omega)) (gi_of eq432).symm
    refine lv_aload_n hx hb dX12_tell_222 rfl (lv_at hl 2 rfl) ?_
    refine p_get (ci := 12) (v := .ref qa488) (C := RX12) (T := TX12) (N := 69) hx hb hT iw_X12 hown hK hw hW kd900 (by decide) rfl rfl 35 (by decide) eq487 (hT _ tb_1409) (fun _ h9 => h9) dX12_tell_223 ?_
    refine lv_iload_n hx hb dX12_tell_226 rfl (lv_at hl 1 rfl) ?_
    refine lv_iload_n hx hb dX12_tell_227 rfl (lv_at hl 0 rfl) ?_
    refine p_iast (x := zi11) hx hb hK hw hS hW kd489 (by decide) rfl (hW.len kd489 (n := 4) rfl (by decide)) (vp_b bd415 (by decide) (by decide)) dX12_tell_228 (fun hp496 eh497 H locs hw hS => ?_)
    have ok498 := wr_81000 bd12 (by decide) (by decide) ok468 kd489 eh497
    refine lv_aload_n hx hb dX12_tell_229 rfl (lv_at hl 2 rfl) ?_
    have eq499 : hp496 qa900 36 = .ref qa491 := Eq.trans (up_at eh497 (Or.inl (kd_ne kd900 kd489 (by decide)))) eq490
    refine p_get (ci := 12) (v := .ref qa491) (C := RX12) (T := TX12) (N := 69) hx hb hT iw_X12 hown hK hw hW kd900 (by decide) rfl rfl 36 (by decide) eq499 (hT _ tb_1410) (fun _ h9 => h9) dX12_tell_230 ?_
    refine lv_iload_n hx hb dX12_tell_233 rfl (lv_at hl 1 rfl) ?_
    refine lv_aload_n hx hb dX12_tell_234 rfl (lv_at hl 2 rfl) ?_
    have eq500 : hp496 qa900 38 = .int zi449 := Eq.trans (up_at eh497 (Or.inl (kd_ne kd900 kd489 (by decide)))) eq482
    refine p_get (ci := 12) (v := .int zi449) (C := RX12) (T := TX12) (N := 69) hx hb hT iw_X12 hown hK hw hW kd900 (by decide) rfl rfl 38 (by decide) eq500 (hT _ tb_1412) (fun _ h9 => h9) dX12_tell_235 ?_
    refine p_iast (x := zi449) hx hb hK hw hS hW kd492 (by decide) rfl (hW.len kd492 (n := 4) rfl (by decide)) (vp_b bd415 (by decide) (by decide)) dX12_tell_238 (fun hp501 eh502 H locs hw hS => ?_)
    have ok503 := wr_82000 bd450 (by decide) (by decide) ok498 kd492 eh502
    have eq504 : hp501 qa900 35 = .ref qa488 := Eq.trans (up_at eh502 (Or.inl (kd_ne kd900 kd492 (by decide)))) (Eq.trans (up_at eh497 (Or.inl (kd_ne kd900 kd489 (by decide)))) eq487)
    have eq505 : hp501 qa900 36 = .ref qa491 := Eq.trans (up_at eh502 (Or.inl (kd_ne kd900 kd492 (by decide)))) eq499
    have eq507 : hp501 qa900 39 = .ref qa456 := Eq.trans (up_at eh502 (Or.inl (kd_ne kd900 kd492 (by decide)))) (Eq.trans (up_at eh497 (Or.inl (kd_ne kd900 kd489 (by decide)))) eq493)
    have eq508 : hp501 qa900 40 = .ref qa459 := Eq.trans (up_at eh502 (Or.inl (kd_ne kd900 kd492 (by decide)))) (Eq.trans (up_at eh497 (Or.inl (kd_ne kd900 kd489 (by decide)))) eq494)
    have eq509 : hp501 qa900 18 = .int zi484 := Eq.trans (up_at eh502 (Or.inl (kd_ne kd900 kd492 (by decide)))) (Eq.trans (up_at eh497 (Or.inl (kd_ne kd900 kd489 (by decide)))) eq483)
    have eq510 : hp501 qa900 19 = .int zi5 := Eq.trans (up_at eh502 (Or.inl (kd_ne kd900 kd492 (by decide)))) (Eq.trans (up_at eh497 (Or.inl (kd_ne kd900 kd489 (by decide)))) eq486)
    have eq511 : hp501 qa900 38 = .int zi449 := Eq.trans (up_at eh502 (Or.inl (kd_ne kd900 kd492 (by decide)))) eq500
    have ll506 := LP_law (i := (zi413 : Int32).toNatClampNeg) pd481 (by rw [gi_of eq486]; have := clampN (x := zi413) (by omega); omega) (mA_up eq487 eq504 rfl eh497 (show hp501 qa488 = hp496 qa488 from (by rw [eh502]; exact up2_row (kd_ne kd489 kd492 (by decide))))) (mA_up eq490 eq505 (show hp496 qa491 = hp467 qa491 from (by rw [eh497]; exact up2_row (kd_ne kd492 kd489 (by decide)))) eh502 rfl) (mA_eq eq493 eq507 (Eq.trans (show hp501 qa456 = hp496 qa456 from (by rw [eh502]; exact up2_row (kd_ne kd457 kd492 (by decide)))) (show hp496 qa456 = hp467 qa456 from (by rw [eh497]; exact up2_row (kd_ne kd457 kd489 (by decide)))))) (mA_eq eq494 eq508 (Eq.trans (show hp501 qa459 = hp496 qa459 from (by rw [eh502]; exact up2_row (kd_ne kd460 kd492 (by decide)))) (show hp496 qa459 = hp467 qa459 from (by rw [eh497]; exact up2_row (kd_ne kd460 kd489 (by decide)))))) (by rw [gi_of eq509, gi_of eq483] <;> (omega)) (by rw [gi_of eq510, gi_of eq486] <;> (omega)) (by rw [gi_of eq511, gi_of eq482] <;> (omega))
    have eq513 : hp501 qa900 13 = .int zi476 := Eq.trans (up_at eh502 (Or.inl (kd_ne kd900 kd492 (by decide)))) (Eq.trans (up_at eh497 (Or.inl (kd_ne kd900 kd489 (by decide)))) eq475)
    have lq512 : gi hp501 qa900 13 = 0 → LPx hp501 qa900 := fun q => by
      have q2 := cf495 (by rw [gi_of eq513] at q; rw [gi_of eq475]; omega)
      rw [gi_of eq513] at q
      have q3 := (pd481).2.2.2.2.2.2
      rw [gi_of eq482] at q2
      exact ll506.2 (by rw [gi_of eq486]; omega) q2.1 (by rw [gi_of eq486]; omega) (by rw [gi_of eq482]; omega) q2.2
    refine lv_goto (tgt := 276) hx hb dX12_tell_239 (by decide) ?_
    have eq514 : hp501 qa900 11 = .int zi479 := Eq.trans (up_at eh502 (Or.inl (kd_ne kd900 kd492 (by decide)))) (Eq.trans (up_at eh497 (Or.inl (kd_ne kd900 kd489 (by decide)))) eq478)
    have eq515 : hp501 qa900 32 = .ref qa2 := Eq.trans (up_at eh502 (Or.inl (kd_ne kd900 kd492 (by decide)))) (Eq.trans (up_at eh497 (Or.inl (kd_ne kd900 kd489 (by decide)))) (Eq.trans (Fr.at (cq := 13032) F469 kd900 (cd_o (by decide)) (by decide)) (Eq.trans (Fr.at (cq := 13032) F439 kd900 (cd_o (by decide)) (by decide)) (Eq.trans (Fr.at (cq := 13032) F420 kd900 (cd_o (by decide)) (by decide)) eq1))))
    have eq516 : hp501 qa2 (zi5 : Int32).toNatClampNeg = .int zi8 := Eq.trans (up_at eh502 (Or.inl (kd_ne kd3 kd492 (by decide)))) (Eq.trans (up_at eh497 (Or.inl (kd_ne kd3 kd489 (by decide)))) (Eq.trans (Fr.at (cq := 78000) F469 kd3 (cd_a (by decide)) (by decide)) (Eq.trans (Fr.at (cq := 78000) F439 kd3 (cd_a (by decide)) (by decide)) (Eq.trans (Fr.at (cq := 78000) F420 kd3 (cd_a (by decide)) (by decide)) eq7))))
    have eq517 : hp501 qa900 24 = .ref qa14 := Eq.trans (up_at eh502 (Or.inl (kd_ne kd900 kd492 (by decide)))) (Eq.trans (up_at eh497 (Or.inl (kd_ne kd900 kd489 (by decide)))) (Eq.trans (Fr.at (cq := 13024) F469 kd900 (cd_o (by decide)) (by decide)) (Eq.trans (Fr.at (cq := 13024) F439 kd900 (cd_o (by decide)) (by decide)) (Eq.trans (Fr.at (cq := 13024) F420 kd900 (cd_o (by decide)) (by decide)) eq13))))
    have eq518 : hp501 qa14 (zi5 : Int32).toNatClampNeg = .int zi17 := Eq.trans (up_at eh502 (Or.inl (kd_ne kd15 kd492 (by decide)))) (Eq.trans (up_at eh497 (Or.inl (kd_ne kd15 kd489 (by decide)))) (Eq.trans (Fr.at (cq := 70000) F469 kd15 (cd_a (by decide)) (by decide)) (Eq.trans (Fr.at (cq := 70000) F439 kd15 (cd_a (by decide)) (by decide)) (Eq.trans (Fr.at (cq := 70000) F420 kd15 (cd_a (by decide)) (by decide)) eq16))))
    have eq519 : hp501 qa900 20 = .int zi23 := Eq.trans (up_at eh502 (Or.inl (kd_ne kd900 kd492 (by decide)))) (Eq.trans (up_at eh497 (Or.inl (kd_ne kd900 kd489 (by decide)))) (Eq.trans (Fr.at (cq := 13020) F469 kd900 (cd_o (by decide)) (by decide)) (Eq.trans (Fr.at (cq := 13020) F439 kd900 (cd_o (by decide)) (by decide)) (Eq.trans (Fr.at (cq := 13020) F420 kd900 (cd_o (by decide)) (by decide)) eq22))))
    have eq520 : hp501 qa900 27 = .ref qa32 := Eq.trans (up_at eh502 (Or.inl (kd_ne kd900 kd492 (by decide)))) (Eq.trans (up_at eh497 (Or.inl (kd_ne kd900 kd489 (by decide)))) (Eq.trans (Fr.at (cq := 13027) F469 kd900 (cd_o (by decide)) (by decide)) (Eq.trans (Fr.at (cq := 13027) F439 kd900 (cd_o (by decide)) (by decide)) (Eq.trans (Fr.at (cq := 13027) F420 kd900 (cd_o (by decide)) (by decide)) eq31))))
    have eq521 : hp501 qa32 (zi5 : Int32).toNatClampNeg = .int zi35 := Eq.trans (up_at eh502 (Or.inl (kd_ne kd33 kd492 (by decide)))) (Eq.trans (up_at eh497 (Or.inl (kd_ne kd33 kd489 (by decide)))) (Eq.trans (Fr.at (cq := 73000) F469 kd33 (cd_a (by decide)) (by decide)) (Eq.trans (Fr.at (cq := 73000) F439 kd33 (cd_a (by decide)) (by decide)) (Eq.trans (Fr.at (cq := 73000) F420 kd33 (cd_a (by decide)) (by decide)) eq34))))
    have eq522 : hp501 qa900 12 = .int zi465 := Eq.trans (up_at eh502 (Or.inl (kd_ne kd900 kd492 (by decide)))) (Eq.trans (up_at eh497 (Or.inl (kd_ne kd900 kd489 (by decide)))) (Eq.trans (Fr.at (cq := 13012) F469 kd900 (cd_o (by decide)) (by decide)) eq464))
    rw [hQ]
    exact kz_v hx hb hr hlocks hS hp501 hw ⟨ok503, (Fr.put (cq := 82000) (Fr.put (cq := 81000) (Fr.tr (Fr.tr (Fr.tr (Fr.rf) F420 (by decide)) F439 (by decide)) F469 (by decide)) eh497 kd489 (cd_a (by decide)) (by decide)) eh502 kd492 (cd_a (by decide)) (by decide)), (ll506.1), (lq512), (by simp only [gi_of eq19, gi_of eq28, gi_of eq513, gi_of eq514]; omega), (by simp only [gi_of eq19, gi_of eq513]; omega), (by simp only [gi_of eq28, gi_of eq513, gi_of eq514]; omega), (by simp only [ge_of eq515 eq510 eq516, ge_of eq517 eq510 eq518, ge_of eq520 eq510 eq521, gi_of eq519]; omega), (by simp only [gi_of eq513, gi_of eq522]; omega), (by simp only [gi_of eq510, gi_of eq511, gi_of eq513, gi_of eq514]; omega)⟩ (Nat.le_of_ble_eq_true rfl) (Nat.le_of_ble_eq_true rfl) dX12_tell_276
  by_cases cn53 : zi43 = 29
  · skip
    refine lv_tableIn (tgt := 184) hx hb dX12_tell_9 (by rw [cn53]; decide) (by rw [cn53]; decide) (by rw [cn53]; rfl) (by decide) ?_
    have bd523 : (29 : Int) ≤ zi43.toInt ∧ zi43.toInt ≤ 29 := r_eq_x cn53 (b_all zi43) bc_29 (by decide) (by decide)
    refine lv_iconst (v := 2) hx hb dX12_tell_184 (by decide) ?_
    refine lv_aload_n hx hb dX12_tell_185 rfl (lv_at hl 0 rfl) ?_
    refine p_get (ci := 12) (v := .int zi5) (C := RX12) (T := TX12) (N := 69) hx hb hT iw_X12 hown hK hw hW kd900 (by decide) rfl rfl 19 (by decide) eq4 (hT _ tb_1393) (fun _ h9 => h9) dX12_tell_186 ?_
    refine lv_imul hx hb dX12_tell_189 (lv_topi (fun zi524 ea525 => ?_))
    have bd526 : (0 : Int) ≤ zi524.toInt ∧ zi524.toInt ≤ 2 := b_imul ea525 bc_2 bd6 (by decide) (by decide) (by decide) (by decide) (by decide)
    have qe527 : zi524.toInt = (2 : Int32).toInt * (zi5 : Int32).toInt := e_imul (b := 2) (d := 1) ea525 (b_wid2 bc_2 (by decide) (by decide)) (b_wid2 bd6 (by decide) (by decide)) (by decide)
    have qe528 : zi524.toInt = 2 * zi5.toInt := by have ha : (2 : Int32).toInt = 2 := (by decide); rw [ha] at qe527; exact qe527
    refine lv_aload_n hx hb dX12_tell_190 rfl (lv_at hl 0 rfl) ?_
    refine p_get (ci := 12) (v := .ref qa40) (C := RX12) (T := TX12) (N := 69) hx hb hT iw_X12 hown hK hw hW kd900 (by decide) rfl rfl 5 (by decide) eq39 (hT _ tb_1379) (fun _ h9 => h9) dX12_tell_191 ?_
    refine lv_aload_n hx hb dX12_tell_194 rfl (lv_at hl 0 rfl) ?_
    refine p_get (ci := 12) (v := .int zi29) (C := RX12) (T := TX12) (N := 69) hx hb hT iw_X12 hown hK hw hW kd900 (by decide) rfl rfl 11 (by decide) eq28 (hT _ tb_1385) (fun _ h9 => h9) dX12_tell_195 ?_
    refine p_iald (v := zi43) hx hb hK hw hW kd41 (by decide) rfl (hW.len kd41 (n := 403) rfl (by decide)) (vp_b bd30 (by decide) (by decide)) eq42 dX12_tell_198 ?_
    refine lv_iadd hx hb dX12_tell_199 (lv_topi (fun zi529 ea530 => ?_))
    have bd531 : (29 : Int) ≤ zi529.toInt ∧ zi529.toInt ≤ 31 := b_iadd ea530 bd526 bd523 (by decide) (by decide) (by decide) (by decide)
    have qe532 : zi529.toInt = zi524.toInt + zi43.toInt := e_iadd ea530 bd526 bd523 (by decide) (by decide)
    refine lv_bipush (v := 28) hx hb dX12_tell_200 (by decide) ?_
    refine lv_isub hx hb dX12_tell_202 (lv_topi (fun zi533 ea534 => ?_))
    have bd535 : (1 : Int) ≤ zi533.toInt ∧ zi533.toInt ≤ 3 := b_isub ea534 bd531 bc_28 (by decide) (by decide) (by decide) (by decide)
    have qe536 : zi533.toInt = (zi529 : Int32).toInt - (28 : Int32).toInt := e_isub ea534 bd531 bc_28 (by decide) (by decide)
    have qe537 : zi533.toInt = zi529.toInt - 28 := by have ha : (28 : Int32).toInt = 28 := (by decide); rw [ha] at qe536; exact qe536
    refine lv_istore_n (lv' := [(1, .int zi533), (0, .ref qa900)]) hx hb dX12_tell_203 rfl hl (by decide) rfl (fun ls hl => ?_)
    refine lv_aload_n hx hb dX12_tell_204 rfl (lv_at hl 1 rfl) ?_
    refine kq_v hw hS hA (va_runV (As := []) (rest := []) ⟨hx, hb, hml, hown, hT⟩ (cX12_goesOn_0 l G cy ev K ln Ls hW _ hp0 ok0 qa900 kd900) (cwV 0 hT (good_V tb_1639 tb_1636 tb_1638 tb_56 tb_122) rfl rfl rfl (by decide +kernel) ⟨Nat.le_of_ble_eq_true rfl, Nat.le_of_ble_eq_true rfl⟩) (pool_preV (ci := 12) hK hE hS hA hw hW kd900 (by decide) rfl) rfl rfl hl.1 rfl (lv_room (Nat.le_of_ble_eq_true rfl)) dX12_tell_205 ⟨Nat.le_of_ble_eq_true rfl, Nat.le_of_ble_eq_true rfl⟩) (fun hp538 H locs hq541 hw hS => ?_)
    obtain ⟨ok539, F540, ⟨zi543, eq544, bd545⟩, rh546, rh547, rh548⟩ := hq541
    have hw : PW G cy K ln Ls A hp538 H := hw
    obtain ⟨zi550, eq549, bd551⟩ := rd_13013 ok539 kd900
    simp only [gi_of eq19, gi_of eq28, gi_of eq544, gi_of eq549] at rh546
    simp only [gi_of eq19, gi_of eq549] at rh547
    simp only [gi_of eq28, gi_of eq544, gi_of eq549] at rh548
    have eq552 : hp538 qa900 38 = .int zi11 := Eq.trans (Fr.at (cq := 13038) F540 kd900 (cd_o (by decide)) (by decide)) eq10
    have eq553 : hp538 qa900 19 = .int zi5 := Eq.trans (Fr.at (cq := 13019) F540 kd900 (cd_o (by decide)) (by decide)) eq4
    have pd555 : LPx hp538 qa900 := LP_fr ok0 kd900 (show Fr [13011, 13013, 13014] K hp0 hp538 from (Fr.tr (Fr.rf) F540 (by decide))) (by decide) pdLPx
    have q7554 := (pd555).2.2.2.2.2.2
    rw [gi_of eq553, gi_of eq552] at q7554
    refine lv_aload_n hx hb dX12_tell_208 rfl (lv_at hl 1 rfl) ?_
    refine p_get (ci := 12) (v := .int zi11) (C := RX12) (T := TX12) (N := 69) hx hb hT iw_X12 hown hK hw hW kd900 (by decide) rfl rfl 38 (by decide) eq552 (hT _ tb_1412) (fun _ h9 => h9) dX12_tell_209 ?_
    refine lv_istore_n (lv' := [(2, .int zi11), (1, .int zi533), (0, .ref qa900)]) hx hb dX12_tell_212 rfl hl (by decide) rfl (fun ls hl => ?_)
    refine lv_aload_n hx hb dX12_tell_213 rfl (lv_at hl 2 rfl) ?_
    have eq556 : hp538 qa900 12 = .int zi26 := Eq.trans (Fr.at (cq := 13012) F540 kd900 (cd_o (by decide)) (by decide)) eq25
    refine kq_v hw hS hA (va_runV (As := []) (rest := []) ⟨hx, hb, hml, hown, hT⟩ (cX12_expression_0 l G cy ev K ln Ls hW _ hp538 ok539 qa900 kd900 (by simp only [gi_of eq556]; omega) (by simp only [gi_of eq552, gi_of eq549, gi_of eq553, gi_of eq544]; omega) pd555) (cwV 0 hT (good_V tb_1703 tb_1700 tb_1702 tb_71 tb_122) rfl rfl rfl (by decide +kernel) ⟨Nat.le_of_ble_eq_true rfl, Nat.le_of_ble_eq_true rfl⟩) (pool_preV (ci := 12) hK hE hS hA hw hW kd900 (by decide) rfl) rfl rfl hl.1 rfl (lv_room (Nat.le_of_ble_eq_true rfl)) dX12_tell_214 ⟨Nat.le_of_ble_eq_true rfl, Nat.le_of_ble_eq_true rfl⟩) (fun hp557 H locs hq560 hw hS => ?_)
    obtain ⟨ok558, F559, xq562, xq563, rh564, rh565, rh566, rh567⟩ := hq560
    have hw : PW G cy K ln Ls A hp557 H := hw
    obtain ⟨zi569, eq568, bd570⟩ := rd_13038 ok558 kd900
    obtain ⟨zi572, eq571, bd573⟩ := rd_13013 ok558 kd900
    have eq574 : hp557 qa900 19 = .int zi5 := Eq.trans (Fr.at (cq := 13019) F559 kd900 (cd_o (by decide)) (by decide)) eq553
    obtain ⟨qa576, eq575, kd577⟩ := rd_13039 ok558 kd900
    obtain ⟨qa579, eq578, kd580⟩ := rd_13040 ok558 kd900
    obtain ⟨zi582, eq581, bd583⟩ := rd_13011 ok558 kd900
    simp only [gi_of eq544, gi_of eq549, gi_of eq571, gi_of eq581] at rh564
    simp only [gi_of eq549, gi_of eq571] at rh565
    obtain ⟨zi585, eq584, bd586⟩ := rd_13012 ok558 kd900
    simp only [gi_of eq571, gi_of eq584] at rh566
    simp only [gi_of eq568, gi_of eq571, gi_of eq574, gi_of eq581] at rh567
    refine lv_aload_n hx hb dX12_tell_217 rfl (lv_at hl 2 rfl) ?_
    refine lv_iconst (v := 4) hx hb dX12_tell_218 (by decide) ?_
    refine kq_v hw hS hA (va_runV (As := [.int 4]) (rest := []) ⟨hx, hb, hml, hown, hT⟩ (cX12_must_0 l G cy ev K ln Ls hW _ hp557 ok558 qa900 4 kd900) (cwV 1 hT (good_V tb_1651 tb_1648 tb_1650 tb_59 tb_122) rfl rfl rfl (by decide +kernel) ⟨Nat.le_of_ble_eq_true rfl, Nat.le_of_ble_eq_true rfl⟩) (pool_preV (ci := 12) hK hE hS hA hw hW kd900 (by decide) rfl) rfl rfl hl.1 rfl (lv_room (Nat.le_of_ble_eq_true rfl)) dX12_tell_219 ⟨Nat.le_of_ble_eq_true rfl, Nat.le_of_ble_eq_true rfl⟩) (fun hp587 H locs hq590 hw hS => ?_)
    obtain ⟨ok588, F589, rh592, rh593, rh594⟩ := hq590
    have hw : PW G cy K ln Ls A hp587 H := hw
    obtain ⟨zi596, eq595, bd597⟩ := rd_13013 ok588 kd900
    obtain ⟨zi599, eq598, bd600⟩ := rd_13011 ok588 kd900
    simp only [gi_of eq571, gi_of eq581, gi_of eq595, gi_of eq598] at rh592
    simp only [gi_of eq571, gi_of eq595] at rh593
    simp only [gi_of eq581, gi_of eq595, gi_of eq598] at rh594
    have pd601 : LPx hp587 qa900 := LP_fr ok558 kd900 (show Fr [13011, 13013, 13014] K hp557 hp587 from (Fr.tr (Fr.rf) F589 (by decide))) (by decide) xq562
    have eq602 : hp587 qa900 38 = .int zi569 := Eq.trans (Fr.at (cq := 13038) F589 kd900 (cd_o (by decide)) (by decide)) eq568
    obtain ⟨zi604, eq603, bd605⟩ := rd_13018 ok588 kd900
    have eq606 : hp587 qa900 19 = .int zi5 := Eq.trans (Fr.at (cq := 13019) F589 kd900 (cd_o (by decide)) (by decide)) eq574
    obtain ⟨qa608, eq607, kd609⟩ := rd_13035 ok588 kd900
    obtain ⟨qa611, eq610, kd612⟩ := rd_13036 ok588 kd900
    have eq613 : hp587 qa900 39 = .ref qa576 := Eq.trans (Fr.at (cq := 13039) F589 kd900 (cd_o (by decide)) (by decide)) eq575
    have eq614 : hp587 qa900 40 = .ref qa579 := Eq.trans (Fr.at (cq := 13040) F589 kd900 (cd_o (by decide)) (by decide)) eq578
    have cf615 : gi hp587 qa900 13 = 0 → (zi11 : Int32).toInt < gi hp587 qa900 38 ∧ CF (mA hp587 qa900 39) (mA hp587 qa900 40) (zi11 : Int32).toInt.toNat (gi hp587 qa900 38 - (zi11 : Int32).toInt).toNat := CFt xq563 (fun q => by rw [gi_of eq595] at q; rw [gi_of eq571]; omega) (mA_eq eq575 eq613 (show hp587 qa576 = hp557 qa576 from (funext fun i => Fr.at (cq := 84000) F589 kd577 (cd_a (by decide)) (by decide)))) (mA_eq eq578 eq614 (show hp587 qa579 = hp557 qa579 from (funext fun i => Fr.at (cq := 85000) F589 kd580 (cd_a (by decide)) (by decide)))) (by rw [gi_of eq602, gi_of eq568] <;> (omega)) (gi_of eq552).symm
    refine lv_aload_n hx hb dX12_tell_222 rfl (lv_at hl 2 rfl) ?_
    refine p_get (ci := 12) (v := .ref qa608) (C := RX12) (T := TX12) (N := 69) hx hb hT iw_X12 hown hK hw hW kd900 (by decide) rfl rfl 35 (by decide) eq607 (hT _ tb_1409) (fun _ h9 => h9) dX12_tell_223 ?_
    refine lv_iload_n hx hb dX12_tell_226 rfl (lv_at hl 1 rfl) ?_
    refine lv_iload_n hx hb dX12_tell_227 rfl (lv_at hl 0 rfl) ?_
    refine p_iast (x := zi11) hx hb hK hw hS hW kd609 (by decide) rfl (hW.len kd609 (n := 4) rfl (by decide)) (vp_b bd535 (by decide) (by decide)) dX12_tell_228 (fun hp616 eh617 H locs hw hS => ?_)
    have ok618 := wr_81000 bd12 (by decide) (by decide) ok588 kd609 eh617
    refine lv_aload_n hx hb dX12_tell_229 rfl (lv_at hl 2 rfl) ?_
    have eq619 : hp616 qa900 36 = .ref qa611 := Eq.trans (up_at eh617 (Or.inl (kd_ne kd900 kd609 (by decide)))) eq610
    refine p_get (ci := 12) (v := .ref qa611) (C := RX12) (T := TX12) (N := 69) hx hb hT iw_X12 hown hK hw hW kd900 (by decide) rfl rfl 36 (by decide) eq619 (hT _ tb_1410) (fun _ h9 => h9) dX12_tell_230 ?_
    refine lv_iload_n hx hb dX12_tell_233 rfl (lv_at hl 1 rfl) ?_
    refine lv_aload_n hx hb dX12_tell_234 rfl (lv_at hl 2 rfl) ?_
    have eq620 : hp616 qa900 38 = .int zi569 := Eq.trans (up_at eh617 (Or.inl (kd_ne kd900 kd609 (by decide)))) eq602
    refine p_get (ci := 12) (v := .int zi569) (C := RX12) (T := TX12) (N := 69) hx hb hT iw_X12 hown hK hw hW kd900 (by decide) rfl rfl 38 (by decide) eq620 (hT _ tb_1412) (fun _ h9 => h9) dX12_tell_235 ?_
    refine p_iast (x := zi569) hx hb hK hw hS hW kd612 (by decide) rfl (hW.len kd612 (n := 4) rfl (by decide)) (vp_b bd535 (by decide) (by decide)) dX12_tell_238 (fun hp621 eh622 H locs hw hS => ?_)
    have ok623 := wr_82000 bd570 (by decide) (by decide) ok618 kd612 eh622
    have eq624 : hp621 qa900 35 = .ref qa608 := Eq.trans (up_at eh622 (Or.inl (kd_ne kd900 kd612 (by decide)))) (Eq.trans (up_at eh617 (Or.inl (kd_ne kd900 kd609 (by decide)))) eq607)
    have eq625 : hp621 qa900 36 = .ref qa611 := Eq.trans (up_at eh622 (Or.inl (kd_ne kd900 kd612 (by decide)))) eq619
    have eq627 : hp621 qa900 39 = .ref qa576 := Eq.trans (up_at eh622 (Or.inl (kd_ne kd900 kd612 (by decide)))) (Eq.trans (up_at eh617 (Or.inl (kd_ne kd900 kd609 (by decide)))) eq613)
    have eq628 : hp621 qa900 40 = .ref qa579 := Eq.trans (up_at eh622 (Or.inl (kd_ne kd900 kd612 (by decide)))) (Eq.trans (up_at eh617 (Or.inl (kd_ne kd900 kd609 (by decide)))) eq614)
    have eq629 : hp621 qa900 18 = .int zi604 := Eq.trans (up_at eh622 (Or.inl (kd_ne kd900 kd612 (by decide)))) (Eq.trans (up_at eh617 (Or.inl (kd_ne kd900 kd609 (by decide)))) eq603)
    have eq630 : hp621 qa900 19 = .int zi5 := Eq.trans (up_at eh622 (Or.inl (kd_ne kd900 kd612 (by decide)))) (Eq.trans (up_at eh617 (Or.inl (kd_ne kd900 kd609 (by decide)))) eq606)
    have eq631 : hp621 qa900 38 = .int zi569 := Eq.trans (up_at eh622 (Or.inl (kd_ne kd900 kd612 (by decide)))) eq620
    have ll626 := LP_law (i := (zi533 : Int32).toNatClampNeg) pd601 (by rw [gi_of eq606]; have := clampN (x := zi533) (by omega); omega) (mA_up eq607 eq624 rfl eh617 (show hp621 qa608 = hp616 qa608 from (by rw [eh622]; exact up2_row (kd_ne kd609 kd612 (by decide))))) (mA_up eq610 eq625 (show hp616 qa611 = hp587 qa611 from (by rw [eh617]; exact up2_row (kd_ne kd612 kd609 (by decide)))) eh622 rfl) (mA_eq eq613 eq627 (Eq.trans (show hp621 qa576 = hp616 qa576 from (by rw [eh622]; exact up2_row (kd_ne kd577 kd612 (by decide)))) (show hp616 qa576 = hp587 qa576 from (by rw [eh617]; exact up2_row (kd_ne kd577 kd609 (by decide)))))) (mA_eq eq614 eq628 (Eq.trans (show hp621 qa579 = hp616 qa579 from (by rw [eh622]; exact up2_row (kd_ne kd580 kd612 (by decide)))) (show hp616 qa579 = hp587 qa579 from (by rw [eh617]; exact up2_row (kd_ne kd580 kd609 (by decide)))))) (by rw [gi_of eq629, gi_of eq603] <;> (omega)) (by rw [gi_of eq630, gi_of eq606] <;> (omega)) (by rw [gi_of eq631, gi_of eq602] <;> (omega))
    have eq633 : hp621 qa900 13 = .int zi596 := Eq.trans (up_at eh622 (Or.inl (kd_ne kd900 kd612 (by decide)))) (Eq.trans (up_at eh617 (Or.inl (kd_ne kd900 kd609 (by decide)))) eq595)
    have lq632 : gi hp621 qa900 13 = 0 → LPx hp621 qa900 := fun q => by
      have q2 := cf615 (by rw [gi_of eq633] at q; rw [gi_of eq595]; omega)
      rw [gi_of eq633] at q
      have q3 := (pd601).2.2.2.2.2.2
      rw [gi_of eq602] at q2
      exact ll626.2 (by rw [gi_of eq606]; omega) q2.1 (by rw [gi_of eq606]; omega) (by rw [gi_of eq602]; omega) q2.2
    refine lv_goto (tgt := 276) hx hb dX12_tell_239 (by decide) ?_
    have eq634 : hp621 qa900 11 = .int zi599 := Eq.trans (up_at eh622 (Or.inl (kd_ne kd900 kd612 (by decide)))) (Eq.trans (up_at eh617 (Or.inl (kd_ne kd900 kd609 (by decide)))) eq598)
    have eq635 : hp621 qa900 32 = .ref qa2 := Eq.trans (up_at eh622 (Or.inl (kd_ne kd900 kd612 (by decide)))) (Eq.trans (up_at eh617 (Or.inl (kd_ne kd900 kd609 (by decide)))) (Eq.trans (Fr.at (cq := 13032) F589 kd900 (cd_o (by decide)) (by decide)) (Eq.trans (Fr.at (cq := 13032) F559 kd900 (cd_o (by decide)) (by decide)) (Eq.trans (Fr.at (cq := 13032) F540 kd900 (cd_o (by decide)) (by decide)) eq1))))
    have eq636 : hp621 qa2 (zi5 : Int32).toNatClampNeg = .int zi8 := Eq.trans (up_at eh622 (Or.inl (kd_ne kd3 kd612 (by decide)))) (Eq.trans (up_at eh617 (Or.inl (kd_ne kd3 kd609 (by decide)))) (Eq.trans (Fr.at (cq := 78000) F589 kd3 (cd_a (by decide)) (by decide)) (Eq.trans (Fr.at (cq := 78000) F559 kd3 (cd_a (by decide)) (by decide)) (Eq.trans (Fr.at (cq := 78000) F540 kd3 (cd_a (by decide)) (by decide)) eq7))))
    have eq637 : hp621 qa900 24 = .ref qa14 := Eq.trans (up_at eh622 (Or.inl (kd_ne kd900 kd612 (by decide)))) (Eq.trans (up_at eh617 (Or.inl (kd_ne kd900 kd609 (by decide)))) (Eq.trans (Fr.at (cq := 13024) F589 kd900 (cd_o (by decide)) (by decide)) (Eq.trans (Fr.at (cq := 13024) F559 kd900 (cd_o (by decide)) (by decide)) (Eq.trans (Fr.at (cq := 13024) F540 kd900 (cd_o (by decide)) (by decide)) eq13))))
    have eq638 : hp621 qa14 (zi5 : Int32).toNatClampNeg = .int zi17 := Eq.trans (up_at eh622 (Or.inl (kd_ne kd15 kd612 (by decide)))) (Eq.trans (up_at eh617 (Or.inl (kd_ne kd15 kd609 (by decide)))) (Eq.trans (Fr.at (cq := 70000) F589 kd15 (cd_a (by decide)) (by decide)) (Eq.trans (Fr.at (cq := 70000) F559 kd15 (cd_a (by decide)) (by decide)) (Eq.trans (Fr.at (cq := 70000) F540 kd15 (cd_a (by decide)) (by decide)) eq16))))
    have eq639 : hp621 qa900 20 = .int zi23 := Eq.trans (up_at eh622 (Or.inl (kd_ne kd900 kd612 (by decide)))) (Eq.trans (up_at eh617 (Or.inl (kd_ne kd900 kd609 (by decide)))) (Eq.trans (Fr.at (cq := 13020) F589 kd900 (cd_o (by decide)) (by decide)) (Eq.trans (Fr.at (cq := 13020) F559 kd900 (cd_o (by decide)) (by decide)) (Eq.trans (Fr.at (cq := 13020) F540 kd900 (cd_o (by decide)) (by decide)) eq22))))
    have eq640 : hp621 qa900 27 = .ref qa32 := Eq.trans (up_at eh622 (Or.inl (kd_ne kd900 kd612 (by decide)))) (Eq.trans (up_at eh617 (Or.inl (kd_ne kd900 kd609 (by decide)))) (Eq.trans (Fr.at (cq := 13027) F589 kd900 (cd_o (by decide)) (by decide)) (Eq.trans (Fr.at (cq := 13027) F559 kd900 (cd_o (by decide)) (by decide)) (Eq.trans (Fr.at (cq := 13027) F540 kd900 (cd_o (by decide)) (by decide)) eq31))))
    have eq641 : hp621 qa32 (zi5 : Int32).toNatClampNeg = .int zi35 := Eq.trans (up_at eh622 (Or.inl (kd_ne kd33 kd612 (by decide)))) (Eq.trans (up_at eh617 (Or.inl (kd_ne kd33 kd609 (by decide)))) (Eq.trans (Fr.at (cq := 73000) F589 kd33 (cd_a (by decide)) (by decide)) (Eq.trans (Fr.at (cq := 73000) F559 kd33 (cd_a (by decide)) (by decide)) (Eq.trans (Fr.at (cq := 73000) F540 kd33 (cd_a (by decide)) (by decide)) eq34))))
    have eq642 : hp621 qa900 12 = .int zi585 := Eq.trans (up_at eh622 (Or.inl (kd_ne kd900 kd612 (by decide)))) (Eq.trans (up_at eh617 (Or.inl (kd_ne kd900 kd609 (by decide)))) (Eq.trans (Fr.at (cq := 13012) F589 kd900 (cd_o (by decide)) (by decide)) eq584))
    rw [hQ]
    exact kz_v hx hb hr hlocks hS hp621 hw ⟨ok623, (Fr.put (cq := 82000) (Fr.put (cq := 81000) (Fr.tr (Fr.tr (Fr.tr (Fr.rf) F540 (by decide)) F559 (by decide)) F589 (by decide)) eh617 kd609 (cd_a (by decide)) (by decide)) eh622 kd612 (cd_a (by decide)) (by decide)), (ll626.1), (lq632), (by simp only [gi_of eq19, gi_of eq28, gi_of eq633, gi_of eq634]; omega), (by simp only [gi_of eq19, gi_of eq633]; omega), (by simp only [gi_of eq28, gi_of eq633, gi_of eq634]; omega), (by simp only [ge_of eq635 eq630 eq636, ge_of eq637 eq630 eq638, ge_of eq640 eq630 eq641, gi_of eq639]; omega), (by simp only [gi_of eq633, gi_of eq642]; omega), (by simp only [gi_of eq630, gi_of eq631, gi_of eq633, gi_of eq634]; omega)⟩ (Nat.le_of_ble_eq_true rfl) (Nat.le_of_ble_eq_true rfl) dX12_tell_276
  by_cases cn54 : zi43 = 30
  · skip
    refine lv_tableIn (tgt := 242) hx hb dX12_tell_9 (by rw [cn54]; decide) (by rw [cn54]; decide) (by rw [cn54]; rfl) (by decide) ?_
    have bd643 : (30 : Int) ≤ zi43.toInt ∧ zi43.toInt ≤ 30 := r_eq_x cn54 (b_all zi43) bc_30 (by decide) (by decide)
    refine lv_aload_n hx hb dX12_tell_242 rfl (lv_at hl 0 rfl) ?_
    refine kq_v hw hS hA (va_runV (As := []) (rest := []) ⟨hx, hb, hml, hown, hT⟩ (cX12_goesOn_0 l G cy ev K ln Ls hW _ hp0 ok0 qa900 kd900) (cwV 0 hT (good_V tb_1639 tb_1636 tb_1638 tb_56 tb_122) rfl rfl rfl (by decide +kernel) ⟨Nat.le_of_ble_eq_true rfl, Nat.le_of_ble_eq_true rfl⟩) (pool_preV (ci := 12) hK hE hS hA hw hW kd900 (by decide) rfl) rfl rfl hl.1 rfl (lv_room (Nat.le_of_ble_eq_true rfl)) dX12_tell_243 ⟨Nat.le_of_ble_eq_true rfl, Nat.le_of_ble_eq_true rfl⟩) (fun hp644 H locs hq647 hw hS => ?_)
    obtain ⟨ok645, F646, ⟨zi649, eq650, bd651⟩, rh652, rh653, rh654⟩ := hq647
    have hw : PW G cy K ln Ls A hp644 H := hw
    obtain ⟨zi656, eq655, bd657⟩ := rd_13013 ok645 kd900
    simp only [gi_of eq19, gi_of eq28, gi_of eq650, gi_of eq655] at rh652
    simp only [gi_of eq19, gi_of eq655] at rh653
    simp only [gi_of eq28, gi_of eq650, gi_of eq655] at rh654
    refine lv_aload_n hx hb dX12_tell_246 rfl (lv_at hl 0 rfl) ?_
    obtain ⟨qa659, eq658, kd660⟩ := rd_13037 ok645 kd900
    refine p_get (ci := 12) (v := .ref qa659) (C := RX12) (T := TX12) (N := 69) hx hb hT iw_X12 hown hK hw hW kd900 (by decide) rfl rfl 37 (by decide) eq658 (hT _ tb_1411) (fun _ h9 => h9) dX12_tell_247 ?_
    refine lv_aload_n hx hb dX12_tell_250 rfl (lv_at hl 0 rfl) ?_
    have eq661 : hp644 qa900 19 = .int zi5 := Eq.trans (Fr.at (cq := 13019) F646 kd900 (cd_o (by decide)) (by decide)) eq4
    refine p_get (ci := 12) (v := .int zi5) (C := RX12) (T := TX12) (N := 69) hx hb hT iw_X12 hown hK hw hW kd900 (by decide) rfl rfl 19 (by decide) eq661 (hT _ tb_1393) (fun _ h9 => h9) dX12_tell_251 ?_
    refine lv_aload_n hx hb dX12_tell_254 rfl (lv_at hl 0 rfl) ?_
    refine lv_iconst (v := 0) hx hb dX12_tell_255 (by decide) ?_
    refine lv_sipush (v := 2879) hx hb dX12_tell_256 (by decide) ?_
    refine kq_i hw hS hA (va_runV (As := [.int 0, .int 2879]) (rest := [.int zi5, .ref qa659]) ⟨hx, hb, hml, hown, hT⟩ (cX12_bounded_0 l G cy ev K ln Ls hW _ hp644 ok645 qa900 0 2879 kd900) (cwV 2 hT (good_V tb_1699 tb_1696 tb_1698 tb_70 tb_122) rfl rfl rfl (by decide +kernel) ⟨Nat.le_of_ble_eq_true rfl, Nat.le_of_ble_eq_true rfl⟩) (pool_preV (ci := 12) hK hE hS hA hw hW kd900 (by decide) rfl) rfl rfl hl.1 rfl (lv_room (Nat.le_of_ble_eq_true rfl)) dX12_tell_259 ⟨Nat.le_of_ble_eq_true rfl, Nat.le_of_ble_eq_true rfl⟩) (fun zi666 hp662 H locs hq665 hw hS => ?_)
    obtain ⟨ok663, F664, rh667, rh668, rh669⟩ := hq665
    have hw : PW G cy K ln Ls A hp662 H := hw
    obtain ⟨zi671, eq670, bd672⟩ := rd_13013 ok663 kd900
    obtain ⟨zi674, eq673, bd675⟩ := rd_13011 ok663 kd900
    simp only [gi_of eq650, gi_of eq655, gi_of eq670, gi_of eq673] at rh667
    simp only [gi_of eq655, gi_of eq670] at rh668
    simp only [gi_of eq650, gi_of eq670, gi_of eq673] at rh669
    refine p_iast (x := zi666) hx hb hK hw hS hW kd660 (by decide) rfl (hW.len kd660 (n := 2) rfl (by decide)) (vp_b bd6 (by decide) (by decide)) dX12_tell_262 (fun hp676 eh677 H locs hw hS => ?_)
    have ok678 := wr_83000 ok663 kd660 eh677
    refine lv_aload_n hx hb dX12_tell_263 rfl (lv_at hl 0 rfl) ?_
    refine lv_iconst (v := 4) hx hb dX12_tell_264 (by decide) ?_
    have eq679 : hp676 qa900 13 = .int zi671 := Eq.trans (up_at eh677 (Or.inl (kd_ne kd900 kd660 (by decide)))) eq670
    have eq680 : hp676 qa900 11 = .int zi674 := Eq.trans (up_at eh677 (Or.inl (kd_ne kd900 kd660 (by decide)))) eq673
    refine kq_v hw hS hA (va_runV (As := [.int 4]) (rest := []) ⟨hx, hb, hml, hown, hT⟩ (cX12_must_0 l G cy ev K ln Ls hW _ hp676 ok678 qa900 4 kd900) (cwV 1 hT (good_V tb_1651 tb_1648 tb_1650 tb_59 tb_122) rfl rfl rfl (by decide +kernel) ⟨Nat.le_of_ble_eq_true rfl, Nat.le_of_ble_eq_true rfl⟩) (pool_preV (ci := 12) hK hE hS hA hw hW kd900 (by decide) rfl) rfl rfl hl.1 rfl (lv_room (Nat.le_of_ble_eq_true rfl)) dX12_tell_265 ⟨Nat.le_of_ble_eq_true rfl, Nat.le_of_ble_eq_true rfl⟩) (fun hp681 H locs hq684 hw hS => ?_)
    obtain ⟨ok682, F683, rh686, rh687, rh688⟩ := hq684
    have hw : PW G cy K ln Ls A hp681 H := hw
    obtain ⟨zi690, eq689, bd691⟩ := rd_13013 ok682 kd900
    obtain ⟨zi693, eq692, bd694⟩ := rd_13011 ok682 kd900
    simp only [gi_of eq679, gi_of eq680, gi_of eq689, gi_of eq692] at rh686
    simp only [gi_of eq679, gi_of eq689] at rh687
    simp only [gi_of eq680, gi_of eq689, gi_of eq692] at rh688
    refine lv_goto (tgt := 276) hx hb dX12_tell_268 (by decide) ?_
    have pd695 : LPx hp681 qa900 := LP_fr ok0 kd900 (show Fr [13011, 13013, 13014, 13015, 13016, 83000] K hp0 hp681 from (Fr.tr (Fr.put (cq := 83000) (Fr.tr (Fr.tr (Fr.rf) F646 (by decide)) F664 (by decide)) eh677 kd660 (cd_a (by decide)) (by decide)) F683 (by decide))) (by decide) pdLPx
    have eq696 : hp681 qa900 32 = .ref qa2 := Eq.trans (Fr.at (cq := 13032) F683 kd900 (cd_o (by decide)) (by decide)) (Eq.trans (up_at eh677 (Or.inl (kd_ne kd900 kd660 (by decide)))) (Eq.trans (Fr.at (cq := 13032) F664 kd900 (cd_o (by decide)) (by decide)) (Eq.trans (Fr.at (cq := 13032) F646 kd900 (cd_o (by decide)) (by decide)) eq1)))
    have eq697 : hp681 qa900 19 = .int zi5 := Eq.trans (Fr.at (cq := 13019) F683 kd900 (cd_o (by decide)) (by decide)) (Eq.trans (up_at eh677 (Or.inl (kd_ne kd900 kd660 (by decide)))) (Eq.trans (Fr.at (cq := 13019) F664 kd900 (cd_o (by decide)) (by decide)) eq661))
    have eq698 : hp681 qa2 (zi5 : Int32).toNatClampNeg = .int zi8 := Eq.trans (Fr.at (cq := 78000) F683 kd3 (cd_a (by decide)) (by decide)) (Eq.trans (up_at eh677 (Or.inl (kd_ne kd3 kd660 (by decide)))) (Eq.trans (Fr.at (cq := 78000) F664 kd3 (cd_a (by decide)) (by decide)) (Eq.trans (Fr.at (cq := 78000) F646 kd3 (cd_a (by decide)) (by decide)) eq7)))
    have eq699 : hp681 qa900 24 = .ref qa14 := Eq.trans (Fr.at (cq := 13024) F683 kd900 (cd_o (by decide)) (by decide)) (Eq.trans (up_at eh677 (Or.inl (kd_ne kd900 kd660 (by decide)))) (Eq.trans (Fr.at (cq := 13024) F664 kd900 (cd_o (by decide)) (by decide)) (Eq.trans (Fr.at (cq := 13024) F646 kd900 (cd_o (by decide)) (by decide)) eq13)))
    have eq700 : hp681 qa14 (zi5 : Int32).toNatClampNeg = .int zi17 := Eq.trans (Fr.at (cq := 70000) F683 kd15 (cd_a (by decide)) (by decide)) (Eq.trans (up_at eh677 (Or.inl (kd_ne kd15 kd660 (by decide)))) (Eq.trans (Fr.at (cq := 70000) F664 kd15 (cd_a (by decide)) (by decide)) (Eq.trans (Fr.at (cq := 70000) F646 kd15 (cd_a (by decide)) (by decide)) eq16)))
    have eq701 : hp681 qa900 20 = .int zi23 := Eq.trans (Fr.at (cq := 13020) F683 kd900 (cd_o (by decide)) (by decide)) (Eq.trans (up_at eh677 (Or.inl (kd_ne kd900 kd660 (by decide)))) (Eq.trans (Fr.at (cq := 13020) F664 kd900 (cd_o (by decide)) (by decide)) (Eq.trans (Fr.at (cq := 13020) F646 kd900 (cd_o (by decide)) (by decide)) eq22)))
    have eq702 : hp681 qa900 27 = .ref qa32 := Eq.trans (Fr.at (cq := 13027) F683 kd900 (cd_o (by decide)) (by decide)) (Eq.trans (up_at eh677 (Or.inl (kd_ne kd900 kd660 (by decide)))) (Eq.trans (Fr.at (cq := 13027) F664 kd900 (cd_o (by decide)) (by decide)) (Eq.trans (Fr.at (cq := 13027) F646 kd900 (cd_o (by decide)) (by decide)) eq31)))
    have eq703 : hp681 qa32 (zi5 : Int32).toNatClampNeg = .int zi35 := Eq.trans (Fr.at (cq := 73000) F683 kd33 (cd_a (by decide)) (by decide)) (Eq.trans (up_at eh677 (Or.inl (kd_ne kd33 kd660 (by decide)))) (Eq.trans (Fr.at (cq := 73000) F664 kd33 (cd_a (by decide)) (by decide)) (Eq.trans (Fr.at (cq := 73000) F646 kd33 (cd_a (by decide)) (by decide)) eq34)))
    have eq704 : hp681 qa900 12 = .int zi26 := Eq.trans (Fr.at (cq := 13012) F683 kd900 (cd_o (by decide)) (by decide)) (Eq.trans (up_at eh677 (Or.inl (kd_ne kd900 kd660 (by decide)))) (Eq.trans (Fr.at (cq := 13012) F664 kd900 (cd_o (by decide)) (by decide)) (Eq.trans (Fr.at (cq := 13012) F646 kd900 (cd_o (by decide)) (by decide)) eq25)))
    have eq705 : hp681 qa900 38 = .int zi11 := Eq.trans (Fr.at (cq := 13038) F683 kd900 (cd_o (by decide)) (by decide)) (Eq.trans (up_at eh677 (Or.inl (kd_ne kd900 kd660 (by decide)))) (Eq.trans (Fr.at (cq := 13038) F664 kd900 (cd_o (by decide)) (by decide)) (Eq.trans (Fr.at (cq := 13038) F646 kd900 (cd_o (by decide)) (by decide)) eq10)))
    rw [hQ]
    exact kz_v hx hb hr hlocks hS hp681 hw ⟨ok682, (Fr.tr (Fr.put (cq := 83000) (Fr.tr (Fr.tr (Fr.rf) F646 (by decide)) F664 (by decide)) eh677 kd660 (cd_a (by decide)) (by decide)) F683 (by decide)), ((pd695).lw), (fun _ => pd695), (by simp only [gi_of eq19, gi_of eq28, gi_of eq689, gi_of eq692]; omega), (by simp only [gi_of eq19, gi_of eq689]; omega), (by simp only [gi_of eq28, gi_of eq689, gi_of eq692]; omega), (by simp only [ge_of eq696 eq697 eq698, ge_of eq699 eq697 eq700, ge_of eq702 eq697 eq703, gi_of eq701]; omega), (by simp only [gi_of eq689, gi_of eq704]; omega), (by simp only [gi_of eq689, gi_of eq692, gi_of eq697, gi_of eq705]; omega)⟩ (Nat.le_of_ble_eq_true rfl) (Nat.le_of_ble_eq_true rfl) dX12_tell_276
  have nn55 : zi43.toInt ≠ 20 := fun e => cn44 (Int32.toInt_inj.mp (e.trans (by decide)))
  have nn56 : zi43.toInt ≠ 21 := fun e => cn45 (Int32.toInt_inj.mp (e.trans (by decide)))
  have nn57 : zi43.toInt ≠ 22 := fun e => cn46 (Int32.toInt_inj.mp (e.trans (by decide)))
  have nn58 : zi43.toInt ≠ 23 := fun e => cn47 (Int32.toInt_inj.mp (e.trans (by decide)))
  have nn59 : zi43.toInt ≠ 24 := fun e => cn48 (Int32.toInt_inj.mp (e.trans (by decide)))
  have nn60 : zi43.toInt ≠ 25 := fun e => cn49 (Int32.toInt_inj.mp (e.trans (by decide)))
  have nn61 : zi43.toInt ≠ 26 := fun e => cn50 (Int32.toInt_inj.mp (e.trans (by decide)))
  have nn62 : zi43.toInt ≠ 27 := fun e => cn51 (Int32.toInt_inj.mp (e.trans (by decide)))
  have nn63 : zi43.toInt ≠ 28 := fun e => cn52 (Int32.toInt_inj.mp (e.trans (by decide)))
  have nn64 : zi43.toInt ≠ 29 := fun e => cn53 (Int32.toInt_inj.mp (e.trans (by decide)))
  have nn65 : zi43.toInt ≠ 30 := fun e => cn54 (Int32.toInt_inj.mp (e.trans (by decide)))
  refine lv_tableOut (tgt := 271) hx hb dX12_tell_9 (by have := (b_all zi43); omega) (by decide) ?_
  refine lv_aload_n hx hb dX12_tell_271 rfl (lv_at hl 0 rfl) ?_
  refine lv_iconst (v := 1) hx hb dX12_tell_272 (by decide) ?_
  refine kq_v hw hS hA (va_runV (As := [.int 1]) (rest := []) ⟨hx, hb, hml, hown, hT⟩ (cX12_fail_0 l G cy ev K ln Ls hW _ hp0 ok0 qa900 1 kd900 (b_wid2 bc_1 (by decide) (by decide))) (cwV 1 hT (good_V tb_1635 tb_1632 tb_1634 tb_55 tb_122) rfl rfl rfl (by decide +kernel) ⟨Nat.le_of_ble_eq_true rfl, Nat.le_of_ble_eq_true rfl⟩) (pool_preV (ci := 12) hK hE hS hA hw hW kd900 (by decide) rfl) rfl rfl hl.1 rfl (lv_room (Nat.le_of_ble_eq_true rfl)) dX12_tell_273 ⟨Nat.le_of_ble_eq_true rfl, Nat.le_of_ble_eq_true rfl⟩) (fun hp706 H locs hq709 hw hS => ?_)
  obtain ⟨ok707, F708, ⟨zi711, eq712, bd713⟩, rh714⟩ := hq709
  have hw : PW G cy K ln Ls A hp706 H := hw
  simp only [gi_of eq19, gi_of eq712] at rh714
  have pd715 : LPx hp706 qa900 := LP_fr ok0 kd900 (show Fr [13013, 13014] K hp0 hp706 from (Fr.tr (Fr.rf) F708 (by decide))) (by decide) pdLPx
  have eq716 : hp706 qa900 11 = .int zi29 := Eq.trans (Fr.at (cq := 13011) F708 kd900 (cd_o (by decide)) (by decide)) eq28
  have eq717 : hp706 qa900 32 = .ref qa2 := Eq.trans (Fr.at (cq := 13032) F708 kd900 (cd_o (by decide)) (by decide)) eq1
  have eq718 : hp706 qa900 19 = .int zi5 := Eq.trans (Fr.at (cq := 13019) F708 kd900 (cd_o (by decide)) (by decide)) eq4
  have eq719 : hp706 qa2 (zi5 : Int32).toNatClampNeg = .int zi8 := Eq.trans (Fr.at (cq := 78000) F708 kd3 (cd_a (by decide)) (by decide)) eq7
  have eq720 : hp706 qa900 24 = .ref qa14 := Eq.trans (Fr.at (cq := 13024) F708 kd900 (cd_o (by decide)) (by decide)) eq13
  have eq721 : hp706 qa14 (zi5 : Int32).toNatClampNeg = .int zi17 := Eq.trans (Fr.at (cq := 70000) F708 kd15 (cd_a (by decide)) (by decide)) eq16
  have eq722 : hp706 qa900 20 = .int zi23 := Eq.trans (Fr.at (cq := 13020) F708 kd900 (cd_o (by decide)) (by decide)) eq22
  have eq723 : hp706 qa900 27 = .ref qa32 := Eq.trans (Fr.at (cq := 13027) F708 kd900 (cd_o (by decide)) (by decide)) eq31
  have eq724 : hp706 qa32 (zi5 : Int32).toNatClampNeg = .int zi35 := Eq.trans (Fr.at (cq := 73000) F708 kd33 (cd_a (by decide)) (by decide)) eq34
  have eq725 : hp706 qa900 12 = .int zi26 := Eq.trans (Fr.at (cq := 13012) F708 kd900 (cd_o (by decide)) (by decide)) eq25
  have eq726 : hp706 qa900 38 = .int zi11 := Eq.trans (Fr.at (cq := 13038) F708 kd900 (cd_o (by decide)) (by decide)) eq10
  rw [hQ]
  exact kz_v hx hb hr hlocks hS hp706 hw ⟨ok707, (Fr.tr (Fr.rf) F708 (by decide)), ((pd715).lw), (fun _ => pd715), (by simp only [gi_of eq19, gi_of eq28, gi_of eq712, gi_of eq716]; omega), (by simp only [gi_of eq19, gi_of eq712]; omega), (by simp only [gi_of eq28, gi_of eq712, gi_of eq716]; omega), (by simp only [ge_of eq717 eq718 eq719, ge_of eq720 eq718 eq721, ge_of eq723 eq718 eq724, gi_of eq722]; omega), (by simp only [gi_of eq712, gi_of eq725]; omega), (by simp only [gi_of eq712, gi_of eq716, gi_of eq718, gi_of eq726]; omega)⟩ (Nat.le_of_ble_eq_true rfl) (Nat.le_of_ble_eq_true rfl) dX12_tell_276

set_option maxRecDepth 100000 in
set_option maxHeartbeats 4000000 in
theorem cX12_begins_0 (l : Launch) (G : va_G) (cy : Nat → ClassId) (ev : Ew) (K ln : Nat → Nat) (Ls : List Nat) (hW : SW K ln Ls) (sz : Nat) (hp0 : Nat → Nat → Value) (ok0 : Ok K hp0) (qa900 : Nat) (kd900 : K qa900 = 13) : Met l yX12_begins (WS yX12_begins cX12_begins 2 none) { frames := 0, cells := 0, slots := 0, locals := 0 } (PB2 [.ref qa900] sz G cy ev (va_pl Ls (cellOf cy K ln hp0))) (QBv (S := (Nat → Nat → Value)) (fun u : (Nat → Nat → Value) => Ok K u ∧ Fr [93000] K hp0 u) G (fun u => va_pl Ls (cellOf cy K ln u)) (va_A (va_pl Ls (cellOf cy K ln hp0)) sz)) 0 0 (va_A (va_pl Ls (cellOf cy K ln hp0)) sz) := by
  refine met_of2 (y := yX12_begins) (L := 2) (av := [.ref qa900]) (Qc := fun A => QBv (S := (Nat → Nat → Value)) (fun u : (Nat → Nat → Value) => Ok K u ∧ Fr [93000] K hp0 u) G (fun u => va_pl Ls (cellOf cy K ln u)) A) (plainFor_of_name (by decide)) (Nat.le_of_ble_eq_true rfl) ?_
  intro p e s m below meth c hsz hx hb hr hml hown hT hlocks hin hK A hA hE hw hS ls hl
  have hw : PW G cy K ln Ls A hp0 s.heap := hw
  have hown : s.vm.findClass "LieClockModel" = some m.cls := hown
  have hl : lv_has ls 2 [(0, .ref qa900)] := hl
  obtain ⟨Q, hQ⟩ : ∃ Q : State → Prop, Q = MQ below (QBv (S := (Nat → Nat → Value)) (fun u : (Nat → Nat → Value) => Ok K u ∧ Fr [93000] K hp0 u) G (fun u => va_pl Ls (cellOf cy K ln u)) A) ([.ref qa900] : List Value).toArray s 0 0 A := ⟨_, rfl⟩
  rw [← hQ]
  refine lv_iconst (v := 0) hx hb dX12_begins_0 (by decide) ?_
  refine lv_istore_n (lv' := [(1, .int 0), (0, .ref qa900)]) hx hb dX12_begins_1 rfl hl (by decide) rfl (fun ls hl => ?_)
  have lp192 : ∀ (n190 : Nat) (hp130 : Nat → Nat → Value) (zi129 : Int32) (H : Heap) (locs : List Loc) (ls : Array Slot), 40 - zi129.toInt < (n190 : Int) → Ok K hp130 → Fr [93000] K hp0 hp130 → ((0 : Int) ≤ zi129.toInt ∧ zi129.toInt ≤ 40) → lv_has ls 2 [(0, .ref qa900), (1, .int zi129)] → PW G cy K ln Ls A hp130 H → va_S A s.heap H locs → W p l e ({ frames := 0, cells := 0, slots := 0, locals := 0 } : Room) s m ([.ref qa900] : List Value).toArray below meth c H locs 0 0 Q (F0 m 2 ls []) := by
    intro n190
    induction n190 with
    | zero =>
      intro hp130 zi129 H locs ls hm193 ok132 F131 bd133 hl hw hS
      exact absurd hm193 (by have := bd133; omega)
    | succ n190 ih191 =>
      intro hp130 zi129 H locs ls hm193 ok132 F131 bd133 hl hw hS
      refine lv_iload_n hx hb dX12_begins_2 rfl (lv_at hl 1 rfl) ?_
      refine lv_bipush (v := 40) hx hb dX12_begins_3 (by decide) ?_
      refine lv_icmp_ge (tgt := 38) hx hb dX12_begins_5 (by decide) (fun cn194 => ?_) (fun cn194 => ?_)
      · skip
        have bd222 : (40 : Int) ≤ zi129.toInt ∧ zi129.toInt ≤ 40 := r_le_y cn194 bc_40 bd133 (by decide) (by decide)
        refine lv_aload_n hx hb dX12_begins_38 rfl (lv_at hl 0 rfl) ?_
        obtain ⟨qa224, eq223, kd225⟩ := rd_13050 ok132 kd900
        refine p_get (ci := 12) (v := .ref qa224) (C := RX12) (T := TX12) (N := 69) hx hb hT iw_X12 hown hK hw hW kd900 (by decide) rfl rfl 50 (by decide) eq223 (hT _ tb_1424) (fun _ h9 => h9) dX12_begins_39 ?_
        refine lv_iconst (v := 0) hx hb dX12_begins_42 (by decide) ?_
        refine lv_aload_n hx hb dX12_begins_43 rfl (lv_at hl 0 rfl) ?_
        obtain ⟨qa227, eq226, kd228⟩ := rd_13037 ok132 kd900
        refine p_get (ci := 12) (v := .ref qa227) (C := RX12) (T := TX12) (N := 69) hx hb hT iw_X12 hown hK hw hW kd900 (by decide) rfl rfl 37 (by decide) eq226 (hT _ tb_1411) (fun _ h9 => h9) dX12_begins_44 ?_
        refine lv_aload_n hx hb dX12_begins_47 rfl (lv_at hl 0 rfl) ?_
        obtain ⟨zi230, eq229, bd231⟩ := rd_13018 ok132 kd900
        refine p_get (ci := 12) (v := .int zi230) (C := RX12) (T := TX12) (N := 69) hx hb hT iw_X12 hown hK hw hW kd900 (by decide) rfl rfl 18 (by decide) eq229 (hT _ tb_1392) (fun _ h9 => h9) dX12_begins_48 ?_
        obtain ⟨zi233, eq232⟩ := rd_83000 ok132 kd228 ((zi230 : Int32).toNatClampNeg)
        refine p_iald (v := zi233) hx hb hK hw hW kd228 (by decide) rfl (hW.len kd228 (n := 2) rfl (by decide)) (vp_b bd231 (by decide) (by decide)) eq232 dX12_begins_51 ?_
        refine p_iast (x := zi233) hx hb hK hw hS hW kd225 (by decide) rfl (hW.len kd225 (n := 40) rfl (by decide)) (vp_b bc_0 (by decide) (by decide)) dX12_begins_52 (fun hp234 eh235 H locs hw hS => ?_)
        have ok236 := wr_93000 ok132 kd225 eh235
        refine lv_aload_n hx hb dX12_begins_53 rfl (lv_at hl 0 rfl) ?_
        have eq237 : hp234 qa900 50 = .ref qa224 := Eq.trans (up_at eh235 (Or.inl (kd_ne kd900 kd225 (by decide)))) eq223
        refine p_get (ci := 12) (v := .ref qa224) (C := RX12) (T := TX12) (N := 69) hx hb hT iw_X12 hown hK hw hW kd900 (by decide) rfl rfl 50 (by decide) eq237 (hT _ tb_1424) (fun _ h9 => h9) dX12_begins_54 ?_
        refine lv_iconst (v := 3) hx hb dX12_begins_57 (by decide) ?_
        refine lv_aload_n hx hb dX12_begins_58 rfl (lv_at hl 0 rfl) ?_
        obtain ⟨qa239, eq238, kd240⟩ := rd_13026 ok236 kd900
        refine p_get (ci := 12) (v := .ref qa239) (C := RX12) (T := TX12) (N := 69) hx hb hT iw_X12 hown hK hw hW kd900 (by decide) rfl rfl 26 (by decide) eq238 (hT _ tb_1400) (fun _ h9 => h9) dX12_begins_59 ?_
        refine lv_aload_n hx hb dX12_begins_62 rfl (lv_at hl 0 rfl) ?_
        have eq241 : hp234 qa900 18 = .int zi230 := Eq.trans (up_at eh235 (Or.inl (kd_ne kd900 kd225 (by decide)))) eq229
        refine p_get (ci := 12) (v := .int zi230) (C := RX12) (T := TX12) (N := 69) hx hb hT iw_X12 hown hK hw hW kd900 (by decide) rfl rfl 18 (by decide) eq241 (hT _ tb_1392) (fun _ h9 => h9) dX12_begins_63 ?_
        obtain ⟨zi243, eq242⟩ := rd_72000 ok236 kd240 ((zi230 : Int32).toNatClampNeg)
        refine p_iald (v := zi243) hx hb hK hw hW kd240 (by decide) rfl (hW.len kd240 (n := 2) rfl (by decide)) (vp_b bd231 (by decide) (by decide)) eq242 dX12_begins_66 ?_
        refine p_iast (x := zi243) hx hb hK hw hS hW kd225 (by decide) rfl (hW.len kd225 (n := 40) rfl (by decide)) (vp_b bc_3 (by decide) (by decide)) dX12_begins_67 (fun hp244 eh245 H locs hw hS => ?_)
        have ok246 := wr_93000 ok236 kd225 eh245
        rw [hQ]
        exact kz_v hx hb hr hlocks hS hp244 hw ⟨ok246, (Fr.put (cq := 93000) (Fr.put (cq := 93000) (Fr.tr (Fr.rf) F131 (by decide)) eh235 kd225 (cd_a (by decide)) (by decide)) eh245 kd225 (cd_a (by decide)) (by decide))⟩ (Nat.le_of_ble_eq_true rfl) (Nat.le_of_ble_eq_true rfl) dX12_begins_68
      · skip
        have bd247 : (0 : Int) ≤ zi129.toInt ∧ zi129.toInt ≤ 39 := r_lt_x (Int32.not_le.mp cn194) bd133 bc_40 (by decide) (by decide)
        refine lv_aload_n hx hb dX12_begins_8 rfl (lv_at hl 0 rfl) ?_
        obtain ⟨qa249, eq248, kd250⟩ := rd_13050 ok132 kd900
        refine p_get (ci := 12) (v := .ref qa249) (C := RX12) (T := TX12) (N := 69) hx hb hT iw_X12 hown hK hw hW kd900 (by decide) rfl rfl 50 (by decide) eq248 (hT _ tb_1424) (fun _ h9 => h9) dX12_begins_9 ?_
        refine lv_iload_n hx hb dX12_begins_12 rfl (lv_at hl 1 rfl) ?_
        refine lv_iload_n hx hb dX12_begins_13 rfl (lv_at hl 1 rfl) ?_
        refine lv_bipush (v := 12) hx hb dX12_begins_14 (by decide) ?_
        have jn259 : ∀ (zi257 : Int32) (H : Heap) (locs : List Loc) (ls : Array Slot), ((-2 : Int) ≤ zi257.toInt ∧ zi257.toInt ≤ 0) → lv_has ls 2 [(0, .ref qa900), (1, .int zi129)] → PW G cy K ln Ls A hp130 H → va_S A s.heap H locs → W p l e ({ frames := 0, cells := 0, slots := 0, locals := 0 } : Room) s m ([.ref qa900] : List Value).toArray below meth c H locs 0 0 Q (F0 m 31 ls [.int zi257, .int zi129, .ref qa249]) := by
          intro zi257 H locs ls bd258 hl hw hS
          refine p_iast (x := zi257) hx hb hK hw hS hW kd250 (by decide) rfl (hW.len kd250 (n := 40) rfl (by decide)) (vp_b bd247 (by decide) (by decide)) dX12_begins_31 (fun hp260 eh261 H locs hw hS => ?_)
          have ok262 := wr_93000 ok132 kd250 eh261
          obtain ⟨zi263, ea264⟩ : ∃ z : Int32, z = zi129 + 1 := ⟨_, rfl⟩
          have bd265 : (1 : Int) ≤ zi263.toInt ∧ zi263.toInt ≤ 40 := b_iadd ea264 bd247 bc_1 (by decide) (by decide) (by decide) (by decide)
          have qe266 : zi263.toInt = (zi129 : Int32).toInt + (1 : Int32).toInt := e_iadd ea264 bd247 bc_1 (by decide) (by decide)
          have qe267 : zi263.toInt = zi129.toInt + 1 := by have ha : (1 : Int32).toInt = 1 := (by decide); rw [ha] at qe266; exact qe266
          refine lv_iinc (v := zi263) (lv' := [(1, .int zi263), (0, .ref qa900)]) hx hb dX12_begins_32 hl (k := 1) rfl ea264.symm (by decide) rfl (fun ls hl => ?_)
          refine lv_goto (tgt := 2) hx hb dX12_begins_35 (by decide) ?_
          exact ih191 hp260 zi263 _ _ ls (by have := hm193; have := qe267; omega) ok262 (Fr.put (cq := 93000) (Fr.tr (Fr.rf) F131 (by decide)) eh261 kd250 (cd_a (by decide)) (by decide)) (b_wid2 bd265 (by decide) (by decide)) (lv_sub hl [1, 0] rfl) hw hS
        refine lv_icmp_lt (tgt := 30) hx hb dX12_begins_16 (by decide) (fun cn251 => ?_) (fun cn251 => ?_)
        · skip
          have bd268 : (0 : Int) ≤ zi129.toInt ∧ zi129.toInt ≤ 11 := r_lt_x cn251 bd247 bc_12 (by decide) (by decide)
          refine lv_iconst (v := 0) hx hb dX12_begins_30 (by decide) ?_
          exact jn259 0 _ _ ls (b_wid2 bc_0 (by decide) (by decide)) (lv_sub hl [0, 1] rfl) hw hS
        · skip
          have bd269 : (12 : Int) ≤ zi129.toInt ∧ zi129.toInt ≤ 39 := r_le_y (Int32.not_lt.mp cn251) bc_12 bd247 (by decide) (by decide)
          refine lv_iload_n hx hb dX12_begins_19 rfl (lv_at hl 1 rfl) ?_
          refine lv_bipush (v := 20) hx hb dX12_begins_20 (by decide) ?_
          refine lv_icmp_ge (tgt := 30) hx hb dX12_begins_22 (by decide) (fun cn270 => ?_) (fun cn270 => ?_)
          · skip
            have bd271 : (20 : Int) ≤ zi129.toInt ∧ zi129.toInt ≤ 39 := r_le_y cn270 bc_20 bd269 (by decide) (by decide)
            refine lv_iconst (v := 0) hx hb dX12_begins_30 (by decide) ?_
            exact jn259 0 _ _ ls (b_wid2 bc_0 (by decide) (by decide)) (lv_sub hl [0, 1] rfl) hw hS
          · skip
            have bd272 : (12 : Int) ≤ zi129.toInt ∧ zi129.toInt ≤ 19 := r_lt_x (Int32.not_le.mp cn270) bd269 bc_20 (by decide) (by decide)
            refine lv_bipush (v := (-2)) hx hb dX12_begins_25 (by decide) ?_
            refine lv_goto (tgt := 31) hx hb dX12_begins_27 (by decide) ?_
            exact jn259 ((-2)) _ _ ls (b_wid2 bc_m2 (by decide) (by decide)) (lv_sub hl [0, 1] rfl) hw hS
  exact lp192 _ hp0 0 _ _ ls (lp_in _) ok0 (Fr.rf) (b_wid2 bc_0 (by decide) (by decide)) (lv_sub hl [1, 0] rfl) hw hS

set_option maxRecDepth 100000 in
set_option maxHeartbeats 4000000 in
theorem cX12_read_0 (l : Launch) (G : va_G) (cy : Nat → ClassId) (ev : Ew) (K ln : Nat → Nat) (Ls : List Nat) (hW : SW K ln Ls) (sz : Nat) (hp0 : Nat → Nat → Value) (ok0 : Ok K hp0) (qa900 : Nat) (kd900 : K qa900 = 13) (pdLW : LW hp0 qa900) : Met l yX12_read (WS yX12_read cX12_read 2 (some .int)) { frames := 7, cells := 0, slots := 0, locals := 151 } (PB2 [.ref qa900] sz G cy ev (va_pl Ls (cellOf cy K ln hp0))) (QBi (S := (Nat → Nat → Value)) (fun (r : Int32) (u : (Nat → Nat → Value)) => Ok K u ∧ Fr [13002, 13004, 13010, 13011, 13012, 13013, 13014, 13015, 13016, 13017, 13018, 13019, 13020, 13038, 13045, 13053, 13061, 61000, 62000, 63000, 64000, 65000, 67000, 68000, 69000, 70000, 71000, 72000, 73000, 74000, 75000, 76000, 77000, 78000, 79000, 80000, 81000, 82000, 83000, 84000, 85000, 86000, 87000, 88000, 89000, 92000, 93000, 101000] K hp0 u ∧ ((0 : Int) ≤ r.toInt ∧ r.toInt ≤ 2147483647) ∧ (∃ z : Int32, u qa900 2 = .int z ∧ ((0 : Int) ≤ z.toInt ∧ z.toInt ≤ 0)) ∧ (∃ z : Int32, u qa900 10 = .int z ∧ ((1 : Int) ≤ z.toInt ∧ z.toInt ≤ 401)) ∧ (LW u qa900)) G (fun u => va_pl Ls (cellOf cy K ln u)) (va_A (va_pl Ls (cellOf cy K ln hp0)) sz)) 0 0 (va_A (va_pl Ls (cellOf cy K ln hp0)) sz) := by
  refine met_of2 (y := yX12_read) (L := 2) (av := [.ref qa900]) (Qc := fun A => QBi (S := (Nat → Nat → Value)) (fun (r : Int32) (u : (Nat → Nat → Value)) => Ok K u ∧ Fr [13002, 13004, 13010, 13011, 13012, 13013, 13014, 13015, 13016, 13017, 13018, 13019, 13020, 13038, 13045, 13053, 13061, 61000, 62000, 63000, 64000, 65000, 67000, 68000, 69000, 70000, 71000, 72000, 73000, 74000, 75000, 76000, 77000, 78000, 79000, 80000, 81000, 82000, 83000, 84000, 85000, 86000, 87000, 88000, 89000, 92000, 93000, 101000] K hp0 u ∧ ((0 : Int) ≤ r.toInt ∧ r.toInt ≤ 2147483647) ∧ (∃ z : Int32, u qa900 2 = .int z ∧ ((0 : Int) ≤ z.toInt ∧ z.toInt ≤ 0)) ∧ (∃ z : Int32, u qa900 10 = .int z ∧ ((1 : Int) ≤ z.toInt ∧ z.toInt ≤ 401)) ∧ (LW u qa900)) G (fun u => va_pl Ls (cellOf cy K ln u)) A) (plainFor_of_name (by decide)) (Nat.le_of_ble_eq_true rfl) ?_
  intro p e s m below meth c hsz hx hb hr hml hown hT hlocks hin hK A hA hE hw hS ls hl
  have hw : PW G cy K ln Ls A hp0 s.heap := hw
  have hown : s.vm.findClass "LieClockModel" = some m.cls := hown
  have hl : lv_has ls 2 [(0, .ref qa900)] := hl
  obtain ⟨Q, hQ⟩ : ∃ Q : State → Prop, Q = MQ below (QBi (S := (Nat → Nat → Value)) (fun (r : Int32) (u : (Nat → Nat → Value)) => Ok K u ∧ Fr [13002, 13004, 13010, 13011, 13012, 13013, 13014, 13015, 13016, 13017, 13018, 13019, 13020, 13038, 13045, 13053, 13061, 61000, 62000, 63000, 64000, 65000, 67000, 68000, 69000, 70000, 71000, 72000, 73000, 74000, 75000, 76000, 77000, 78000, 79000, 80000, 81000, 82000, 83000, 84000, 85000, 86000, 87000, 88000, 89000, 92000, 93000, 101000] K hp0 u ∧ ((0 : Int) ≤ r.toInt ∧ r.toInt ≤ 2147483647) ∧ (∃ z : Int32, u qa900 2 = .int z ∧ ((0 : Int) ≤ z.toInt ∧ z.toInt ≤ 0)) ∧ (∃ z : Int32, u qa900 10 = .int z ∧ ((1 : Int) ≤ z.toInt ∧ z.toInt ≤ 401)) ∧ (LW u qa900)) G (fun u => va_pl Ls (cellOf cy K ln u)) A) ([.ref qa900] : List Value).toArray s 0 0 A := ⟨_, rfl⟩
  rw [← hQ]
  obtain ⟨zi2, eq1, bd3⟩ := rd_13018 ok0 kd900
  obtain ⟨qa5, eq4, kd6⟩ := rd_13035 ok0 kd900
  obtain ⟨qa8, eq7, kd9⟩ := rd_13036 ok0 kd900
  obtain ⟨qa11, eq10, kd12⟩ := rd_13039 ok0 kd900
  obtain ⟨qa14, eq13, kd15⟩ := rd_13040 ok0 kd900
  refine lv_aload_n hx hb dX12_read_0 rfl (lv_at hl 0 rfl) ?_
  refine lv_aload_n hx hb dX12_read_1 rfl (lv_at hl 0 rfl) ?_
  obtain ⟨zi17, eq16, bd18⟩ := rd_13002 ok0 kd900
  refine p_get (ci := 12) (v := .int zi17) (C := RX12) (T := TX12) (N := 69) hx hb hT iw_X12 hown hK hw hW kd900 (by decide) rfl rfl 2 (by decide) eq16 (hT _ tb_1376) (fun _ h9 => h9) dX12_read_2 ?_
  refine p_put (ci := 12) (v := .int zi17) (ty := .int) (C := RX12) (T := TX12) (N := 69) hx hb hT iw_X12 tyX12 tyX12_ok nmX12 hown hK hw hS hW kd900 (by decide) rfl rfl 4 (by decide) (hT _ tb_1378) (fun _ h9 => h9) rfl (by decide +kernel) rfl rfl dX12_read_5 (fun hp19 eh20 H locs hw hS => ?_)
  have ok21 := wr_13004 bd18 (by decide) (by decide) ok0 kd900 eh20
  refine lv_iconst (v := 0) hx hb dX12_read_8 (by decide) ?_
  refine lv_istore_n (lv' := [(1, .int 0), (0, .ref qa900)]) hx hb dX12_read_9 rfl hl (by decide) rfl (fun ls hl => ?_)
  obtain ⟨zi23, eq22, bd24⟩ := rd_13011 ok21 kd900
  obtain ⟨zi26, eq25, bd27⟩ := rd_13013 ok21 kd900
  obtain ⟨zi29, eq28, bd30⟩ := rd_13020 ok21 kd900
  obtain ⟨qa32, eq31, kd33⟩ := rd_13024 ok21 kd900
  obtain ⟨zi35, eq34, bd36⟩ := rd_13019 ok21 kd900
  obtain ⟨zi38, eq37, bd39⟩ := rd_70000 ok21 kd33 ((zi35 : Int32).toNatClampNeg)
  obtain ⟨qa41, eq40, kd42⟩ := rd_13027 ok21 kd900
  obtain ⟨zi44, eq43, bd45⟩ := rd_73000 ok21 kd42 ((zi35 : Int32).toNatClampNeg)
  obtain ⟨qa47, eq46, kd48⟩ := rd_13032 ok21 kd900
  obtain ⟨zi50, eq49, bd51⟩ := rd_78000 ok21 kd48 ((zi35 : Int32).toNatClampNeg)
  obtain ⟨zi53, eq52, bd54⟩ := rd_13012 ok21 kd900
  obtain ⟨zi56, eq55, bd57⟩ := rd_13038 ok21 kd900
  have lp462 : ∀ (n460 : Nat) (hp382 : Nat → Nat → Value) (zi381 : Int32) (H : Heap) (locs : List Loc) (ls : Array Slot), 2000 - zi381.toInt < (n460 : Int) → Ok K hp382 → Fr [61000] K hp19 hp382 → ((0 : Int) ≤ zi381.toInt ∧ zi381.toInt ≤ 2000) → lv_has ls 2 [(0, .ref qa900), (1, .int zi381)] → PW G cy K ln Ls A hp382 H → va_S A s.heap H locs → W p l e ({ frames := 7, cells := 0, slots := 0, locals := 151 } : Room) s m ([.ref qa900] : List Value).toArray below meth c H locs 0 0 Q (F0 m 10 ls []) := by
    intro n460
    induction n460 with
    | zero =>
      intro hp382 zi381 H locs ls hm463 ok384 F383 bd385 hl hw hS
      exact absurd hm463 (by have := bd385; omega)
    | succ n460 ih461 =>
      intro hp382 zi381 H locs ls hm463 ok384 F383 bd385 hl hw hS
      refine lv_iload_n hx hb dX12_read_10 rfl (lv_at hl 1 rfl) ?_
      refine lv_aload_n hx hb dX12_read_11 rfl (lv_at hl 0 rfl) ?_
      have eq464 : hp382 qa900 4 = .int zi17 := Eq.trans (Fr.at (cq := 13004) F383 kd900 (cd_o (by decide)) (by decide)) (hp_self eh20)
      refine p_get (ci := 12) (v := .int zi17) (C := RX12) (T := TX12) (N := 69) hx hb hT iw_X12 hown hK hw hW kd900 (by decide) rfl rfl 4 (by decide) eq464 (hT _ tb_1378) (fun _ h9 => h9) dX12_read_12 ?_
      have eq466 : hp382 qa900 11 = .int zi23 := Eq.trans (Fr.at (cq := 13011) F383 kd900 (cd_o (by decide)) (by decide)) eq22
      have eq467 : hp382 qa900 13 = .int zi26 := Eq.trans (Fr.at (cq := 13013) F383 kd900 (cd_o (by decide)) (by decide)) eq25
      have eq468 : hp382 qa900 20 = .int zi29 := Eq.trans (Fr.at (cq := 13020) F383 kd900 (cd_o (by decide)) (by decide)) eq28
      have eq469 : hp382 qa900 24 = .ref qa32 := Eq.trans (Fr.at (cq := 13024) F383 kd900 (cd_o (by decide)) (by decide)) eq31
      have eq470 : hp382 qa900 19 = .int zi35 := Eq.trans (Fr.at (cq := 13019) F383 kd900 (cd_o (by decide)) (by decide)) eq34
      have eq471 : hp382 qa32 (zi35 : Int32).toNatClampNeg = .int zi38 := Eq.trans (Fr.at (cq := 70000) F383 kd33 (cd_a (by decide)) (by decide)) eq37
      have eq472 : hp382 qa900 27 = .ref qa41 := Eq.trans (Fr.at (cq := 13027) F383 kd900 (cd_o (by decide)) (by decide)) eq40
      have eq473 : hp382 qa41 (zi35 : Int32).toNatClampNeg = .int zi44 := Eq.trans (Fr.at (cq := 73000) F383 kd42 (cd_a (by decide)) (by decide)) eq43
      have eq474 : hp382 qa900 32 = .ref qa47 := Eq.trans (Fr.at (cq := 13032) F383 kd900 (cd_o (by decide)) (by decide)) eq46
      have eq475 : hp382 qa47 (zi35 : Int32).toNatClampNeg = .int zi50 := Eq.trans (Fr.at (cq := 78000) F383 kd48 (cd_a (by decide)) (by decide)) eq49
      have eq476 : hp382 qa900 12 = .int zi53 := Eq.trans (Fr.at (cq := 13012) F383 kd900 (cd_o (by decide)) (by decide)) eq52
      have eq477 : hp382 qa900 38 = .int zi56 := Eq.trans (Fr.at (cq := 13038) F383 kd900 (cd_o (by decide)) (by decide)) eq55
      refine lv_icmp_ge (tgt := 36) hx hb dX12_read_15 (by decide) (fun cn465 => ?_) (fun cn465 => ?_)
      · skip
        have tf499 : zi17.toInt ≤ zi381.toInt := (fa_le _ _).mp cn465
        refine lv_aload_n hx hb dX12_read_36 rfl (lv_at hl 0 rfl) ?_
        refine lv_iconst (v := 0) hx hb dX12_read_37 (by decide) ?_
        refine p_put (ci := 12) (v := .int 0) (ty := .int) (C := RX12) (T := TX12) (N := 69) hx hb hT iw_X12 tyX12 tyX12_ok nmX12 hown hK hw hS hW kd900 (by decide) rfl rfl 2 (by decide) (hT _ tb_1376) (fun _ h9 => h9) rfl (by decide +kernel) rfl rfl dX12_read_38 (fun hp500 eh501 H locs hw hS => ?_)
        have ok502 := wr_13002 bc_0 (by decide) (by decide) ok384 kd900 eh501
        refine lv_aload_n hx hb dX12_read_41 rfl (lv_at hl 0 rfl) ?_
        refine kq_v hw hS hA (va_runV (As := []) (rest := []) ⟨hx, hb, hml, hown, hT⟩ (cX12_cut_0 l G cy ev K ln Ls hW _ hp500 ok502 qa900 kd900) (cwV 0 hT (good_V tb_1601 tb_1598 tb_1600 tb_48 tb_122) rfl rfl rfl (by decide +kernel) ⟨Nat.le_of_ble_eq_true rfl, Nat.le_of_ble_eq_true rfl⟩) (pool_preV (ci := 12) hK hE hS hA hw hW kd900 (by decide) rfl) rfl rfl hl.1 rfl (lv_room (Nat.le_of_ble_eq_true rfl)) dX12_read_42 ⟨Nat.le_of_ble_eq_true rfl, Nat.le_of_ble_eq_true rfl⟩) (fun hp503 H locs hq506 hw hS => ?_)
        obtain ⟨ok504, F505, ⟨zi508, eq509, bd510⟩⟩ := hq506
        have hw : PW G cy K ln Ls A hp503 H := hw
        refine lv_aload_n hx hb dX12_read_45 rfl (lv_at hl 0 rfl) ?_
        refine lv_iconst (v := 0) hx hb dX12_read_46 (by decide) ?_
        refine p_put (ci := 12) (v := .int 0) (ty := .int) (C := RX12) (T := TX12) (N := 69) hx hb hT iw_X12 tyX12 tyX12_ok nmX12 hown hK hw hS hW kd900 (by decide) rfl rfl 11 (by decide) (hT _ tb_1385) (fun _ h9 => h9) rfl (by decide +kernel) rfl rfl dX12_read_47 (fun hp511 eh512 H locs hw hS => ?_)
        have ok513 := wr_13011 bc_0 (by decide) (by decide) ok504 kd900 eh512
        refine lv_aload_n hx hb dX12_read_50 rfl (lv_at hl 0 rfl) ?_
        refine lv_iconst (v := 0) hx hb dX12_read_51 (by decide) ?_
        refine p_put (ci := 12) (v := .int 0) (ty := .int) (C := RX12) (T := TX12) (N := 69) hx hb hT iw_X12 tyX12 tyX12_ok nmX12 hown hK hw hS hW kd900 (by decide) rfl rfl 12 (by decide) (hT _ tb_1386) (fun _ h9 => h9) rfl (by decide +kernel) rfl rfl dX12_read_52 (fun hp514 eh515 H locs hw hS => ?_)
        have ok516 := wr_13012 bc_0 (by decide) (by decide) ok513 kd900 eh515
        refine lv_aload_n hx hb dX12_read_55 rfl (lv_at hl 0 rfl) ?_
        refine lv_iconst (v := 0) hx hb dX12_read_56 (by decide) ?_
        refine p_put (ci := 12) (v := .int 0) (ty := .int) (C := RX12) (T := TX12) (N := 69) hx hb hT iw_X12 tyX12 tyX12_ok nmX12 hown hK hw hS hW kd900 (by decide) rfl rfl 13 (by decide) (hT _ tb_1387) (fun _ h9 => h9) rfl (by decide +kernel) rfl rfl dX12_read_57 (fun hp517 eh518 H locs hw hS => ?_)
        have ok519 := wr_13013 bc_0 (by decide) (by decide) ok516 kd900 eh518
        refine lv_aload_n hx hb dX12_read_60 rfl (lv_at hl 0 rfl) ?_
        refine lv_iconst (v := 0) hx hb dX12_read_61 (by decide) ?_
        refine p_put (ci := 12) (v := .int 0) (ty := .int) (C := RX12) (T := TX12) (N := 69) hx hb hT iw_X12 tyX12 tyX12_ok nmX12 hown hK hw hS hW kd900 (by decide) rfl rfl 15 (by decide) (hT _ tb_1389) (fun _ h9 => h9) rfl (by decide +kernel) rfl rfl dX12_read_62 (fun hp520 eh521 H locs hw hS => ?_)
        have ok522 := wr_13015 ok519 kd900 eh521
        refine lv_aload_n hx hb dX12_read_65 rfl (lv_at hl 0 rfl) ?_
        refine lv_iconst (v := 1) hx hb dX12_read_66 (by decide) ?_
        refine lv_aload_n hx hb dX12_read_67 rfl (lv_at hl 0 rfl) ?_
        have eq523 : hp520 qa900 18 = .int zi2 := Eq.trans (up_at eh521 (Or.inr (by decide))) (Eq.trans (up_at eh518 (Or.inr (by decide))) (Eq.trans (up_at eh515 (Or.inr (by decide))) (Eq.trans (up_at eh512 (Or.inr (by decide))) (Eq.trans (Fr.at (cq := 13018) F505 kd900 (cd_o (by decide)) (by decide)) (Eq.trans (up_at eh501 (Or.inr (by decide))) (Eq.trans (Fr.at (cq := 13018) F383 kd900 (cd_o (by decide)) (by decide)) (Eq.trans (up_at eh20 (Or.inr (by decide))) eq1)))))))
        refine p_get (ci := 12) (v := .int zi2) (C := RX12) (T := TX12) (N := 69) hx hb hT iw_X12 hown hK hw hW kd900 (by decide) rfl rfl 18 (by decide) eq523 (hT _ tb_1392) (fun _ h9 => h9) dX12_read_68 ?_
        refine lv_isub hx hb dX12_read_71 (lv_topi (fun zi524 ea525 => ?_))
        have bd526 : (0 : Int) ≤ zi524.toInt ∧ zi524.toInt ≤ 1 := b_isub ea525 bc_1 bd3 (by decide) (by decide) (by decide) (by decide)
        have qe527 : zi524.toInt = (1 : Int32).toInt - (zi2 : Int32).toInt := e_isub ea525 bc_1 bd3 (by decide) (by decide)
        have qe528 : zi524.toInt = 1 - zi2.toInt := by have ha : (1 : Int32).toInt = 1 := (by decide); rw [ha] at qe527; exact qe527
        refine p_put (ci := 12) (v := .int zi524) (ty := .int) (C := RX12) (T := TX12) (N := 69) hx hb hT iw_X12 tyX12 tyX12_ok nmX12 hown hK hw hS hW kd900 (by decide) rfl rfl 19 (by decide) (hT _ tb_1393) (fun _ h9 => h9) rfl (by decide +kernel) rfl rfl dX12_read_72 (fun hp529 eh530 H locs hw hS => ?_)
        have ok531 := wr_13019 bd526 (by decide) (by decide) ok522 kd900 eh530
        refine lv_aload_n hx hb dX12_read_75 rfl (lv_at hl 0 rfl) ?_
        refine lv_iconst (v := 0) hx hb dX12_read_76 (by decide) ?_
        refine p_put (ci := 12) (v := .int 0) (ty := .int) (C := RX12) (T := TX12) (N := 69) hx hb hT iw_X12 tyX12 tyX12_ok nmX12 hown hK hw hS hW kd900 (by decide) rfl rfl 20 (by decide) (hT _ tb_1394) (fun _ h9 => h9) rfl (by decide +kernel) rfl rfl dX12_read_77 (fun hp532 eh533 H locs hw hS => ?_)
        have ok534 := wr_13020 bc_0 (by decide) (by decide) ok531 kd900 eh533
        refine lv_aload_n hx hb dX12_read_80 rfl (lv_at hl 0 rfl) ?_
        have eq535 : hp532 qa900 24 = .ref qa32 := Eq.trans (up_at eh533 (Or.inr (by decide))) (Eq.trans (up_at eh530 (Or.inr (by decide))) (Eq.trans (up_at eh521 (Or.inr (by decide))) (Eq.trans (up_at eh518 (Or.inr (by decide))) (Eq.trans (up_at eh515 (Or.inr (by decide))) (Eq.trans (up_at eh512 (Or.inr (by decide))) (Eq.trans (Fr.at (cq := 13024) F505 kd900 (cd_o (by decide)) (by decide)) (Eq.trans (up_at eh501 (Or.inr (by decide))) eq469)))))))
        refine p_get (ci := 12) (v := .ref qa32) (C := RX12) (T := TX12) (N := 69) hx hb hT iw_X12 hown hK hw hW kd900 (by decide) rfl rfl 24 (by decide) eq535 (hT _ tb_1398) (fun _ h9 => h9) dX12_read_81 ?_
        refine lv_aload_n hx hb dX12_read_84 rfl (lv_at hl 0 rfl) ?_
        have eq536 : hp532 qa900 19 = .int zi524 := Eq.trans (up_at eh533 (Or.inr (by decide))) (hp_self eh530)
        refine p_get (ci := 12) (v := .int zi524) (C := RX12) (T := TX12) (N := 69) hx hb hT iw_X12 hown hK hw hW kd900 (by decide) rfl rfl 19 (by decide) eq536 (hT _ tb_1393) (fun _ h9 => h9) dX12_read_85 ?_
        refine lv_iconst (v := 0) hx hb dX12_read_88 (by decide) ?_
        refine p_iast (x := 0) hx hb hK hw hS hW kd33 (by decide) rfl (hW.len kd33 (n := 2) rfl (by decide)) (vp_b bd526 (by decide) (by decide)) dX12_read_89 (fun hp537 eh538 H locs hw hS => ?_)
        have ok539 := wr_70000 bc_0 (by decide) (by decide) ok534 kd33 eh538
        refine lv_aload_n hx hb dX12_read_90 rfl (lv_at hl 0 rfl) ?_
        obtain ⟨qa541, eq540, kd542⟩ := rd_13025 ok539 kd900
        refine p_get (ci := 12) (v := .ref qa541) (C := RX12) (T := TX12) (N := 69) hx hb hT iw_X12 hown hK hw hW kd900 (by decide) rfl rfl 25 (by decide) eq540 (hT _ tb_1399) (fun _ h9 => h9) dX12_read_91 ?_
        refine lv_aload_n hx hb dX12_read_94 rfl (lv_at hl 0 rfl) ?_
        have eq543 : hp537 qa900 19 = .int zi524 := Eq.trans (up_at eh538 (Or.inl (kd_ne kd900 kd33 (by decide)))) eq536
        refine p_get (ci := 12) (v := .int zi524) (C := RX12) (T := TX12) (N := 69) hx hb hT iw_X12 hown hK hw hW kd900 (by decide) rfl rfl 19 (by decide) eq543 (hT _ tb_1393) (fun _ h9 => h9) dX12_read_95 ?_
        refine lv_iconst (v := 0) hx hb dX12_read_98 (by decide) ?_
        refine p_iast (x := 0) hx hb hK hw hS hW kd542 (by decide) rfl (hW.len kd542 (n := 2) rfl (by decide)) (vp_b bd526 (by decide) (by decide)) dX12_read_99 (fun hp544 eh545 H locs hw hS => ?_)
        have ok546 := wr_71000 ok539 kd542 eh545
        refine lv_aload_n hx hb dX12_read_100 rfl (lv_at hl 0 rfl) ?_
        obtain ⟨qa548, eq547, kd549⟩ := rd_13026 ok546 kd900
        refine p_get (ci := 12) (v := .ref qa548) (C := RX12) (T := TX12) (N := 69) hx hb hT iw_X12 hown hK hw hW kd900 (by decide) rfl rfl 26 (by decide) eq547 (hT _ tb_1400) (fun _ h9 => h9) dX12_read_101 ?_
        refine lv_aload_n hx hb dX12_read_104 rfl (lv_at hl 0 rfl) ?_
        have eq550 : hp544 qa900 19 = .int zi524 := Eq.trans (up_at eh545 (Or.inl (kd_ne kd900 kd542 (by decide)))) eq543
        refine p_get (ci := 12) (v := .int zi524) (C := RX12) (T := TX12) (N := 69) hx hb hT iw_X12 hown hK hw hW kd900 (by decide) rfl rfl 19 (by decide) eq550 (hT _ tb_1393) (fun _ h9 => h9) dX12_read_105 ?_
        refine lv_iconst (v := 0) hx hb dX12_read_108 (by decide) ?_
        refine p_iast (x := 0) hx hb hK hw hS hW kd549 (by decide) rfl (hW.len kd549 (n := 2) rfl (by decide)) (vp_b bd526 (by decide) (by decide)) dX12_read_109 (fun hp551 eh552 H locs hw hS => ?_)
        have ok553 := wr_72000 ok546 kd549 eh552
        refine lv_aload_n hx hb dX12_read_110 rfl (lv_at hl 0 rfl) ?_
        have eq554 : hp551 qa900 27 = .ref qa41 := Eq.trans (up_at eh552 (Or.inl (kd_ne kd900 kd549 (by decide)))) (Eq.trans (up_at eh545 (Or.inl (kd_ne kd900 kd542 (by decide)))) (Eq.trans (up_at eh538 (Or.inl (kd_ne kd900 kd33 (by decide)))) (Eq.trans (up_at eh533 (Or.inr (by decide))) (Eq.trans (up_at eh530 (Or.inr (by decide))) (Eq.trans (up_at eh521 (Or.inr (by decide))) (Eq.trans (up_at eh518 (Or.inr (by decide))) (Eq.trans (up_at eh515 (Or.inr (by decide))) (Eq.trans (up_at eh512 (Or.inr (by decide))) (Eq.trans (Fr.at (cq := 13027) F505 kd900 (cd_o (by decide)) (by decide)) (Eq.trans (up_at eh501 (Or.inr (by decide))) eq472))))))))))
        refine p_get (ci := 12) (v := .ref qa41) (C := RX12) (T := TX12) (N := 69) hx hb hT iw_X12 hown hK hw hW kd900 (by decide) rfl rfl 27 (by decide) eq554 (hT _ tb_1401) (fun _ h9 => h9) dX12_read_111 ?_
        refine lv_aload_n hx hb dX12_read_114 rfl (lv_at hl 0 rfl) ?_
        have eq555 : hp551 qa900 19 = .int zi524 := Eq.trans (up_at eh552 (Or.inl (kd_ne kd900 kd549 (by decide)))) eq550
        refine p_get (ci := 12) (v := .int zi524) (C := RX12) (T := TX12) (N := 69) hx hb hT iw_X12 hown hK hw hW kd900 (by decide) rfl rfl 19 (by decide) eq555 (hT _ tb_1393) (fun _ h9 => h9) dX12_read_115 ?_
        refine lv_iconst (v := 0) hx hb dX12_read_118 (by decide) ?_
        refine p_iast (x := 0) hx hb hK hw hS hW kd42 (by decide) rfl (hW.len kd42 (n := 2) rfl (by decide)) (vp_b bd526 (by decide) (by decide)) dX12_read_119 (fun hp556 eh557 H locs hw hS => ?_)
        have ok558 := wr_73000 bc_0 (by decide) (by decide) ok553 kd42 eh557
        refine lv_aload_n hx hb dX12_read_120 rfl (lv_at hl 0 rfl) ?_
        obtain ⟨qa560, eq559, kd561⟩ := rd_13028 ok558 kd900
        refine p_get (ci := 12) (v := .ref qa560) (C := RX12) (T := TX12) (N := 69) hx hb hT iw_X12 hown hK hw hW kd900 (by decide) rfl rfl 28 (by decide) eq559 (hT _ tb_1402) (fun _ h9 => h9) dX12_read_121 ?_
        refine lv_aload_n hx hb dX12_read_124 rfl (lv_at hl 0 rfl) ?_
        have eq562 : hp556 qa900 19 = .int zi524 := Eq.trans (up_at eh557 (Or.inl (kd_ne kd900 kd42 (by decide)))) eq555
        refine p_get (ci := 12) (v := .int zi524) (C := RX12) (T := TX12) (N := 69) hx hb hT iw_X12 hown hK hw hW kd900 (by decide) rfl rfl 19 (by decide) eq562 (hT _ tb_1393) (fun _ h9 => h9) dX12_read_125 ?_
        refine lv_iconst (v := 0) hx hb dX12_read_128 (by decide) ?_
        refine p_iast (x := 0) hx hb hK hw hS hW kd561 (by decide) rfl (hW.len kd561 (n := 2) rfl (by decide)) (vp_b bd526 (by decide) (by decide)) dX12_read_129 (fun hp563 eh564 H locs hw hS => ?_)
        have ok565 := wr_74000 bc_0 (by decide) (by decide) ok558 kd561 eh564
        refine lv_aload_n hx hb dX12_read_130 rfl (lv_at hl 0 rfl) ?_
        have eq566 : hp563 qa900 32 = .ref qa47 := Eq.trans (up_at eh564 (Or.inl (kd_ne kd900 kd561 (by decide)))) (Eq.trans (up_at eh557 (Or.inl (kd_ne kd900 kd42 (by decide)))) (Eq.trans (up_at eh552 (Or.inl (kd_ne kd900 kd549 (by decide)))) (Eq.trans (up_at eh545 (Or.inl (kd_ne kd900 kd542 (by decide)))) (Eq.trans (up_at eh538 (Or.inl (kd_ne kd900 kd33 (by decide)))) (Eq.trans (up_at eh533 (Or.inr (by decide))) (Eq.trans (up_at eh530 (Or.inr (by decide))) (Eq.trans (up_at eh521 (Or.inr (by decide))) (Eq.trans (up_at eh518 (Or.inr (by decide))) (Eq.trans (up_at eh515 (Or.inr (by decide))) (Eq.trans (up_at eh512 (Or.inr (by decide))) (Eq.trans (Fr.at (cq := 13032) F505 kd900 (cd_o (by decide)) (by decide)) (Eq.trans (up_at eh501 (Or.inr (by decide))) eq474))))))))))))
        refine p_get (ci := 12) (v := .ref qa47) (C := RX12) (T := TX12) (N := 69) hx hb hT iw_X12 hown hK hw hW kd900 (by decide) rfl rfl 32 (by decide) eq566 (hT _ tb_1406) (fun _ h9 => h9) dX12_read_131 ?_
        refine lv_aload_n hx hb dX12_read_134 rfl (lv_at hl 0 rfl) ?_
        have eq567 : hp563 qa900 19 = .int zi524 := Eq.trans (up_at eh564 (Or.inl (kd_ne kd900 kd561 (by decide)))) eq562
        refine p_get (ci := 12) (v := .int zi524) (C := RX12) (T := TX12) (N := 69) hx hb hT iw_X12 hown hK hw hW kd900 (by decide) rfl rfl 19 (by decide) eq567 (hT _ tb_1393) (fun _ h9 => h9) dX12_read_135 ?_
        refine lv_iconst (v := 0) hx hb dX12_read_138 (by decide) ?_
        refine p_iast (x := 0) hx hb hK hw hS hW kd48 (by decide) rfl (hW.len kd48 (n := 2) rfl (by decide)) (vp_b bd526 (by decide) (by decide)) dX12_read_139 (fun hp568 eh569 H locs hw hS => ?_)
        have ok570 := wr_78000 bc_0 (by decide) (by decide) ok565 kd48 eh569
        refine lv_aload_n hx hb dX12_read_140 rfl (lv_at hl 0 rfl) ?_
        obtain ⟨qa572, eq571, kd573⟩ := rd_13037 ok570 kd900
        refine p_get (ci := 12) (v := .ref qa572) (C := RX12) (T := TX12) (N := 69) hx hb hT iw_X12 hown hK hw hW kd900 (by decide) rfl rfl 37 (by decide) eq571 (hT _ tb_1411) (fun _ h9 => h9) dX12_read_141 ?_
        refine lv_aload_n hx hb dX12_read_144 rfl (lv_at hl 0 rfl) ?_
        have eq574 : hp568 qa900 19 = .int zi524 := Eq.trans (up_at eh569 (Or.inl (kd_ne kd900 kd48 (by decide)))) eq567
        refine p_get (ci := 12) (v := .int zi524) (C := RX12) (T := TX12) (N := 69) hx hb hT iw_X12 hown hK hw hW kd900 (by decide) rfl rfl 19 (by decide) eq574 (hT _ tb_1393) (fun _ h9 => h9) dX12_read_145 ?_
        refine lv_iconst (v := 0) hx hb dX12_read_148 (by decide) ?_
        refine p_iast (x := 0) hx hb hK hw hS hW kd573 (by decide) rfl (hW.len kd573 (n := 2) rfl (by decide)) (vp_b bd526 (by decide) (by decide)) dX12_read_149 (fun hp575 eh576 H locs hw hS => ?_)
        have ok577 := wr_83000 ok570 kd573 eh576
        refine lv_aload_n hx hb dX12_read_150 rfl (lv_at hl 0 rfl) ?_
        refine lv_sipush (v := 420) hx hb dX12_read_151 (by decide) ?_
        refine lv_aload_n hx hb dX12_read_154 rfl (lv_at hl 0 rfl) ?_
        have eq578 : hp575 qa900 19 = .int zi524 := Eq.trans (up_at eh576 (Or.inl (kd_ne kd900 kd573 (by decide)))) eq574
        refine p_get (ci := 12) (v := .int zi524) (C := RX12) (T := TX12) (N := 69) hx hb hT iw_X12 hown hK hw hW kd900 (by decide) rfl rfl 19 (by decide) eq578 (hT _ tb_1393) (fun _ h9 => h9) dX12_read_155 ?_
        refine lv_imul hx hb dX12_read_158 (lv_topi (fun zi579 ea580 => ?_))
        have bd581 : (0 : Int) ≤ zi579.toInt ∧ zi579.toInt ≤ 420 := b_imul ea580 bc_420 bd526 (by decide) (by decide) (by decide) (by decide) (by decide)
        have qe582 : zi579.toInt = (420 : Int32).toInt * (zi524 : Int32).toInt := e_imul (b := 420) (d := 1) ea580 (b_wid2 bc_420 (by decide) (by decide)) (b_wid2 bd526 (by decide) (by decide)) (by decide)
        have qe583 : zi579.toInt = 420 * zi524.toInt := by have ha : (420 : Int32).toInt = 420 := (by decide); rw [ha] at qe582; exact qe582
        refine p_put (ci := 12) (v := .int zi579) (ty := .int) (C := RX12) (T := TX12) (N := 69) hx hb hT iw_X12 tyX12 tyX12_ok nmX12 hown hK hw hS hW kd900 (by decide) rfl rfl 38 (by decide) (hT _ tb_1412) (fun _ h9 => h9) rfl (by decide +kernel) rfl rfl dX12_read_159 (fun hp584 eh585 H locs hw hS => ?_)
        have ok586 := wr_13038 bd581 (by decide) (by decide) ok577 kd900 eh585
        refine lv_iconst (v := 0) hx hb dX12_read_162 (by decide) ?_
        refine lv_istore_n (lv' := [(1, .int 0), (0, .ref qa900)]) hx hb dX12_read_163 rfl hl (by decide) rfl (fun ls hl => ?_)
        refine lv_iload_n hx hb dX12_read_164 rfl (lv_at hl 0 rfl) ?_
        refine lv_iconst (v := 2) hx hb dX12_read_165 (by decide) ?_
        refine lv_icmp_ge (tgt := 203) hx hb dX12_read_166 (by decide) (fun c => absurd c (d_nle bc_2 bc_0 (by decide))) (fun _ => ?_)
        refine lv_aload_n hx hb dX12_read_169 rfl (lv_at hl 1 rfl) ?_
        have eq587 : hp584 qa900 35 = .ref qa5 := Eq.trans (up_at eh585 (Or.inr (by decide))) (Eq.trans (up_at eh576 (Or.inl (kd_ne kd900 kd573 (by decide)))) (Eq.trans (up_at eh569 (Or.inl (kd_ne kd900 kd48 (by decide)))) (Eq.trans (up_at eh564 (Or.inl (kd_ne kd900 kd561 (by decide)))) (Eq.trans (up_at eh557 (Or.inl (kd_ne kd900 kd42 (by decide)))) (Eq.trans (up_at eh552 (Or.inl (kd_ne kd900 kd549 (by decide)))) (Eq.trans (up_at eh545 (Or.inl (kd_ne kd900 kd542 (by decide)))) (Eq.trans (up_at eh538 (Or.inl (kd_ne kd900 kd33 (by decide)))) (Eq.trans (up_at eh533 (Or.inr (by decide))) (Eq.trans (up_at eh530 (Or.inr (by decide))) (Eq.trans (up_at eh521 (Or.inr (by decide))) (Eq.trans (up_at eh518 (Or.inr (by decide))) (Eq.trans (up_at eh515 (Or.inr (by decide))) (Eq.trans (up_at eh512 (Or.inr (by decide))) (Eq.trans (Fr.at (cq := 13035) F505 kd900 (cd_o (by decide)) (by decide)) (Eq.trans (up_at eh501 (Or.inr (by decide))) (Eq.trans (Fr.at (cq := 13035) F383 kd900 (cd_o (by decide)) (by decide)) (Eq.trans (up_at eh20 (Or.inr (by decide))) eq4)))))))))))))))))
        refine p_get (ci := 12) (v := .ref qa5) (C := RX12) (T := TX12) (N := 69) hx hb hT iw_X12 hown hK hw hW kd900 (by decide) rfl rfl 35 (by decide) eq587 (hT _ tb_1409) (fun _ h9 => h9) dX12_read_170 ?_
        refine lv_iconst (v := 2) hx hb dX12_read_173 (by decide) ?_
        refine lv_aload_n hx hb dX12_read_174 rfl (lv_at hl 1 rfl) ?_
        have eq588 : hp584 qa900 19 = .int zi524 := Eq.trans (up_at eh585 (Or.inr (by decide))) eq578
        refine p_get (ci := 12) (v := .int zi524) (C := RX12) (T := TX12) (N := 69) hx hb hT iw_X12 hown hK hw hW kd900 (by decide) rfl rfl 19 (by decide) eq588 (hT _ tb_1393) (fun _ h9 => h9) dX12_read_175 ?_
        refine lv_imul hx hb dX12_read_178 (lv_topi (fun zi589 ea590 => ?_))
        have bd591 : (0 : Int) ≤ zi589.toInt ∧ zi589.toInt ≤ 2 := b_imul ea590 bc_2 bd526 (by decide) (by decide) (by decide) (by decide) (by decide)
        have qe592 : zi589.toInt = (2 : Int32).toInt * (zi524 : Int32).toInt := e_imul (b := 2) (d := 1) ea590 (b_wid2 bc_2 (by decide) (by decide)) (b_wid2 bd526 (by decide) (by decide)) (by decide)
        have qe593 : zi589.toInt = 2 * zi524.toInt := by have ha : (2 : Int32).toInt = 2 := (by decide); rw [ha] at qe592; exact qe592
        refine lv_iload_n hx hb dX12_read_179 rfl (lv_at hl 0 rfl) ?_
        refine lv_iadd hx hb dX12_read_180 (lv_topi (fun zi594 ea595 => ?_))
        have bd596 : (0 : Int) ≤ zi594.toInt ∧ zi594.toInt ≤ 2 := b_iadd ea595 bd591 bc_0 (by decide) (by decide) (by decide) (by decide)
        have qe597 : zi594.toInt = (zi589 : Int32).toInt + (0 : Int32).toInt := e_iadd ea595 bd591 bc_0 (by decide) (by decide)
        have qe598 : zi594.toInt = zi589.toInt + 0 := by have ha : (0 : Int32).toInt = 0 := (by decide); rw [ha] at qe597; exact qe597
        refine lv_iconst (v := 0) hx hb dX12_read_181 (by decide) ?_
        refine p_iast (x := 0) hx hb hK hw hS hW kd6 (by decide) rfl (hW.len kd6 (n := 4) rfl (by decide)) (vp_b bd596 (by decide) (by decide)) dX12_read_182 (fun hp599 eh600 H locs hw hS => ?_)
        have ok601 := wr_81000 bc_0 (by decide) (by decide) ok586 kd6 eh600
        refine lv_aload_n hx hb dX12_read_183 rfl (lv_at hl 1 rfl) ?_
        have eq602 : hp599 qa900 36 = .ref qa8 := Eq.trans (up_at eh600 (Or.inl (kd_ne kd900 kd6 (by decide)))) (Eq.trans (up_at eh585 (Or.inr (by decide))) (Eq.trans (up_at eh576 (Or.inl (kd_ne kd900 kd573 (by decide)))) (Eq.trans (up_at eh569 (Or.inl (kd_ne kd900 kd48 (by decide)))) (Eq.trans (up_at eh564 (Or.inl (kd_ne kd900 kd561 (by decide)))) (Eq.trans (up_at eh557 (Or.inl (kd_ne kd900 kd42 (by decide)))) (Eq.trans (up_at eh552 (Or.inl (kd_ne kd900 kd549 (by decide)))) (Eq.trans (up_at eh545 (Or.inl (kd_ne kd900 kd542 (by decide)))) (Eq.trans (up_at eh538 (Or.inl (kd_ne kd900 kd33 (by decide)))) (Eq.trans (up_at eh533 (Or.inr (by decide))) (Eq.trans (up_at eh530 (Or.inr (by decide))) (Eq.trans (up_at eh521 (Or.inr (by decide))) (Eq.trans (up_at eh518 (Or.inr (by decide))) (Eq.trans (up_at eh515 (Or.inr (by decide))) (Eq.trans (up_at eh512 (Or.inr (by decide))) (Eq.trans (Fr.at (cq := 13036) F505 kd900 (cd_o (by decide)) (by decide)) (Eq.trans (up_at eh501 (Or.inr (by decide))) (Eq.trans (Fr.at (cq := 13036) F383 kd900 (cd_o (by decide)) (by decide)) (Eq.trans (up_at eh20 (Or.inr (by decide))) eq7))))))))))))))))))
        refine p_get (ci := 12) (v := .ref qa8) (C := RX12) (T := TX12) (N := 69) hx hb hT iw_X12 hown hK hw hW kd900 (by decide) rfl rfl 36 (by decide) eq602 (hT _ tb_1410) (fun _ h9 => h9) dX12_read_184 ?_
        refine lv_iconst (v := 2) hx hb dX12_read_187 (by decide) ?_
        refine lv_aload_n hx hb dX12_read_188 rfl (lv_at hl 1 rfl) ?_
        have eq603 : hp599 qa900 19 = .int zi524 := Eq.trans (up_at eh600 (Or.inl (kd_ne kd900 kd6 (by decide)))) eq588
        refine p_get (ci := 12) (v := .int zi524) (C := RX12) (T := TX12) (N := 69) hx hb hT iw_X12 hown hK hw hW kd900 (by decide) rfl rfl 19 (by decide) eq603 (hT _ tb_1393) (fun _ h9 => h9) dX12_read_189 ?_
        refine lv_imul hx hb dX12_read_192 (lv_topi (fun zi604 ea605 => ?_))
        have bd606 : (0 : Int) ≤ zi604.toInt ∧ zi604.toInt ≤ 2 := b_imul ea605 bc_2 bd526 (by decide) (by decide) (by decide) (by decide) (by decide)
        have qe607 : zi604.toInt = (2 : Int32).toInt * (zi524 : Int32).toInt := e_imul (b := 2) (d := 1) ea605 (b_wid2 bc_2 (by decide) (by decide)) (b_wid2 bd526 (by decide) (by decide)) (by decide)
        have qe608 : zi604.toInt = 2 * zi524.toInt := by have ha : (2 : Int32).toInt = 2 := (by decide); rw [ha] at qe607; exact qe607
        refine lv_iload_n hx hb dX12_read_193 rfl (lv_at hl 0 rfl) ?_
        refine lv_iadd hx hb dX12_read_194 (lv_topi (fun zi609 ea610 => ?_))
        have bd611 : (0 : Int) ≤ zi609.toInt ∧ zi609.toInt ≤ 2 := b_iadd ea610 bd606 bc_0 (by decide) (by decide) (by decide) (by decide)
        have qe612 : zi609.toInt = (zi604 : Int32).toInt + (0 : Int32).toInt := e_iadd ea610 bd606 bc_0 (by decide) (by decide)
        have qe613 : zi609.toInt = zi604.toInt + 0 := by have ha : (0 : Int32).toInt = 0 := (by decide); rw [ha] at qe612; exact qe612
        refine lv_iconst (v := 0) hx hb dX12_read_195 (by decide) ?_
        refine p_iast (x := 0) hx hb hK hw hS hW kd9 (by decide) rfl (hW.len kd9 (n := 4) rfl (by decide)) (vp_b bd611 (by decide) (by decide)) dX12_read_196 (fun hp614 eh615 H locs hw hS => ?_)
        have ok616 := wr_82000 bc_0 (by decide) (by decide) ok601 kd9 eh615
        refine lv_iinc (v := 1) (lv' := [(1, .int 1), (0, .ref qa900)]) hx hb dX12_read_197 hl (k := 0) rfl (by decide) (by decide) rfl (fun ls hl => ?_)
        refine lv_goto (tgt := 164) hx hb dX12_read_200 (by decide) ?_
        refine lv_iload_n hx hb dX12_read_164 rfl (lv_at hl 0 rfl) ?_
        refine lv_iconst (v := 2) hx hb dX12_read_165 (by decide) ?_
        refine lv_icmp_ge (tgt := 203) hx hb dX12_read_166 (by decide) (fun c => absurd c (d_nle bc_2 bc_1 (by decide))) (fun _ => ?_)
        refine lv_aload_n hx hb dX12_read_169 rfl (lv_at hl 1 rfl) ?_
        have eq617 : hp614 qa900 35 = .ref qa5 := Eq.trans (up_at eh615 (Or.inl (kd_ne kd900 kd9 (by decide)))) (Eq.trans (up_at eh600 (Or.inl (kd_ne kd900 kd6 (by decide)))) eq587)
        refine p_get (ci := 12) (v := .ref qa5) (C := RX12) (T := TX12) (N := 69) hx hb hT iw_X12 hown hK hw hW kd900 (by decide) rfl rfl 35 (by decide) eq617 (hT _ tb_1409) (fun _ h9 => h9) dX12_read_170 ?_
        refine lv_iconst (v := 2) hx hb dX12_read_173 (by decide) ?_
        refine lv_aload_n hx hb dX12_read_174 rfl (lv_at hl 1 rfl) ?_
        have eq618 : hp614 qa900 19 = .int zi524 := Eq.trans (up_at eh615 (Or.inl (kd_ne kd900 kd9 (by decide)))) eq603
        refine p_get (ci := 12) (v := .int zi524) (C := RX12) (T := TX12) (N := 69) hx hb hT iw_X12 hown hK hw hW kd900 (by decide) rfl rfl 19 (by decide) eq618 (hT _ tb_1393) (fun _ h9 => h9) dX12_read_175 ?_
        refine lv_imul hx hb dX12_read_178 (lv_topi (fun zi619 ea620 => ?_))
        have bd621 : (0 : Int) ≤ zi619.toInt ∧ zi619.toInt ≤ 2 := b_imul ea620 bc_2 bd526 (by decide) (by decide) (by decide) (by decide) (by decide)
        have qe622 : zi619.toInt = (2 : Int32).toInt * (zi524 : Int32).toInt := e_imul (b := 2) (d := 1) ea620 (b_wid2 bc_2 (by decide) (by decide)) (b_wid2 bd526 (by decide) (by decide)) (by decide)
        have qe623 : zi619.toInt = 2 * zi524.toInt := by have ha : (2 : Int32).toInt = 2 := (by decide); rw [ha] at qe622; exact qe622
        refine lv_iload_n hx hb dX12_read_179 rfl (lv_at hl 0 rfl) ?_
        refine lv_iadd hx hb dX12_read_180 (lv_topi (fun zi624 ea625 => ?_))
        have bd626 : (1 : Int) ≤ zi624.toInt ∧ zi624.toInt ≤ 3 := b_iadd ea625 bd621 bc_1 (by decide) (by decide) (by decide) (by decide)
        have qe627 : zi624.toInt = (zi619 : Int32).toInt + (1 : Int32).toInt := e_iadd ea625 bd621 bc_1 (by decide) (by decide)
        have qe628 : zi624.toInt = zi619.toInt + 1 := by have ha : (1 : Int32).toInt = 1 := (by decide); rw [ha] at qe627; exact qe627
        refine lv_iconst (v := 0) hx hb dX12_read_181 (by decide) ?_
        refine p_iast (x := 0) hx hb hK hw hS hW kd6 (by decide) rfl (hW.len kd6 (n := 4) rfl (by decide)) (vp_b bd626 (by decide) (by decide)) dX12_read_182 (fun hp629 eh630 H locs hw hS => ?_)
        have ok631 := wr_81000 bc_0 (by decide) (by decide) ok616 kd6 eh630
        refine lv_aload_n hx hb dX12_read_183 rfl (lv_at hl 1 rfl) ?_
        have eq632 : hp629 qa900 36 = .ref qa8 := Eq.trans (up_at eh630 (Or.inl (kd_ne kd900 kd6 (by decide)))) (Eq.trans (up_at eh615 (Or.inl (kd_ne kd900 kd9 (by decide)))) eq602)
        refine p_get (ci := 12) (v := .ref qa8) (C := RX12) (T := TX12) (N := 69) hx hb hT iw_X12 hown hK hw hW kd900 (by decide) rfl rfl 36 (by decide) eq632 (hT _ tb_1410) (fun _ h9 => h9) dX12_read_184 ?_
        refine lv_iconst (v := 2) hx hb dX12_read_187 (by decide) ?_
        refine lv_aload_n hx hb dX12_read_188 rfl (lv_at hl 1 rfl) ?_
        have eq633 : hp629 qa900 19 = .int zi524 := Eq.trans (up_at eh630 (Or.inl (kd_ne kd900 kd6 (by decide)))) eq618
        refine p_get (ci := 12) (v := .int zi524) (C := RX12) (T := TX12) (N := 69) hx hb hT iw_X12 hown hK hw hW kd900 (by decide) rfl rfl 19 (by decide) eq633 (hT _ tb_1393) (fun _ h9 => h9) dX12_read_189 ?_
        refine lv_imul hx hb dX12_read_192 (lv_topi (fun zi634 ea635 => ?_))
        have bd636 : (0 : Int) ≤ zi634.toInt ∧ zi634.toInt ≤ 2 := b_imul ea635 bc_2 bd526 (by decide) (by decide) (by decide) (by decide) (by decide)
        have qe637 : zi634.toInt = (2 : Int32).toInt * (zi524 : Int32).toInt := e_imul (b := 2) (d := 1) ea635 (b_wid2 bc_2 (by decide) (by decide)) (b_wid2 bd526 (by decide) (by decide)) (by decide)
        have qe638 : zi634.toInt = 2 * zi524.toInt := by have ha : (2 : Int32).toInt = 2 := (by decide); rw [ha] at qe637; exact qe637
        refine lv_iload_n hx hb dX12_read_193 rfl (lv_at hl 0 rfl) ?_
        refine lv_iadd hx hb dX12_read_194 (lv_topi (fun zi639 ea640 => ?_))
        have bd641 : (1 : Int) ≤ zi639.toInt ∧ zi639.toInt ≤ 3 := b_iadd ea640 bd636 bc_1 (by decide) (by decide) (by decide) (by decide)
        have qe642 : zi639.toInt = (zi634 : Int32).toInt + (1 : Int32).toInt := e_iadd ea640 bd636 bc_1 (by decide) (by decide)
        have qe643 : zi639.toInt = zi634.toInt + 1 := by have ha : (1 : Int32).toInt = 1 := (by decide); rw [ha] at qe642; exact qe642
        refine lv_iconst (v := 0) hx hb dX12_read_195 (by decide) ?_
        refine p_iast (x := 0) hx hb hK hw hS hW kd9 (by decide) rfl (hW.len kd9 (n := 4) rfl (by decide)) (vp_b bd641 (by decide) (by decide)) dX12_read_196 (fun hp644 eh645 H locs hw hS => ?_)
        have ok646 := wr_82000 bc_0 (by decide) (by decide) ok631 kd9 eh645
        have mz647 := mA_up (h1 := hp599) (f := 35) eq4 (Eq.trans (Eq.trans (up_at eh600 (Or.inl (kd_ne kd900 kd6 (by decide)))) (Eq.trans (up_at eh585 (Or.inr (by decide))) (Eq.trans (up_at eh576 (Or.inl (kd_ne kd900 kd573 (by decide)))) (Eq.trans (up_at eh569 (Or.inl (kd_ne kd900 kd48 (by decide)))) (Eq.trans (up_at eh564 (Or.inl (kd_ne kd900 kd561 (by decide)))) (Eq.trans (up_at eh557 (Or.inl (kd_ne kd900 kd42 (by decide)))) (Eq.trans (up_at eh552 (Or.inl (kd_ne kd900 kd549 (by decide)))) (Eq.trans (up_at eh545 (Or.inl (kd_ne kd900 kd542 (by decide)))) (Eq.trans (up_at eh538 (Or.inl (kd_ne kd900 kd33 (by decide)))) (Eq.trans (up_at eh533 (Or.inr (by decide))) (Eq.trans (up_at eh530 (Or.inr (by decide))) (Eq.trans (up_at eh521 (Or.inr (by decide))) (Eq.trans (up_at eh518 (Or.inr (by decide))) (Eq.trans (up_at eh515 (Or.inr (by decide))) (Eq.trans (up_at eh512 (Or.inr (by decide))) (Eq.trans (Fr.at (cq := 13035) F505 kd900 (cd_o (by decide)) (by decide)) (Eq.trans (up_at eh501 (Or.inr (by decide))) (Eq.trans (Fr.at (cq := 13035) F383 kd900 (cd_o (by decide)) (by decide)) (up_at eh20 (Or.inr (by decide))))))))))))))))))))) eq4) (Eq.trans (show hp584 qa5 = hp575 qa5 from (by rw [eh585]; exact up2_row (kd_ne kd6 kd900 (by decide)))) (Eq.trans (show hp575 qa5 = hp568 qa5 from (by rw [eh576]; exact up2_row (kd_ne kd6 kd573 (by decide)))) (Eq.trans (show hp568 qa5 = hp563 qa5 from (by rw [eh569]; exact up2_row (kd_ne kd6 kd48 (by decide)))) (Eq.trans (show hp563 qa5 = hp556 qa5 from (by rw [eh564]; exact up2_row (kd_ne kd6 kd561 (by decide)))) (Eq.trans (show hp556 qa5 = hp551 qa5 from (by rw [eh557]; exact up2_row (kd_ne kd6 kd42 (by decide)))) (Eq.trans (show hp551 qa5 = hp544 qa5 from (by rw [eh552]; exact up2_row (kd_ne kd6 kd549 (by decide)))) (Eq.trans (show hp544 qa5 = hp537 qa5 from (by rw [eh545]; exact up2_row (kd_ne kd6 kd542 (by decide)))) (Eq.trans (show hp537 qa5 = hp532 qa5 from (by rw [eh538]; exact up2_row (kd_ne kd6 kd33 (by decide)))) (Eq.trans (show hp532 qa5 = hp529 qa5 from (by rw [eh533]; exact up2_row (kd_ne kd6 kd900 (by decide)))) (Eq.trans (show hp529 qa5 = hp520 qa5 from (by rw [eh530]; exact up2_row (kd_ne kd6 kd900 (by decide)))) (Eq.trans (show hp520 qa5 = hp517 qa5 from (by rw [eh521]; exact up2_row (kd_ne kd6 kd900 (by decide)))) (Eq.trans (show hp517 qa5 = hp514 qa5 from (by rw [eh518]; exact up2_row (kd_ne kd6 kd900 (by decide)))) (Eq.trans (show hp514 qa5 = hp511 qa5 from (by rw [eh515]; exact up2_row (kd_ne kd6 kd900 (by decide)))) (Eq.trans (show hp511 qa5 = hp503 qa5 from (by rw [eh512]; exact up2_row (kd_ne kd6 kd900 (by decide)))) (Eq.trans (show hp503 qa5 = hp500 qa5 from (funext fun i => Fr.at (cq := 81000) F505 kd6 (cd_a (by decide)) (by decide))) (Eq.trans (show hp500 qa5 = hp382 qa5 from (by rw [eh501]; exact up2_row (kd_ne kd6 kd900 (by decide)))) (Eq.trans (show hp382 qa5 = hp19 qa5 from (funext fun i => Fr.at (cq := 81000) F383 kd6 (cd_a (by decide)) (by decide))) (show hp19 qa5 = hp0 qa5 from (by rw [eh20]; exact up2_row (kd_ne kd6 kd900 (by decide))))))))))))))))))))) eh600 rfl
        have mz648 := mA_up (h := hp599) (h1 := hp644) (f := 35) (Eq.trans (Eq.trans (up_at eh600 (Or.inl (kd_ne kd900 kd6 (by decide)))) (Eq.trans (up_at eh585 (Or.inr (by decide))) (Eq.trans (up_at eh576 (Or.inl (kd_ne kd900 kd573 (by decide)))) (Eq.trans (up_at eh569 (Or.inl (kd_ne kd900 kd48 (by decide)))) (Eq.trans (up_at eh564 (Or.inl (kd_ne kd900 kd561 (by decide)))) (Eq.trans (up_at eh557 (Or.inl (kd_ne kd900 kd42 (by decide)))) (Eq.trans (up_at eh552 (Or.inl (kd_ne kd900 kd549 (by decide)))) (Eq.trans (up_at eh545 (Or.inl (kd_ne kd900 kd542 (by decide)))) (Eq.trans (up_at eh538 (Or.inl (kd_ne kd900 kd33 (by decide)))) (Eq.trans (up_at eh533 (Or.inr (by decide))) (Eq.trans (up_at eh530 (Or.inr (by decide))) (Eq.trans (up_at eh521 (Or.inr (by decide))) (Eq.trans (up_at eh518 (Or.inr (by decide))) (Eq.trans (up_at eh515 (Or.inr (by decide))) (Eq.trans (up_at eh512 (Or.inr (by decide))) (Eq.trans (Fr.at (cq := 13035) F505 kd900 (cd_o (by decide)) (by decide)) (Eq.trans (up_at eh501 (Or.inr (by decide))) (Eq.trans (Fr.at (cq := 13035) F383 kd900 (cd_o (by decide)) (by decide)) (up_at eh20 (Or.inr (by decide))))))))))))))))))))) eq4) (Eq.trans (Eq.trans (up_at eh645 (Or.inl (kd_ne kd900 kd9 (by decide)))) (Eq.trans (up_at eh630 (Or.inl (kd_ne kd900 kd6 (by decide)))) (Eq.trans (up_at eh615 (Or.inl (kd_ne kd900 kd9 (by decide)))) (Eq.trans (up_at eh600 (Or.inl (kd_ne kd900 kd6 (by decide)))) (Eq.trans (up_at eh585 (Or.inr (by decide))) (Eq.trans (up_at eh576 (Or.inl (kd_ne kd900 kd573 (by decide)))) (Eq.trans (up_at eh569 (Or.inl (kd_ne kd900 kd48 (by decide)))) (Eq.trans (up_at eh564 (Or.inl (kd_ne kd900 kd561 (by decide)))) (Eq.trans (up_at eh557 (Or.inl (kd_ne kd900 kd42 (by decide)))) (Eq.trans (up_at eh552 (Or.inl (kd_ne kd900 kd549 (by decide)))) (Eq.trans (up_at eh545 (Or.inl (kd_ne kd900 kd542 (by decide)))) (Eq.trans (up_at eh538 (Or.inl (kd_ne kd900 kd33 (by decide)))) (Eq.trans (up_at eh533 (Or.inr (by decide))) (Eq.trans (up_at eh530 (Or.inr (by decide))) (Eq.trans (up_at eh521 (Or.inr (by decide))) (Eq.trans (up_at eh518 (Or.inr (by decide))) (Eq.trans (up_at eh515 (Or.inr (by decide))) (Eq.trans (up_at eh512 (Or.inr (by decide))) (Eq.trans (Fr.at (cq := 13035) F505 kd900 (cd_o (by decide)) (by decide)) (Eq.trans (up_at eh501 (Or.inr (by decide))) (Eq.trans (Fr.at (cq := 13035) F383 kd900 (cd_o (by decide)) (by decide)) (up_at eh20 (Or.inr (by decide)))))))))))))))))))))))) eq4) (show hp614 qa5 = hp599 qa5 from (by rw [eh615]; exact up2_row (kd_ne kd6 kd9 (by decide)))) eh630 (show hp644 qa5 = hp629 qa5 from (by rw [eh645]; exact up2_row (kd_ne kd6 kd9 (by decide))))
        have mz649 := mz648.trans (congrArg (fun f => updI f _ _) mz647)
        have mz650 := mA_up (h1 := hp614) (f := 36) eq7 (Eq.trans (Eq.trans (up_at eh615 (Or.inl (kd_ne kd900 kd9 (by decide)))) (Eq.trans (up_at eh600 (Or.inl (kd_ne kd900 kd6 (by decide)))) (Eq.trans (up_at eh585 (Or.inr (by decide))) (Eq.trans (up_at eh576 (Or.inl (kd_ne kd900 kd573 (by decide)))) (Eq.trans (up_at eh569 (Or.inl (kd_ne kd900 kd48 (by decide)))) (Eq.trans (up_at eh564 (Or.inl (kd_ne kd900 kd561 (by decide)))) (Eq.trans (up_at eh557 (Or.inl (kd_ne kd900 kd42 (by decide)))) (Eq.trans (up_at eh552 (Or.inl (kd_ne kd900 kd549 (by decide)))) (Eq.trans (up_at eh545 (Or.inl (kd_ne kd900 kd542 (by decide)))) (Eq.trans (up_at eh538 (Or.inl (kd_ne kd900 kd33 (by decide)))) (Eq.trans (up_at eh533 (Or.inr (by decide))) (Eq.trans (up_at eh530 (Or.inr (by decide))) (Eq.trans (up_at eh521 (Or.inr (by decide))) (Eq.trans (up_at eh518 (Or.inr (by decide))) (Eq.trans (up_at eh515 (Or.inr (by decide))) (Eq.trans (up_at eh512 (Or.inr (by decide))) (Eq.trans (Fr.at (cq := 13036) F505 kd900 (cd_o (by decide)) (by decide)) (Eq.trans (up_at eh501 (Or.inr (by decide))) (Eq.trans (Fr.at (cq := 13036) F383 kd900 (cd_o (by decide)) (by decide)) (up_at eh20 (Or.inr (by decide)))))))))))))))))))))) eq7) (Eq.trans (show hp599 qa8 = hp584 qa8 from (by rw [eh600]; exact up2_row (kd_ne kd9 kd6 (by decide)))) (Eq.trans (show hp584 qa8 = hp575 qa8 from (by rw [eh585]; exact up2_row (kd_ne kd9 kd900 (by decide)))) (Eq.trans (show hp575 qa8 = hp568 qa8 from (by rw [eh576]; exact up2_row (kd_ne kd9 kd573 (by decide)))) (Eq.trans (show hp568 qa8 = hp563 qa8 from (by rw [eh569]; exact up2_row (kd_ne kd9 kd48 (by decide)))) (Eq.trans (show hp563 qa8 = hp556 qa8 from (by rw [eh564]; exact up2_row (kd_ne kd9 kd561 (by decide)))) (Eq.trans (show hp556 qa8 = hp551 qa8 from (by rw [eh557]; exact up2_row (kd_ne kd9 kd42 (by decide)))) (Eq.trans (show hp551 qa8 = hp544 qa8 from (by rw [eh552]; exact up2_row (kd_ne kd9 kd549 (by decide)))) (Eq.trans (show hp544 qa8 = hp537 qa8 from (by rw [eh545]; exact up2_row (kd_ne kd9 kd542 (by decide)))) (Eq.trans (show hp537 qa8 = hp532 qa8 from (by rw [eh538]; exact up2_row (kd_ne kd9 kd33 (by decide)))) (Eq.trans (show hp532 qa8 = hp529 qa8 from (by rw [eh533]; exact up2_row (kd_ne kd9 kd900 (by decide)))) (Eq.trans (show hp529 qa8 = hp520 qa8 from (by rw [eh530]; exact up2_row (kd_ne kd9 kd900 (by decide)))) (Eq.trans (show hp520 qa8 = hp517 qa8 from (by rw [eh521]; exact up2_row (kd_ne kd9 kd900 (by decide)))) (Eq.trans (show hp517 qa8 = hp514 qa8 from (by rw [eh518]; exact up2_row (kd_ne kd9 kd900 (by decide)))) (Eq.trans (show hp514 qa8 = hp511 qa8 from (by rw [eh515]; exact up2_row (kd_ne kd9 kd900 (by decide)))) (Eq.trans (show hp511 qa8 = hp503 qa8 from (by rw [eh512]; exact up2_row (kd_ne kd9 kd900 (by decide)))) (Eq.trans (show hp503 qa8 = hp500 qa8 from (funext fun i => Fr.at (cq := 82000) F505 kd9 (cd_a (by decide)) (by decide))) (Eq.trans (show hp500 qa8 = hp382 qa8 from (by rw [eh501]; exact up2_row (kd_ne kd9 kd900 (by decide)))) (Eq.trans (show hp382 qa8 = hp19 qa8 from (funext fun i => Fr.at (cq := 82000) F383 kd9 (cd_a (by decide)) (by decide))) (show hp19 qa8 = hp0 qa8 from (by rw [eh20]; exact up2_row (kd_ne kd9 kd900 (by decide)))))))))))))))))))))) eh615 rfl
        have mz651 := mA_up (h := hp614) (h1 := hp644) (f := 36) (Eq.trans (Eq.trans (up_at eh615 (Or.inl (kd_ne kd900 kd9 (by decide)))) (Eq.trans (up_at eh600 (Or.inl (kd_ne kd900 kd6 (by decide)))) (Eq.trans (up_at eh585 (Or.inr (by decide))) (Eq.trans (up_at eh576 (Or.inl (kd_ne kd900 kd573 (by decide)))) (Eq.trans (up_at eh569 (Or.inl (kd_ne kd900 kd48 (by decide)))) (Eq.trans (up_at eh564 (Or.inl (kd_ne kd900 kd561 (by decide)))) (Eq.trans (up_at eh557 (Or.inl (kd_ne kd900 kd42 (by decide)))) (Eq.trans (up_at eh552 (Or.inl (kd_ne kd900 kd549 (by decide)))) (Eq.trans (up_at eh545 (Or.inl (kd_ne kd900 kd542 (by decide)))) (Eq.trans (up_at eh538 (Or.inl (kd_ne kd900 kd33 (by decide)))) (Eq.trans (up_at eh533 (Or.inr (by decide))) (Eq.trans (up_at eh530 (Or.inr (by decide))) (Eq.trans (up_at eh521 (Or.inr (by decide))) (Eq.trans (up_at eh518 (Or.inr (by decide))) (Eq.trans (up_at eh515 (Or.inr (by decide))) (Eq.trans (up_at eh512 (Or.inr (by decide))) (Eq.trans (Fr.at (cq := 13036) F505 kd900 (cd_o (by decide)) (by decide)) (Eq.trans (up_at eh501 (Or.inr (by decide))) (Eq.trans (Fr.at (cq := 13036) F383 kd900 (cd_o (by decide)) (by decide)) (up_at eh20 (Or.inr (by decide)))))))))))))))))))))) eq7) (Eq.trans (Eq.trans (up_at eh645 (Or.inl (kd_ne kd900 kd9 (by decide)))) (Eq.trans (up_at eh630 (Or.inl (kd_ne kd900 kd6 (by decide)))) (Eq.trans (up_at eh615 (Or.inl (kd_ne kd900 kd9 (by decide)))) (Eq.trans (up_at eh600 (Or.inl (kd_ne kd900 kd6 (by decide)))) (Eq.trans (up_at eh585 (Or.inr (by decide))) (Eq.trans (up_at eh576 (Or.inl (kd_ne kd900 kd573 (by decide)))) (Eq.trans (up_at eh569 (Or.inl (kd_ne kd900 kd48 (by decide)))) (Eq.trans (up_at eh564 (Or.inl (kd_ne kd900 kd561 (by decide)))) (Eq.trans (up_at eh557 (Or.inl (kd_ne kd900 kd42 (by decide)))) (Eq.trans (up_at eh552 (Or.inl (kd_ne kd900 kd549 (by decide)))) (Eq.trans (up_at eh545 (Or.inl (kd_ne kd900 kd542 (by decide)))) (Eq.trans (up_at eh538 (Or.inl (kd_ne kd900 kd33 (by decide)))) (Eq.trans (up_at eh533 (Or.inr (by decide))) (Eq.trans (up_at eh530 (Or.inr (by decide))) (Eq.trans (up_at eh521 (Or.inr (by decide))) (Eq.trans (up_at eh518 (Or.inr (by decide))) (Eq.trans (up_at eh515 (Or.inr (by decide))) (Eq.trans (up_at eh512 (Or.inr (by decide))) (Eq.trans (Fr.at (cq := 13036) F505 kd900 (cd_o (by decide)) (by decide)) (Eq.trans (up_at eh501 (Or.inr (by decide))) (Eq.trans (Fr.at (cq := 13036) F383 kd900 (cd_o (by decide)) (by decide)) (up_at eh20 (Or.inr (by decide)))))))))))))))))))))))) eq7) (show hp629 qa8 = hp614 qa8 from (by rw [eh630]; exact up2_row (kd_ne kd9 kd6 (by decide)))) eh645 rfl
        have mz652 := mz651.trans (congrArg (fun f => updI f _ _) mz650)
        have eq654 : hp644 qa900 18 = .int zi2 := Eq.trans (up_at eh645 (Or.inl (kd_ne kd900 kd9 (by decide)))) (Eq.trans (up_at eh630 (Or.inl (kd_ne kd900 kd6 (by decide)))) (Eq.trans (up_at eh615 (Or.inl (kd_ne kd900 kd9 (by decide)))) (Eq.trans (up_at eh600 (Or.inl (kd_ne kd900 kd6 (by decide)))) (Eq.trans (up_at eh585 (Or.inr (by decide))) (Eq.trans (up_at eh576 (Or.inl (kd_ne kd900 kd573 (by decide)))) (Eq.trans (up_at eh569 (Or.inl (kd_ne kd900 kd48 (by decide)))) (Eq.trans (up_at eh564 (Or.inl (kd_ne kd900 kd561 (by decide)))) (Eq.trans (up_at eh557 (Or.inl (kd_ne kd900 kd42 (by decide)))) (Eq.trans (up_at eh552 (Or.inl (kd_ne kd900 kd549 (by decide)))) (Eq.trans (up_at eh545 (Or.inl (kd_ne kd900 kd542 (by decide)))) (Eq.trans (up_at eh538 (Or.inl (kd_ne kd900 kd33 (by decide)))) (Eq.trans (up_at eh533 (Or.inr (by decide))) (Eq.trans (up_at eh530 (Or.inr (by decide))) eq523)))))))))))))
        have eq655 : hp644 qa900 19 = .int zi524 := Eq.trans (up_at eh645 (Or.inl (kd_ne kd900 kd9 (by decide)))) eq633
        have eq656 : hp644 qa900 38 = .int zi579 := Eq.trans (up_at eh645 (Or.inl (kd_ne kd900 kd9 (by decide)))) (Eq.trans (up_at eh630 (Or.inl (kd_ne kd900 kd6 (by decide)))) (Eq.trans (up_at eh615 (Or.inl (kd_ne kd900 kd9 (by decide)))) (Eq.trans (up_at eh600 (Or.inl (kd_ne kd900 kd6 (by decide)))) (hp_self eh585))))
        have eq657 : hp644 qa900 39 = .ref qa11 := Eq.trans (up_at eh645 (Or.inl (kd_ne kd900 kd9 (by decide)))) (Eq.trans (up_at eh630 (Or.inl (kd_ne kd900 kd6 (by decide)))) (Eq.trans (up_at eh615 (Or.inl (kd_ne kd900 kd9 (by decide)))) (Eq.trans (up_at eh600 (Or.inl (kd_ne kd900 kd6 (by decide)))) (Eq.trans (up_at eh585 (Or.inr (by decide))) (Eq.trans (up_at eh576 (Or.inl (kd_ne kd900 kd573 (by decide)))) (Eq.trans (up_at eh569 (Or.inl (kd_ne kd900 kd48 (by decide)))) (Eq.trans (up_at eh564 (Or.inl (kd_ne kd900 kd561 (by decide)))) (Eq.trans (up_at eh557 (Or.inl (kd_ne kd900 kd42 (by decide)))) (Eq.trans (up_at eh552 (Or.inl (kd_ne kd900 kd549 (by decide)))) (Eq.trans (up_at eh545 (Or.inl (kd_ne kd900 kd542 (by decide)))) (Eq.trans (up_at eh538 (Or.inl (kd_ne kd900 kd33 (by decide)))) (Eq.trans (up_at eh533 (Or.inr (by decide))) (Eq.trans (up_at eh530 (Or.inr (by decide))) (Eq.trans (up_at eh521 (Or.inr (by decide))) (Eq.trans (up_at eh518 (Or.inr (by decide))) (Eq.trans (up_at eh515 (Or.inr (by decide))) (Eq.trans (up_at eh512 (Or.inr (by decide))) (Eq.trans (Fr.at (cq := 13039) F505 kd900 (cd_o (by decide)) (by decide)) (Eq.trans (up_at eh501 (Or.inr (by decide))) (Eq.trans (Fr.at (cq := 13039) F383 kd900 (cd_o (by decide)) (by decide)) (Eq.trans (up_at eh20 (Or.inr (by decide))) eq10)))))))))))))))))))))
        have eq658 : hp644 qa900 40 = .ref qa14 := Eq.trans (up_at eh645 (Or.inl (kd_ne kd900 kd9 (by decide)))) (Eq.trans (up_at eh630 (Or.inl (kd_ne kd900 kd6 (by decide)))) (Eq.trans (up_at eh615 (Or.inl (kd_ne kd900 kd9 (by decide)))) (Eq.trans (up_at eh600 (Or.inl (kd_ne kd900 kd6 (by decide)))) (Eq.trans (up_at eh585 (Or.inr (by decide))) (Eq.trans (up_at eh576 (Or.inl (kd_ne kd900 kd573 (by decide)))) (Eq.trans (up_at eh569 (Or.inl (kd_ne kd900 kd48 (by decide)))) (Eq.trans (up_at eh564 (Or.inl (kd_ne kd900 kd561 (by decide)))) (Eq.trans (up_at eh557 (Or.inl (kd_ne kd900 kd42 (by decide)))) (Eq.trans (up_at eh552 (Or.inl (kd_ne kd900 kd549 (by decide)))) (Eq.trans (up_at eh545 (Or.inl (kd_ne kd900 kd542 (by decide)))) (Eq.trans (up_at eh538 (Or.inl (kd_ne kd900 kd33 (by decide)))) (Eq.trans (up_at eh533 (Or.inr (by decide))) (Eq.trans (up_at eh530 (Or.inr (by decide))) (Eq.trans (up_at eh521 (Or.inr (by decide))) (Eq.trans (up_at eh518 (Or.inr (by decide))) (Eq.trans (up_at eh515 (Or.inr (by decide))) (Eq.trans (up_at eh512 (Or.inr (by decide))) (Eq.trans (Fr.at (cq := 13040) F505 kd900 (cd_o (by decide)) (by decide)) (Eq.trans (up_at eh501 (Or.inr (by decide))) (Eq.trans (Fr.at (cq := 13040) F383 kd900 (cd_o (by decide)) (by decide)) (Eq.trans (up_at eh20 (Or.inr (by decide))) eq13)))))))))))))))))))))
        have lp653 : LPx hp644 qa900 := LP_start (i0 := (zi594 : Int32).toNatClampNeg) (i1 := (zi624 : Int32).toNatClampNeg) (j0 := (zi609 : Int32).toNatClampNeg) (j1 := (zi639 : Int32).toNatClampNeg) pdLW (by rw [show (0 : Int) = (0 : Int32).toInt from by decide]; exact mz649) (by rw [show (0 : Int) = (0 : Int32).toInt from by decide]; exact mz652) (by rw [gi_of eq655]; have := clampN (x := zi594) (by omega); omega) (by rw [gi_of eq655]; have := clampN (x := zi624) (by omega); omega) (by rw [gi_of eq655]; have := clampN (x := zi609) (by omega); omega) (by rw [gi_of eq655]; have := clampN (x := zi639) (by omega); omega) (mA_eq eq10 eq657 (Eq.trans (show hp644 qa11 = hp629 qa11 from (by rw [eh645]; exact up2_row (kd_ne kd12 kd9 (by decide)))) (Eq.trans (show hp629 qa11 = hp614 qa11 from (by rw [eh630]; exact up2_row (kd_ne kd12 kd6 (by decide)))) (Eq.trans (show hp614 qa11 = hp599 qa11 from (by rw [eh615]; exact up2_row (kd_ne kd12 kd9 (by decide)))) (Eq.trans (show hp599 qa11 = hp584 qa11 from (by rw [eh600]; exact up2_row (kd_ne kd12 kd6 (by decide)))) (Eq.trans (show hp584 qa11 = hp575 qa11 from (by rw [eh585]; exact up2_row (kd_ne kd12 kd900 (by decide)))) (Eq.trans (show hp575 qa11 = hp568 qa11 from (by rw [eh576]; exact up2_row (kd_ne kd12 kd573 (by decide)))) (Eq.trans (show hp568 qa11 = hp563 qa11 from (by rw [eh569]; exact up2_row (kd_ne kd12 kd48 (by decide)))) (Eq.trans (show hp563 qa11 = hp556 qa11 from (by rw [eh564]; exact up2_row (kd_ne kd12 kd561 (by decide)))) (Eq.trans (show hp556 qa11 = hp551 qa11 from (by rw [eh557]; exact up2_row (kd_ne kd12 kd42 (by decide)))) (Eq.trans (show hp551 qa11 = hp544 qa11 from (by rw [eh552]; exact up2_row (kd_ne kd12 kd549 (by decide)))) (Eq.trans (show hp544 qa11 = hp537 qa11 from (by rw [eh545]; exact up2_row (kd_ne kd12 kd542 (by decide)))) (Eq.trans (show hp537 qa11 = hp532 qa11 from (by rw [eh538]; exact up2_row (kd_ne kd12 kd33 (by decide)))) (Eq.trans (show hp532 qa11 = hp529 qa11 from (by rw [eh533]; exact up2_row (kd_ne kd12 kd900 (by decide)))) (Eq.trans (show hp529 qa11 = hp520 qa11 from (by rw [eh530]; exact up2_row (kd_ne kd12 kd900 (by decide)))) (Eq.trans (show hp520 qa11 = hp517 qa11 from (by rw [eh521]; exact up2_row (kd_ne kd12 kd900 (by decide)))) (Eq.trans (show hp517 qa11 = hp514 qa11 from (by rw [eh518]; exact up2_row (kd_ne kd12 kd900 (by decide)))) (Eq.trans (show hp514 qa11 = hp511 qa11 from (by rw [eh515]; exact up2_row (kd_ne kd12 kd900 (by decide)))) (Eq.trans (show hp511 qa11 = hp503 qa11 from (by rw [eh512]; exact up2_row (kd_ne kd12 kd900 (by decide)))) (Eq.trans (show hp503 qa11 = hp500 qa11 from (funext fun i => Fr.at (cq := 84000) F505 kd12 (cd_a (by decide)) (by decide))) (Eq.trans (show hp500 qa11 = hp382 qa11 from (by rw [eh501]; exact up2_row (kd_ne kd12 kd900 (by decide)))) (Eq.trans (show hp382 qa11 = hp19 qa11 from (funext fun i => Fr.at (cq := 84000) F383 kd12 (cd_a (by decide)) (by decide))) (show hp19 qa11 = hp0 qa11 from (by rw [eh20]; exact up2_row (kd_ne kd12 kd900 (by decide)))))))))))))))))))))))))) (mA_eq eq13 eq658 (Eq.trans (show hp644 qa14 = hp629 qa14 from (by rw [eh645]; exact up2_row (kd_ne kd15 kd9 (by decide)))) (Eq.trans (show hp629 qa14 = hp614 qa14 from (by rw [eh630]; exact up2_row (kd_ne kd15 kd6 (by decide)))) (Eq.trans (show hp614 qa14 = hp599 qa14 from (by rw [eh615]; exact up2_row (kd_ne kd15 kd9 (by decide)))) (Eq.trans (show hp599 qa14 = hp584 qa14 from (by rw [eh600]; exact up2_row (kd_ne kd15 kd6 (by decide)))) (Eq.trans (show hp584 qa14 = hp575 qa14 from (by rw [eh585]; exact up2_row (kd_ne kd15 kd900 (by decide)))) (Eq.trans (show hp575 qa14 = hp568 qa14 from (by rw [eh576]; exact up2_row (kd_ne kd15 kd573 (by decide)))) (Eq.trans (show hp568 qa14 = hp563 qa14 from (by rw [eh569]; exact up2_row (kd_ne kd15 kd48 (by decide)))) (Eq.trans (show hp563 qa14 = hp556 qa14 from (by rw [eh564]; exact up2_row (kd_ne kd15 kd561 (by decide)))) (Eq.trans (show hp556 qa14 = hp551 qa14 from (by rw [eh557]; exact up2_row (kd_ne kd15 kd42 (by decide)))) (Eq.trans (show hp551 qa14 = hp544 qa14 from (by rw [eh552]; exact up2_row (kd_ne kd15 kd549 (by decide)))) (Eq.trans (show hp544 qa14 = hp537 qa14 from (by rw [eh545]; exact up2_row (kd_ne kd15 kd542 (by decide)))) (Eq.trans (show hp537 qa14 = hp532 qa14 from (by rw [eh538]; exact up2_row (kd_ne kd15 kd33 (by decide)))) (Eq.trans (show hp532 qa14 = hp529 qa14 from (by rw [eh533]; exact up2_row (kd_ne kd15 kd900 (by decide)))) (Eq.trans (show hp529 qa14 = hp520 qa14 from (by rw [eh530]; exact up2_row (kd_ne kd15 kd900 (by decide)))) (Eq.trans (show hp520 qa14 = hp517 qa14 from (by rw [eh521]; exact up2_row (kd_ne kd15 kd900 (by decide)))) (Eq.trans (show hp517 qa14 = hp514 qa14 from (by rw [eh518]; exact up2_row (kd_ne kd15 kd900 (by decide)))) (Eq.trans (show hp514 qa14 = hp511 qa14 from (by rw [eh515]; exact up2_row (kd_ne kd15 kd900 (by decide)))) (Eq.trans (show hp511 qa14 = hp503 qa14 from (by rw [eh512]; exact up2_row (kd_ne kd15 kd900 (by decide)))) (Eq.trans (show hp503 qa14 = hp500 qa14 from (funext fun i => Fr.at (cq := 85000) F505 kd15 (cd_a (by decide)) (by decide))) (Eq.trans (show hp500 qa14 = hp382 qa14 from (by rw [eh501]; exact up2_row (kd_ne kd15 kd900 (by decide)))) (Eq.trans (show hp382 qa14 = hp19 qa14 from (funext fun i => Fr.at (cq := 85000) F383 kd15 (cd_a (by decide)) (by decide))) (show hp19 qa14 = hp0 qa14 from (by rw [eh20]; exact up2_row (kd_ne kd15 kd900 (by decide)))))))))))))))))))))))))) (by rw [gi_of eq654, gi_of eq1] <;> (omega)) (by rw [gi_of eq655, gi_of eq1]; omega) (by rw [gi_of eq656, gi_of eq655]; omega) (by rw [gi_of eq1]; exact bd3)
        refine lv_iinc (v := 2) (lv' := [(1, .int 2), (0, .ref qa900)]) hx hb dX12_read_197 hl (k := 0) rfl (by decide) (by decide) rfl (fun ls hl => ?_)
        refine lv_goto (tgt := 164) hx hb dX12_read_200 (by decide) ?_
        refine lv_iload_n hx hb dX12_read_164 rfl (lv_at hl 0 rfl) ?_
        refine lv_iconst (v := 2) hx hb dX12_read_165 (by decide) ?_
        refine lv_icmp_ge (tgt := 203) hx hb dX12_read_166 (by decide) (fun _ => ?_) (fun c => absurd (d_le bc_2 bc_2 (by decide)) c)
        have eq659 : hp644 qa900 11 = .int 0 := Eq.trans (up_at eh645 (Or.inl (kd_ne kd900 kd9 (by decide)))) (Eq.trans (up_at eh630 (Or.inl (kd_ne kd900 kd6 (by decide)))) (Eq.trans (up_at eh615 (Or.inl (kd_ne kd900 kd9 (by decide)))) (Eq.trans (up_at eh600 (Or.inl (kd_ne kd900 kd6 (by decide)))) (Eq.trans (up_at eh585 (Or.inr (by decide))) (Eq.trans (up_at eh576 (Or.inl (kd_ne kd900 kd573 (by decide)))) (Eq.trans (up_at eh569 (Or.inl (kd_ne kd900 kd48 (by decide)))) (Eq.trans (up_at eh564 (Or.inl (kd_ne kd900 kd561 (by decide)))) (Eq.trans (up_at eh557 (Or.inl (kd_ne kd900 kd42 (by decide)))) (Eq.trans (up_at eh552 (Or.inl (kd_ne kd900 kd549 (by decide)))) (Eq.trans (up_at eh545 (Or.inl (kd_ne kd900 kd542 (by decide)))) (Eq.trans (up_at eh538 (Or.inl (kd_ne kd900 kd33 (by decide)))) (Eq.trans (up_at eh533 (Or.inr (by decide))) (Eq.trans (up_at eh530 (Or.inr (by decide))) (Eq.trans (up_at eh521 (Or.inr (by decide))) (Eq.trans (up_at eh518 (Or.inr (by decide))) (Eq.trans (up_at eh515 (Or.inr (by decide))) (hp_self eh512)))))))))))))))))
        have eq660 : hp644 qa900 13 = .int 0 := Eq.trans (up_at eh645 (Or.inl (kd_ne kd900 kd9 (by decide)))) (Eq.trans (up_at eh630 (Or.inl (kd_ne kd900 kd6 (by decide)))) (Eq.trans (up_at eh615 (Or.inl (kd_ne kd900 kd9 (by decide)))) (Eq.trans (up_at eh600 (Or.inl (kd_ne kd900 kd6 (by decide)))) (Eq.trans (up_at eh585 (Or.inr (by decide))) (Eq.trans (up_at eh576 (Or.inl (kd_ne kd900 kd573 (by decide)))) (Eq.trans (up_at eh569 (Or.inl (kd_ne kd900 kd48 (by decide)))) (Eq.trans (up_at eh564 (Or.inl (kd_ne kd900 kd561 (by decide)))) (Eq.trans (up_at eh557 (Or.inl (kd_ne kd900 kd42 (by decide)))) (Eq.trans (up_at eh552 (Or.inl (kd_ne kd900 kd549 (by decide)))) (Eq.trans (up_at eh545 (Or.inl (kd_ne kd900 kd542 (by decide)))) (Eq.trans (up_at eh538 (Or.inl (kd_ne kd900 kd33 (by decide)))) (Eq.trans (up_at eh533 (Or.inr (by decide))) (Eq.trans (up_at eh530 (Or.inr (by decide))) (Eq.trans (up_at eh521 (Or.inr (by decide))) (hp_self eh518)))))))))))))))
        have eq661 : hp644 qa900 20 = .int 0 := Eq.trans (up_at eh645 (Or.inl (kd_ne kd900 kd9 (by decide)))) (Eq.trans (up_at eh630 (Or.inl (kd_ne kd900 kd6 (by decide)))) (Eq.trans (up_at eh615 (Or.inl (kd_ne kd900 kd9 (by decide)))) (Eq.trans (up_at eh600 (Or.inl (kd_ne kd900 kd6 (by decide)))) (Eq.trans (up_at eh585 (Or.inr (by decide))) (Eq.trans (up_at eh576 (Or.inl (kd_ne kd900 kd573 (by decide)))) (Eq.trans (up_at eh569 (Or.inl (kd_ne kd900 kd48 (by decide)))) (Eq.trans (up_at eh564 (Or.inl (kd_ne kd900 kd561 (by decide)))) (Eq.trans (up_at eh557 (Or.inl (kd_ne kd900 kd42 (by decide)))) (Eq.trans (up_at eh552 (Or.inl (kd_ne kd900 kd549 (by decide)))) (Eq.trans (up_at eh545 (Or.inl (kd_ne kd900 kd542 (by decide)))) (Eq.trans (up_at eh538 (Or.inl (kd_ne kd900 kd33 (by decide)))) (hp_self eh533))))))))))))
        have eq662 : hp644 qa900 24 = .ref qa32 := Eq.trans (up_at eh645 (Or.inl (kd_ne kd900 kd9 (by decide)))) (Eq.trans (up_at eh630 (Or.inl (kd_ne kd900 kd6 (by decide)))) (Eq.trans (up_at eh615 (Or.inl (kd_ne kd900 kd9 (by decide)))) (Eq.trans (up_at eh600 (Or.inl (kd_ne kd900 kd6 (by decide)))) (Eq.trans (up_at eh585 (Or.inr (by decide))) (Eq.trans (up_at eh576 (Or.inl (kd_ne kd900 kd573 (by decide)))) (Eq.trans (up_at eh569 (Or.inl (kd_ne kd900 kd48 (by decide)))) (Eq.trans (up_at eh564 (Or.inl (kd_ne kd900 kd561 (by decide)))) (Eq.trans (up_at eh557 (Or.inl (kd_ne kd900 kd42 (by decide)))) (Eq.trans (up_at eh552 (Or.inl (kd_ne kd900 kd549 (by decide)))) (Eq.trans (up_at eh545 (Or.inl (kd_ne kd900 kd542 (by decide)))) (Eq.trans (up_at eh538 (Or.inl (kd_ne kd900 kd33 (by decide)))) eq535)))))))))))
        have eq663 : hp644 qa32 (zi524 : Int32).toNatClampNeg = .int 0 := Eq.trans (up_at eh645 (Or.inl (kd_ne kd33 kd9 (by decide)))) (Eq.trans (up_at eh630 (Or.inl (kd_ne kd33 kd6 (by decide)))) (Eq.trans (up_at eh615 (Or.inl (kd_ne kd33 kd9 (by decide)))) (Eq.trans (up_at eh600 (Or.inl (kd_ne kd33 kd6 (by decide)))) (Eq.trans (up_at eh585 (Or.inl (kd_ne kd33 kd900 (by decide)))) (Eq.trans (up_at eh576 (Or.inl (kd_ne kd33 kd573 (by decide)))) (Eq.trans (up_at eh569 (Or.inl (kd_ne kd33 kd48 (by decide)))) (Eq.trans (up_at eh564 (Or.inl (kd_ne kd33 kd561 (by decide)))) (Eq.trans (up_at eh557 (Or.inl (kd_ne kd33 kd42 (by decide)))) (Eq.trans (up_at eh552 (Or.inl (kd_ne kd33 kd549 (by decide)))) (Eq.trans (up_at eh545 (Or.inl (kd_ne kd33 kd542 (by decide)))) (hp_self eh538)))))))))))
        have eq664 : hp644 qa900 27 = .ref qa41 := Eq.trans (up_at eh645 (Or.inl (kd_ne kd900 kd9 (by decide)))) (Eq.trans (up_at eh630 (Or.inl (kd_ne kd900 kd6 (by decide)))) (Eq.trans (up_at eh615 (Or.inl (kd_ne kd900 kd9 (by decide)))) (Eq.trans (up_at eh600 (Or.inl (kd_ne kd900 kd6 (by decide)))) (Eq.trans (up_at eh585 (Or.inr (by decide))) (Eq.trans (up_at eh576 (Or.inl (kd_ne kd900 kd573 (by decide)))) (Eq.trans (up_at eh569 (Or.inl (kd_ne kd900 kd48 (by decide)))) (Eq.trans (up_at eh564 (Or.inl (kd_ne kd900 kd561 (by decide)))) (Eq.trans (up_at eh557 (Or.inl (kd_ne kd900 kd42 (by decide)))) eq554))))))))
        have eq665 : hp644 qa41 (zi524 : Int32).toNatClampNeg = .int 0 := Eq.trans (up_at eh645 (Or.inl (kd_ne kd42 kd9 (by decide)))) (Eq.trans (up_at eh630 (Or.inl (kd_ne kd42 kd6 (by decide)))) (Eq.trans (up_at eh615 (Or.inl (kd_ne kd42 kd9 (by decide)))) (Eq.trans (up_at eh600 (Or.inl (kd_ne kd42 kd6 (by decide)))) (Eq.trans (up_at eh585 (Or.inl (kd_ne kd42 kd900 (by decide)))) (Eq.trans (up_at eh576 (Or.inl (kd_ne kd42 kd573 (by decide)))) (Eq.trans (up_at eh569 (Or.inl (kd_ne kd42 kd48 (by decide)))) (Eq.trans (up_at eh564 (Or.inl (kd_ne kd42 kd561 (by decide)))) (hp_self eh557))))))))
        have eq666 : hp644 qa900 32 = .ref qa47 := Eq.trans (up_at eh645 (Or.inl (kd_ne kd900 kd9 (by decide)))) (Eq.trans (up_at eh630 (Or.inl (kd_ne kd900 kd6 (by decide)))) (Eq.trans (up_at eh615 (Or.inl (kd_ne kd900 kd9 (by decide)))) (Eq.trans (up_at eh600 (Or.inl (kd_ne kd900 kd6 (by decide)))) (Eq.trans (up_at eh585 (Or.inr (by decide))) (Eq.trans (up_at eh576 (Or.inl (kd_ne kd900 kd573 (by decide)))) (Eq.trans (up_at eh569 (Or.inl (kd_ne kd900 kd48 (by decide)))) eq566))))))
        have eq667 : hp644 qa47 (zi524 : Int32).toNatClampNeg = .int 0 := Eq.trans (up_at eh645 (Or.inl (kd_ne kd48 kd9 (by decide)))) (Eq.trans (up_at eh630 (Or.inl (kd_ne kd48 kd6 (by decide)))) (Eq.trans (up_at eh615 (Or.inl (kd_ne kd48 kd9 (by decide)))) (Eq.trans (up_at eh600 (Or.inl (kd_ne kd48 kd6 (by decide)))) (Eq.trans (up_at eh585 (Or.inl (kd_ne kd48 kd900 (by decide)))) (Eq.trans (up_at eh576 (Or.inl (kd_ne kd48 kd573 (by decide)))) (hp_self eh569))))))
        have eq668 : hp644 qa900 12 = .int 0 := Eq.trans (up_at eh645 (Or.inl (kd_ne kd900 kd9 (by decide)))) (Eq.trans (up_at eh630 (Or.inl (kd_ne kd900 kd6 (by decide)))) (Eq.trans (up_at eh615 (Or.inl (kd_ne kd900 kd9 (by decide)))) (Eq.trans (up_at eh600 (Or.inl (kd_ne kd900 kd6 (by decide)))) (Eq.trans (up_at eh585 (Or.inr (by decide))) (Eq.trans (up_at eh576 (Or.inl (kd_ne kd900 kd573 (by decide)))) (Eq.trans (up_at eh569 (Or.inl (kd_ne kd900 kd48 (by decide)))) (Eq.trans (up_at eh564 (Or.inl (kd_ne kd900 kd561 (by decide)))) (Eq.trans (up_at eh557 (Or.inl (kd_ne kd900 kd42 (by decide)))) (Eq.trans (up_at eh552 (Or.inl (kd_ne kd900 kd549 (by decide)))) (Eq.trans (up_at eh545 (Or.inl (kd_ne kd900 kd542 (by decide)))) (Eq.trans (up_at eh538 (Or.inl (kd_ne kd900 kd33 (by decide)))) (Eq.trans (up_at eh533 (Or.inr (by decide))) (Eq.trans (up_at eh530 (Or.inr (by decide))) (Eq.trans (up_at eh521 (Or.inr (by decide))) (Eq.trans (up_at eh518 (Or.inr (by decide))) (hp_self eh515))))))))))))))))
        have jn1175 : ∀ (hp1139 : Nat → Nat → Value) (zi1143 : Int32) (zi1145 : Int32) (zi1147 : Int32) (zi1149 : Int32) (zi1151 : Int32) (zi1153 : Int32) (zi1155 : Int32) (zi1157 : Int32) (H : Heap) (locs : List Loc) (ls : Array Slot), Ok K hp1139 → Fr [13011, 13012, 13013, 13014, 13015, 13016, 13020, 13038, 13045, 67000, 68000, 69000, 70000, 71000, 72000, 73000, 74000, 75000, 76000, 77000, 78000, 79000, 80000, 81000, 82000, 83000, 84000, 85000, 86000, 87000, 88000, 89000] K hp644 hp1139 → ((0 : Int) ≤ zi1143.toInt ∧ zi1143.toInt ≤ 400) → hp1139 qa900 11 = .int zi1143 → ((0 : Int) ≤ zi1145.toInt ∧ zi1145.toInt ≤ 2) → hp1139 qa900 13 = .int zi1145 → ((0 : Int) ≤ zi1147.toInt ∧ zi1147.toInt ≤ 24) → hp1139 qa900 20 = .int zi1147 → ((0 : Int) ≤ zi1149.toInt ∧ zi1149.toInt ≤ 6) → hp1139 qa32 (zi524 : Int32).toNatClampNeg = .int zi1149 → ((0 : Int) ≤ zi1151.toInt ∧ zi1151.toInt ≤ 6) → hp1139 qa41 (zi524 : Int32).toNatClampNeg = .int zi1151 → ((0 : Int) ≤ zi1153.toInt ∧ zi1153.toInt ≤ 8) → hp1139 qa47 (zi524 : Int32).toNatClampNeg = .int zi1153 → ((0 : Int) ≤ zi1155.toInt ∧ zi1155.toInt ≤ 7) → hp1139 qa900 12 = .int zi1155 → ((0 : Int) ≤ zi1157.toInt ∧ zi1157.toInt ≤ 840) → hp1139 qa900 38 = .int zi1157 → (zi1155.toInt ≤ 7*zi1145.toInt) → (zi1147.toInt ≤ zi1149.toInt + zi1151.toInt + zi1153.toInt) → (zi1157.toInt ≤ 420*zi524.toInt + zi1143.toInt + zi1145.toInt) → (LW hp1139 qa900) → (gi hp1139 qa900 13 = 0 → LPx hp1139 qa900) → lv_has ls 2 [(0, .ref qa900)] → PW G cy K ln Ls A hp1139 H → va_S A s.heap H locs → W p l e ({ frames := 7, cells := 0, slots := 0, locals := 151 } : Room) s m ([.ref qa900] : List Value).toArray below meth c H locs 0 0 Q (F0 m 225 ls []) := by
          intro hp1139 zi1143 zi1145 zi1147 zi1149 zi1151 zi1153 zi1155 zi1157 H locs ls ok1141 F1140 bd1163 eq1142 bd1164 eq1144 bd1165 eq1146 bd1166 eq1148 bd1167 eq1150 bd1168 eq1152 bd1169 eq1154 bd1170 eq1156 rq1158 rq1159 rq1160 jx1161 jx1162 hl hw hS
          refine lv_aload_n hx hb dX12_read_225 rfl (lv_at hl 0 rfl) ?_
          refine lv_aload_n hx hb dX12_read_226 rfl (lv_at hl 0 rfl) ?_
          refine p_get (ci := 12) (v := .int zi1145) (C := RX12) (T := TX12) (N := 69) hx hb hT iw_X12 hown hK hw hW kd900 (by decide) rfl rfl 13 (by decide) eq1144 (hT _ tb_1387) (fun _ h9 => h9) dX12_read_227 ?_
          have eq1177 : hp1139 qa900 24 = .ref qa32 := Eq.trans (Fr.at (cq := 13024) F1140 kd900 (cd_o (by decide)) (by decide)) eq662
          have eq1178 : hp1139 qa900 19 = .int zi524 := Eq.trans (Fr.at (cq := 13019) F1140 kd900 (cd_o (by decide)) (by decide)) eq655
          have eq1179 : hp1139 qa900 27 = .ref qa41 := Eq.trans (Fr.at (cq := 13027) F1140 kd900 (cd_o (by decide)) (by decide)) eq664
          have eq1180 : hp1139 qa900 32 = .ref qa47 := Eq.trans (Fr.at (cq := 13032) F1140 kd900 (cd_o (by decide)) (by decide)) eq666
          have jn1193 : ∀ (zi1192 : Int32) (H : Heap) (locs : List Loc) (ls : Array Slot), lv_has ls 2 [(0, .ref qa900)] → PW G cy K ln Ls A hp1139 H → va_S A s.heap H locs → W p l e ({ frames := 7, cells := 0, slots := 0, locals := 151 } : Room) s m ([.ref qa900] : List Value).toArray below meth c H locs 0 0 Q (F0 m 255 ls [.int zi1192, .ref qa900]) := by
            intro zi1192 H locs ls hl hw hS
            refine p_put (ci := 12) (v := .int zi1192) (ty := .int) (C := RX12) (T := TX12) (N := 69) hx hb hT iw_X12 tyX12 tyX12_ok nmX12 hown hK hw hS hW kd900 (by decide) rfl rfl 17 (by decide) (hT _ tb_1391) (fun _ h9 => h9) rfl (by decide +kernel) rfl rfl dX12_read_255 (fun hp1194 eh1195 H locs hw hS => ?_)
            have ok1196 := wr_13017 ok1141 kd900 eh1195
            refine lv_aload_n hx hb dX12_read_258 rfl (lv_at hl 0 rfl) ?_
            have eq1197 : hp1194 qa900 13 = .int zi1145 := Eq.trans (up_at eh1195 (Or.inr (by decide))) eq1144
            refine p_get (ci := 12) (v := .int zi1145) (C := RX12) (T := TX12) (N := 69) hx hb hT iw_X12 hown hK hw hW kd900 (by decide) rfl rfl 13 (by decide) eq1197 (hT _ tb_1387) (fun _ h9 => h9) dX12_read_259 ?_
            have eq1199 : hp1194 qa900 11 = .int zi1143 := Eq.trans (up_at eh1195 (Or.inr (by decide))) eq1142
            have eq1200 : hp1194 qa900 20 = .int zi1147 := Eq.trans (up_at eh1195 (Or.inr (by decide))) eq1146
            have eq1201 : hp1194 qa900 24 = .ref qa32 := Eq.trans (up_at eh1195 (Or.inr (by decide))) eq1177
            have eq1202 : hp1194 qa900 19 = .int zi524 := Eq.trans (up_at eh1195 (Or.inr (by decide))) eq1178
            have eq1203 : hp1194 qa32 (zi524 : Int32).toNatClampNeg = .int zi1149 := Eq.trans (up_at eh1195 (Or.inl (kd_ne kd33 kd900 (by decide)))) eq1148
            have eq1204 : hp1194 qa900 27 = .ref qa41 := Eq.trans (up_at eh1195 (Or.inr (by decide))) eq1179
            have eq1205 : hp1194 qa41 (zi524 : Int32).toNatClampNeg = .int zi1151 := Eq.trans (up_at eh1195 (Or.inl (kd_ne kd42 kd900 (by decide)))) eq1150
            have eq1206 : hp1194 qa900 32 = .ref qa47 := Eq.trans (up_at eh1195 (Or.inr (by decide))) eq1180
            have eq1207 : hp1194 qa47 (zi524 : Int32).toNatClampNeg = .int zi1153 := Eq.trans (up_at eh1195 (Or.inl (kd_ne kd48 kd900 (by decide)))) eq1152
            have eq1208 : hp1194 qa900 12 = .int zi1155 := Eq.trans (up_at eh1195 (Or.inr (by decide))) eq1154
            have eq1209 : hp1194 qa900 38 = .int zi1157 := Eq.trans (up_at eh1195 (Or.inr (by decide))) eq1156
            refine lv_if_le (tgt := 270) hx hb dX12_read_262 (by decide) (fun cn1198 => ?_) (fun cn1198 => ?_)
            · skip
              have bd1210 : (0 : Int) ≤ zi1145.toInt ∧ zi1145.toInt ≤ 0 := r_le_x cn1198 bd1164 bc_0 (by decide) (by decide)
              refine lv_aload_n hx hb dX12_read_270 rfl (lv_at hl 0 rfl) ?_
              obtain ⟨zi1212, eq1211⟩ := rd_13015 ok1196 kd900
              refine p_get (ci := 12) (v := .int zi1212) (C := RX12) (T := TX12) (N := 69) hx hb hT iw_X12 hown hK hw hW kd900 (by decide) rfl rfl 15 (by decide) eq1211 (hT _ tb_1389) (fun _ h9 => h9) dX12_read_271 ?_
              refine lv_if_le (tgt := 282) hx hb dX12_read_274 (by decide) (fun cn1213 => ?_) (fun cn1213 => ?_)
              · skip
                have bd1214 : (-2147483648 : Int) ≤ zi1212.toInt ∧ zi1212.toInt ≤ 0 := r_le_x cn1213 (b_all zi1212) bc_0 (by decide) (by decide)
                have eq1216 : hp1194 qa900 18 = .int zi2 := Eq.trans (up_at eh1195 (Or.inr (by decide))) (Eq.trans (Fr.at (cq := 13018) F1140 kd900 (cd_o (by decide)) (by decide)) eq654)
                have eq1217 : hp1194 qa900 35 = .ref qa5 := Eq.trans (up_at eh1195 (Or.inr (by decide))) (Eq.trans (Fr.at (cq := 13035) F1140 kd900 (cd_o (by decide)) (by decide)) (Eq.trans (up_at eh645 (Or.inl (kd_ne kd900 kd9 (by decide)))) (Eq.trans (up_at eh630 (Or.inl (kd_ne kd900 kd6 (by decide)))) eq617)))
                have eq1218 : hp1194 qa900 36 = .ref qa8 := Eq.trans (up_at eh1195 (Or.inr (by decide))) (Eq.trans (Fr.at (cq := 13036) F1140 kd900 (cd_o (by decide)) (by decide)) (Eq.trans (up_at eh645 (Or.inl (kd_ne kd900 kd9 (by decide)))) eq632))
                have eq1219 : hp1194 qa900 39 = .ref qa11 := Eq.trans (up_at eh1195 (Or.inr (by decide))) (Eq.trans (Fr.at (cq := 13039) F1140 kd900 (cd_o (by decide)) (by decide)) eq657)
                have eq1220 : hp1194 qa900 40 = .ref qa14 := Eq.trans (up_at eh1195 (Or.inr (by decide))) (Eq.trans (Fr.at (cq := 13040) F1140 kd900 (cd_o (by decide)) (by decide)) eq658)
                have pd1221 : (gi hp1194 qa900 13 = 0 → LPx hp1194 qa900) := LPi_fr ok1141 kd900 (show Fr [13017] K hp1139 hp1194 from (Fr.put (cq := 13017) (Fr.rf) eh1195 kd900 (cd_o (by decide)) (by decide))) (by decide) jx1162
                have lp1215 := pd1221 (by rw [gi_of eq1197]; omega)
                refine lv_aload_n hx hb dX12_read_282 rfl (lv_at hl 0 rfl) ?_
                refine lv_aload_n hx hb dX12_read_283 rfl (lv_at hl 0 rfl) ?_
                refine p_get (ci := 12) (v := .int zi524) (C := RX12) (T := TX12) (N := 69) hx hb hT iw_X12 hown hK hw hW kd900 (by decide) rfl rfl 19 (by decide) eq1202 (hT _ tb_1393) (fun _ h9 => h9) dX12_read_284 ?_
                refine p_put (ci := 12) (v := .int zi524) (ty := .int) (C := RX12) (T := TX12) (N := 69) hx hb hT iw_X12 tyX12 tyX12_ok nmX12 hown hK hw hS hW kd900 (by decide) rfl rfl 18 (by decide) (hT _ tb_1392) (fun _ h9 => h9) rfl (by decide +kernel) rfl rfl dX12_read_287 (fun hp1222 eh1223 H locs hw hS => ?_)
                have ok1224 := wr_13018 bd526 (by decide) (by decide) ok1196 kd900 eh1223
                have eq1226 : hp1222 qa900 35 = .ref qa5 := Eq.trans (up_at eh1223 (Or.inr (by decide))) eq1217
                have eq1227 : hp1222 qa900 36 = .ref qa8 := Eq.trans (up_at eh1223 (Or.inr (by decide))) eq1218
                have eq1228 : hp1222 qa900 39 = .ref qa11 := Eq.trans (up_at eh1223 (Or.inr (by decide))) eq1219
                have eq1229 : hp1222 qa900 40 = .ref qa14 := Eq.trans (up_at eh1223 (Or.inr (by decide))) eq1220
                have lw1225 : LW hp1222 qa900 := LW_live lp1215 (by rw [gi_of (hp_self eh1223), gi_of eq1202]) (mA_eq eq1217 eq1226 (show hp1222 qa5 = hp1194 qa5 from (by rw [eh1223]; exact up2_row (kd_ne kd6 kd900 (by decide))))) (mA_eq eq1218 eq1227 (show hp1222 qa8 = hp1194 qa8 from (by rw [eh1223]; exact up2_row (kd_ne kd9 kd900 (by decide))))) (mA_eq eq1219 eq1228 (show hp1222 qa11 = hp1194 qa11 from (by rw [eh1223]; exact up2_row (kd_ne kd12 kd900 (by decide))))) (mA_eq eq1220 eq1229 (show hp1222 qa14 = hp1194 qa14 from (by rw [eh1223]; exact up2_row (kd_ne kd15 kd900 (by decide)))))
                refine lv_aload_n hx hb dX12_read_290 rfl (lv_at hl 0 rfl) ?_
                refine kq_v hw hS hA (va_runV (As := []) (rest := []) ⟨hx, hb, hml, hown, hT⟩ (cX12_begins_0 l G cy ev K ln Ls hW _ hp1222 ok1224 qa900 kd900) (cwV 0 hT (good_V tb_1719 tb_1716 tb_1718 tb_75 tb_122) rfl rfl rfl (by decide +kernel) ⟨Nat.le_of_ble_eq_true rfl, Nat.le_of_ble_eq_true rfl⟩) (pool_preV (ci := 12) hK hE hS hA hw hW kd900 (by decide) rfl) rfl rfl hl.1 rfl (lv_room (Nat.le_of_ble_eq_true rfl)) dX12_read_291 ⟨Nat.le_of_ble_eq_true rfl, Nat.le_of_ble_eq_true rfl⟩) (fun hp1230 H locs hq1233 hw hS => ?_)
                obtain ⟨ok1231, F1232⟩ := hq1233
                have hw : PW G cy K ln Ls A hp1230 H := hw
                refine lv_iconst (v := 0) hx hb dX12_read_294 (by decide) ?_
                refine lv_istore_n (lv' := [(1, .int 0), (0, .ref qa900)]) hx hb dX12_read_295 rfl hl (by decide) rfl (fun ls hl => ?_)
                have eq1235 : hp1230 qa900 11 = .int zi1143 := Eq.trans (Fr.at (cq := 13011) F1232 kd900 (cd_o (by decide)) (by decide)) (Eq.trans (up_at eh1223 (Or.inr (by decide))) eq1199)
                have eq1236 : hp1230 qa900 13 = .int zi1145 := Eq.trans (Fr.at (cq := 13013) F1232 kd900 (cd_o (by decide)) (by decide)) (Eq.trans (up_at eh1223 (Or.inr (by decide))) eq1197)
                have eq1237 : hp1230 qa900 20 = .int zi1147 := Eq.trans (Fr.at (cq := 13020) F1232 kd900 (cd_o (by decide)) (by decide)) (Eq.trans (up_at eh1223 (Or.inr (by decide))) eq1200)
                have eq1238 : hp1230 qa900 24 = .ref qa32 := Eq.trans (Fr.at (cq := 13024) F1232 kd900 (cd_o (by decide)) (by decide)) (Eq.trans (up_at eh1223 (Or.inr (by decide))) eq1201)
                have eq1239 : hp1230 qa900 19 = .int zi524 := Eq.trans (Fr.at (cq := 13019) F1232 kd900 (cd_o (by decide)) (by decide)) (Eq.trans (up_at eh1223 (Or.inr (by decide))) eq1202)
                have eq1240 : hp1230 qa32 (zi524 : Int32).toNatClampNeg = .int zi1149 := Eq.trans (Fr.at (cq := 70000) F1232 kd33 (cd_a (by decide)) (by decide)) (Eq.trans (up_at eh1223 (Or.inl (kd_ne kd33 kd900 (by decide)))) eq1203)
                have eq1241 : hp1230 qa900 27 = .ref qa41 := Eq.trans (Fr.at (cq := 13027) F1232 kd900 (cd_o (by decide)) (by decide)) (Eq.trans (up_at eh1223 (Or.inr (by decide))) eq1204)
                have eq1242 : hp1230 qa41 (zi524 : Int32).toNatClampNeg = .int zi1151 := Eq.trans (Fr.at (cq := 73000) F1232 kd42 (cd_a (by decide)) (by decide)) (Eq.trans (up_at eh1223 (Or.inl (kd_ne kd42 kd900 (by decide)))) eq1205)
                have eq1243 : hp1230 qa900 32 = .ref qa47 := Eq.trans (Fr.at (cq := 13032) F1232 kd900 (cd_o (by decide)) (by decide)) (Eq.trans (up_at eh1223 (Or.inr (by decide))) eq1206)
                have eq1244 : hp1230 qa47 (zi524 : Int32).toNatClampNeg = .int zi1153 := Eq.trans (Fr.at (cq := 78000) F1232 kd48 (cd_a (by decide)) (by decide)) (Eq.trans (up_at eh1223 (Or.inl (kd_ne kd48 kd900 (by decide)))) eq1207)
                have eq1245 : hp1230 qa900 12 = .int zi1155 := Eq.trans (Fr.at (cq := 13012) F1232 kd900 (cd_o (by decide)) (by decide)) (Eq.trans (up_at eh1223 (Or.inr (by decide))) eq1208)
                have eq1246 : hp1230 qa900 38 = .int zi1157 := Eq.trans (Fr.at (cq := 13038) F1232 kd900 (cd_o (by decide)) (by decide)) (Eq.trans (up_at eh1223 (Or.inr (by decide))) eq1209)
                have lp1486 : ∀ (n1484 : Nat) (hp1414 : Nat → Nat → Value) (zi1413 : Int32) (H : Heap) (locs : List Loc) (ls : Array Slot), 40 - zi1413.toInt < (n1484 : Int) → Ok K hp1414 → Fr [92000] K hp1230 hp1414 → ((0 : Int) ≤ zi1413.toInt ∧ zi1413.toInt ≤ 40) → lv_has ls 2 [(0, .ref qa900), (1, .int zi1413)] → PW G cy K ln Ls A hp1414 H → va_S A s.heap H locs → W p l e ({ frames := 7, cells := 0, slots := 0, locals := 151 } : Room) s m ([.ref qa900] : List Value).toArray below meth c H locs 0 0 Q (F0 m 296 ls []) := by
                  intro n1484
                  induction n1484 with
                  | zero =>
                    intro hp1414 zi1413 H locs ls hm1487 ok1416 F1415 bd1417 hl hw hS
                    exact absurd hm1487 (by have := bd1417; omega)
                  | succ n1484 ih1485 =>
                    intro hp1414 zi1413 H locs ls hm1487 ok1416 F1415 bd1417 hl hw hS
                    refine lv_iload_n hx hb dX12_read_296 rfl (lv_at hl 1 rfl) ?_
                    refine lv_bipush (v := 40) hx hb dX12_read_297 (by decide) ?_
                    have eq1489 : hp1414 qa900 11 = .int zi1143 := Eq.trans (Fr.at (cq := 13011) F1415 kd900 (cd_o (by decide)) (by decide)) eq1235
                    have eq1490 : hp1414 qa900 13 = .int zi1145 := Eq.trans (Fr.at (cq := 13013) F1415 kd900 (cd_o (by decide)) (by decide)) eq1236
                    have eq1491 : hp1414 qa900 20 = .int zi1147 := Eq.trans (Fr.at (cq := 13020) F1415 kd900 (cd_o (by decide)) (by decide)) eq1237
                    have eq1492 : hp1414 qa900 24 = .ref qa32 := Eq.trans (Fr.at (cq := 13024) F1415 kd900 (cd_o (by decide)) (by decide)) eq1238
                    have eq1493 : hp1414 qa900 19 = .int zi524 := Eq.trans (Fr.at (cq := 13019) F1415 kd900 (cd_o (by decide)) (by decide)) eq1239
                    have eq1494 : hp1414 qa32 (zi524 : Int32).toNatClampNeg = .int zi1149 := Eq.trans (Fr.at (cq := 70000) F1415 kd33 (cd_a (by decide)) (by decide)) eq1240
                    have eq1495 : hp1414 qa900 27 = .ref qa41 := Eq.trans (Fr.at (cq := 13027) F1415 kd900 (cd_o (by decide)) (by decide)) eq1241
                    have eq1496 : hp1414 qa41 (zi524 : Int32).toNatClampNeg = .int zi1151 := Eq.trans (Fr.at (cq := 73000) F1415 kd42 (cd_a (by decide)) (by decide)) eq1242
                    have eq1497 : hp1414 qa900 32 = .ref qa47 := Eq.trans (Fr.at (cq := 13032) F1415 kd900 (cd_o (by decide)) (by decide)) eq1243
                    have eq1498 : hp1414 qa47 (zi524 : Int32).toNatClampNeg = .int zi1153 := Eq.trans (Fr.at (cq := 78000) F1415 kd48 (cd_a (by decide)) (by decide)) eq1244
                    have eq1499 : hp1414 qa900 12 = .int zi1155 := Eq.trans (Fr.at (cq := 13012) F1415 kd900 (cd_o (by decide)) (by decide)) eq1245
                    have eq1500 : hp1414 qa900 38 = .int zi1157 := Eq.trans (Fr.at (cq := 13038) F1415 kd900 (cd_o (by decide)) (by decide)) eq1246
                    refine lv_icmp_ge (tgt := 320) hx hb dX12_read_299 (by decide) (fun cn1488 => ?_) (fun cn1488 => ?_)
                    · skip
                      have bd1519 : (40 : Int) ≤ zi1413.toInt ∧ zi1413.toInt ≤ 40 := r_le_y cn1488 bc_40 bd1417 (by decide) (by decide)
                      refine lv_aload_n hx hb dX12_read_320 rfl (lv_at hl 0 rfl) ?_
                      refine lv_iconst (v := 0) hx hb dX12_read_321 (by decide) ?_
                      refine p_put (ci := 12) (v := .int 0) (ty := .int) (C := RX12) (T := TX12) (N := 69) hx hb hT iw_X12 tyX12 tyX12_ok nmX12 hown hK hw hS hW kd900 (by decide) rfl rfl 53 (by decide) (hT _ tb_1427) (fun _ h9 => h9) rfl (by decide +kernel) rfl rfl dX12_read_322 (fun hp1520 eh1521 H locs hw hS => ?_)
                      have ok1522 := wr_13053 bc_0 (by decide) (by decide) ok1416 kd900 eh1521
                      refine lv_aload_n hx hb dX12_read_325 rfl (lv_at hl 0 rfl) ?_
                      refine lv_iconst (v := 0) hx hb dX12_read_326 (by decide) ?_
                      refine p_put (ci := 12) (v := .int 0) (ty := .int) (C := RX12) (T := TX12) (N := 69) hx hb hT iw_X12 tyX12 tyX12_ok nmX12 hown hK hw hS hW kd900 (by decide) rfl rfl 61 (by decide) (hT _ tb_1435) (fun _ h9 => h9) rfl (by decide +kernel) rfl rfl dX12_read_327 (fun hp1523 eh1524 H locs hw hS => ?_)
                      have ok1525 := wr_13061 bc_0 (by decide) (by decide) ok1522 kd900 eh1524
                      refine lv_iconst (v := 0) hx hb dX12_read_330 (by decide) ?_
                      refine lv_istore_n (lv' := [(1, .int 0), (0, .ref qa900)]) hx hb dX12_read_331 rfl hl (by decide) rfl (fun ls hl => ?_)
                      have eq1526 : hp1523 qa900 11 = .int zi1143 := Eq.trans (up_at eh1524 (Or.inr (by decide))) (Eq.trans (up_at eh1521 (Or.inr (by decide))) eq1489)
                      have eq1527 : hp1523 qa900 13 = .int zi1145 := Eq.trans (up_at eh1524 (Or.inr (by decide))) (Eq.trans (up_at eh1521 (Or.inr (by decide))) eq1490)
                      have eq1528 : hp1523 qa900 20 = .int zi1147 := Eq.trans (up_at eh1524 (Or.inr (by decide))) (Eq.trans (up_at eh1521 (Or.inr (by decide))) eq1491)
                      have eq1529 : hp1523 qa900 24 = .ref qa32 := Eq.trans (up_at eh1524 (Or.inr (by decide))) (Eq.trans (up_at eh1521 (Or.inr (by decide))) eq1492)
                      have eq1530 : hp1523 qa900 19 = .int zi524 := Eq.trans (up_at eh1524 (Or.inr (by decide))) (Eq.trans (up_at eh1521 (Or.inr (by decide))) eq1493)
                      have eq1531 : hp1523 qa32 (zi524 : Int32).toNatClampNeg = .int zi1149 := Eq.trans (up_at eh1524 (Or.inl (kd_ne kd33 kd900 (by decide)))) (Eq.trans (up_at eh1521 (Or.inl (kd_ne kd33 kd900 (by decide)))) eq1494)
                      have eq1532 : hp1523 qa900 27 = .ref qa41 := Eq.trans (up_at eh1524 (Or.inr (by decide))) (Eq.trans (up_at eh1521 (Or.inr (by decide))) eq1495)
                      have eq1533 : hp1523 qa41 (zi524 : Int32).toNatClampNeg = .int zi1151 := Eq.trans (up_at eh1524 (Or.inl (kd_ne kd42 kd900 (by decide)))) (Eq.trans (up_at eh1521 (Or.inl (kd_ne kd42 kd900 (by decide)))) eq1496)
                      have eq1534 : hp1523 qa900 32 = .ref qa47 := Eq.trans (up_at eh1524 (Or.inr (by decide))) (Eq.trans (up_at eh1521 (Or.inr (by decide))) eq1497)
                      have eq1535 : hp1523 qa47 (zi524 : Int32).toNatClampNeg = .int zi1153 := Eq.trans (up_at eh1524 (Or.inl (kd_ne kd48 kd900 (by decide)))) (Eq.trans (up_at eh1521 (Or.inl (kd_ne kd48 kd900 (by decide)))) eq1498)
                      have eq1536 : hp1523 qa900 12 = .int zi1155 := Eq.trans (up_at eh1524 (Or.inr (by decide))) (Eq.trans (up_at eh1521 (Or.inr (by decide))) eq1499)
                      have eq1537 : hp1523 qa900 38 = .int zi1157 := Eq.trans (up_at eh1524 (Or.inr (by decide))) (Eq.trans (up_at eh1521 (Or.inr (by decide))) eq1500)
                      have lp1717 : ∀ (n1715 : Nat) (hp1655 : Nat → Nat → Value) (zi1654 : Int32) (H : Heap) (locs : List Loc) (ls : Array Slot), 3 - zi1654.toInt < (n1715 : Int) → Ok K hp1655 → Fr [101000] K hp1523 hp1655 → ((0 : Int) ≤ zi1654.toInt ∧ zi1654.toInt ≤ 3) → lv_has ls 2 [(0, .ref qa900), (1, .int zi1654)] → PW G cy K ln Ls A hp1655 H → va_S A s.heap H locs → W p l e ({ frames := 7, cells := 0, slots := 0, locals := 151 } : Room) s m ([.ref qa900] : List Value).toArray below meth c H locs 0 0 Q (F0 m 332 ls []) := by
                        intro n1715
                        induction n1715 with
                        | zero =>
                          intro hp1655 zi1654 H locs ls hm1718 ok1657 F1656 bd1658 hl hw hS
                          exact absurd hm1718 (by have := bd1658; omega)
                        | succ n1715 ih1716 =>
                          intro hp1655 zi1654 H locs ls hm1718 ok1657 F1656 bd1658 hl hw hS
                          refine lv_iload_n hx hb dX12_read_332 rfl (lv_at hl 1 rfl) ?_
                          refine lv_iconst (v := 3) hx hb dX12_read_333 (by decide) ?_
                          have eq1720 : hp1655 qa900 11 = .int zi1143 := Eq.trans (Fr.at (cq := 13011) F1656 kd900 (cd_o (by decide)) (by decide)) eq1526
                          have eq1721 : hp1655 qa900 13 = .int zi1145 := Eq.trans (Fr.at (cq := 13013) F1656 kd900 (cd_o (by decide)) (by decide)) eq1527
                          have eq1722 : hp1655 qa900 20 = .int zi1147 := Eq.trans (Fr.at (cq := 13020) F1656 kd900 (cd_o (by decide)) (by decide)) eq1528
                          have eq1723 : hp1655 qa900 24 = .ref qa32 := Eq.trans (Fr.at (cq := 13024) F1656 kd900 (cd_o (by decide)) (by decide)) eq1529
                          have eq1724 : hp1655 qa900 19 = .int zi524 := Eq.trans (Fr.at (cq := 13019) F1656 kd900 (cd_o (by decide)) (by decide)) eq1530
                          have eq1725 : hp1655 qa32 (zi524 : Int32).toNatClampNeg = .int zi1149 := Eq.trans (Fr.at (cq := 70000) F1656 kd33 (cd_a (by decide)) (by decide)) eq1531
                          have eq1726 : hp1655 qa900 27 = .ref qa41 := Eq.trans (Fr.at (cq := 13027) F1656 kd900 (cd_o (by decide)) (by decide)) eq1532
                          have eq1727 : hp1655 qa41 (zi524 : Int32).toNatClampNeg = .int zi1151 := Eq.trans (Fr.at (cq := 73000) F1656 kd42 (cd_a (by decide)) (by decide)) eq1533
                          have eq1728 : hp1655 qa900 32 = .ref qa47 := Eq.trans (Fr.at (cq := 13032) F1656 kd900 (cd_o (by decide)) (by decide)) eq1534
                          have eq1729 : hp1655 qa47 (zi524 : Int32).toNatClampNeg = .int zi1153 := Eq.trans (Fr.at (cq := 78000) F1656 kd48 (cd_a (by decide)) (by decide)) eq1535
                          have eq1730 : hp1655 qa900 12 = .int zi1155 := Eq.trans (Fr.at (cq := 13012) F1656 kd900 (cd_o (by decide)) (by decide)) eq1536
                          have eq1731 : hp1655 qa900 38 = .int zi1157 := Eq.trans (Fr.at (cq := 13038) F1656 kd900 (cd_o (by decide)) (by decide)) eq1537
                          refine lv_icmp_ge (tgt := 350) hx hb dX12_read_334 (by decide) (fun cn1719 => ?_) (fun cn1719 => ?_)
                          · skip
                            have bd1745 : (3 : Int) ≤ zi1654.toInt ∧ zi1654.toInt ≤ 3 := r_le_y cn1719 bc_3 bd1658 (by decide) (by decide)
                            refine lv_iconst (v := 0) hx hb dX12_read_350 (by decide) ?_
                            have eq1746 : hp1655 qa900 2 = .int 0 := Eq.trans (Fr.at (cq := 13002) F1656 kd900 (cd_o (by decide)) (by decide)) (Eq.trans (up_at eh1524 (Or.inr (by decide))) (Eq.trans (up_at eh1521 (Or.inr (by decide))) (Eq.trans (Fr.at (cq := 13002) F1415 kd900 (cd_o (by decide)) (by decide)) (Eq.trans (Fr.at (cq := 13002) F1232 kd900 (cd_o (by decide)) (by decide)) (Eq.trans (up_at eh1223 (Or.inr (by decide))) (Eq.trans (up_at eh1195 (Or.inr (by decide))) (Eq.trans (Fr.at (cq := 13002) F1140 kd900 (cd_o (by decide)) (by decide)) (Eq.trans (up_at eh645 (Or.inl (kd_ne kd900 kd9 (by decide)))) (Eq.trans (up_at eh630 (Or.inl (kd_ne kd900 kd6 (by decide)))) (Eq.trans (up_at eh615 (Or.inl (kd_ne kd900 kd9 (by decide)))) (Eq.trans (up_at eh600 (Or.inl (kd_ne kd900 kd6 (by decide)))) (Eq.trans (up_at eh585 (Or.inr (by decide))) (Eq.trans (up_at eh576 (Or.inl (kd_ne kd900 kd573 (by decide)))) (Eq.trans (up_at eh569 (Or.inl (kd_ne kd900 kd48 (by decide)))) (Eq.trans (up_at eh564 (Or.inl (kd_ne kd900 kd561 (by decide)))) (Eq.trans (up_at eh557 (Or.inl (kd_ne kd900 kd42 (by decide)))) (Eq.trans (up_at eh552 (Or.inl (kd_ne kd900 kd549 (by decide)))) (Eq.trans (up_at eh545 (Or.inl (kd_ne kd900 kd542 (by decide)))) (Eq.trans (up_at eh538 (Or.inl (kd_ne kd900 kd33 (by decide)))) (Eq.trans (up_at eh533 (Or.inr (by decide))) (Eq.trans (up_at eh530 (Or.inr (by decide))) (Eq.trans (up_at eh521 (Or.inr (by decide))) (Eq.trans (up_at eh518 (Or.inr (by decide))) (Eq.trans (up_at eh515 (Or.inr (by decide))) (Eq.trans (up_at eh512 (Or.inr (by decide))) (Eq.trans (Fr.at (cq := 13002) F505 kd900 (cd_o (by decide)) (by decide)) (hp_self eh501)))))))))))))))))))))))))))
                            have eq1747 : hp1655 qa900 10 = .int zi508 := Eq.trans (Fr.at (cq := 13010) F1656 kd900 (cd_o (by decide)) (by decide)) (Eq.trans (up_at eh1524 (Or.inr (by decide))) (Eq.trans (up_at eh1521 (Or.inr (by decide))) (Eq.trans (Fr.at (cq := 13010) F1415 kd900 (cd_o (by decide)) (by decide)) (Eq.trans (Fr.at (cq := 13010) F1232 kd900 (cd_o (by decide)) (by decide)) (Eq.trans (up_at eh1223 (Or.inr (by decide))) (Eq.trans (up_at eh1195 (Or.inr (by decide))) (Eq.trans (Fr.at (cq := 13010) F1140 kd900 (cd_o (by decide)) (by decide)) (Eq.trans (up_at eh645 (Or.inl (kd_ne kd900 kd9 (by decide)))) (Eq.trans (up_at eh630 (Or.inl (kd_ne kd900 kd6 (by decide)))) (Eq.trans (up_at eh615 (Or.inl (kd_ne kd900 kd9 (by decide)))) (Eq.trans (up_at eh600 (Or.inl (kd_ne kd900 kd6 (by decide)))) (Eq.trans (up_at eh585 (Or.inr (by decide))) (Eq.trans (up_at eh576 (Or.inl (kd_ne kd900 kd573 (by decide)))) (Eq.trans (up_at eh569 (Or.inl (kd_ne kd900 kd48 (by decide)))) (Eq.trans (up_at eh564 (Or.inl (kd_ne kd900 kd561 (by decide)))) (Eq.trans (up_at eh557 (Or.inl (kd_ne kd900 kd42 (by decide)))) (Eq.trans (up_at eh552 (Or.inl (kd_ne kd900 kd549 (by decide)))) (Eq.trans (up_at eh545 (Or.inl (kd_ne kd900 kd542 (by decide)))) (Eq.trans (up_at eh538 (Or.inl (kd_ne kd900 kd33 (by decide)))) (Eq.trans (up_at eh533 (Or.inr (by decide))) (Eq.trans (up_at eh530 (Or.inr (by decide))) (Eq.trans (up_at eh521 (Or.inr (by decide))) (Eq.trans (up_at eh518 (Or.inr (by decide))) (Eq.trans (up_at eh515 (Or.inr (by decide))) (Eq.trans (up_at eh512 (Or.inr (by decide))) eq509)))))))))))))))))))))))))
                            have pd1748 : LW hp1655 qa900 := LW_fr ok1224 kd900 (show Fr [13053, 13061, 92000, 93000, 101000] K hp1222 hp1655 from (Fr.tr (Fr.put (cq := 13061) (Fr.put (cq := 13053) (Fr.tr (Fr.tr (Fr.rf) F1232 (by decide)) F1415 (by decide)) eh1521 kd900 (cd_o (by decide)) (by decide)) eh1524 kd900 (cd_o (by decide)) (by decide)) F1656 (by decide))) (by decide) lw1225
                            rw [hQ]
                            exact kz_i hx hb hr hlocks hS rfl hp1655 hw ⟨ok1657, (Fr.tr (Fr.put (cq := 13061) (Fr.put (cq := 13053) (Fr.tr (Fr.tr (Fr.put (cq := 13018) (Fr.put (cq := 13017) (Fr.tr (Fr.put (cq := 82000) (Fr.put (cq := 81000) (Fr.put (cq := 82000) (Fr.put (cq := 81000) (Fr.put (cq := 13038) (Fr.put (cq := 83000) (Fr.put (cq := 78000) (Fr.put (cq := 74000) (Fr.put (cq := 73000) (Fr.put (cq := 72000) (Fr.put (cq := 71000) (Fr.put (cq := 70000) (Fr.put (cq := 13020) (Fr.put (cq := 13019) (Fr.put (cq := 13015) (Fr.put (cq := 13013) (Fr.put (cq := 13012) (Fr.put (cq := 13011) (Fr.tr (Fr.put (cq := 13002) (Fr.tr (Fr.put (cq := 13004) (Fr.rf) eh20 kd900 (cd_o (by decide)) (by decide)) F383 (by decide)) eh501 kd900 (cd_o (by decide)) (by decide)) F505 (by decide)) eh512 kd900 (cd_o (by decide)) (by decide)) eh515 kd900 (cd_o (by decide)) (by decide)) eh518 kd900 (cd_o (by decide)) (by decide)) eh521 kd900 (cd_o (by decide)) (by decide)) eh530 kd900 (cd_o (by decide)) (by decide)) eh533 kd900 (cd_o (by decide)) (by decide)) eh538 kd33 (cd_a (by decide)) (by decide)) eh545 kd542 (cd_a (by decide)) (by decide)) eh552 kd549 (cd_a (by decide)) (by decide)) eh557 kd42 (cd_a (by decide)) (by decide)) eh564 kd561 (cd_a (by decide)) (by decide)) eh569 kd48 (cd_a (by decide)) (by decide)) eh576 kd573 (cd_a (by decide)) (by decide)) eh585 kd900 (cd_o (by decide)) (by decide)) eh600 kd6 (cd_a (by decide)) (by decide)) eh615 kd9 (cd_a (by decide)) (by decide)) eh630 kd6 (cd_a (by decide)) (by decide)) eh645 kd9 (cd_a (by decide)) (by decide)) F1140 (by decide)) eh1195 kd900 (cd_o (by decide)) (by decide)) eh1223 kd900 (cd_o (by decide)) (by decide)) F1232 (by decide)) F1415 (by decide)) eh1521 kd900 (cd_o (by decide)) (by decide)) eh1524 kd900 (cd_o (by decide)) (by decide)) F1656 (by decide)), (b_wid2 bc_0 (by decide) (by decide)), ⟨_, eq1746, b_wid2 bc_0 (by decide) (by decide)⟩, ⟨_, eq1747, b_wid2 bd510 (by decide) (by decide)⟩, (pd1748)⟩ (Nat.le_of_ble_eq_true rfl) (Nat.le_of_ble_eq_true rfl) dX12_read_351
                          · skip
                            have bd1749 : (0 : Int) ≤ zi1654.toInt ∧ zi1654.toInt ≤ 2 := r_lt_x (Int32.not_le.mp cn1719) bd1658 bc_3 (by decide) (by decide)
                            refine lv_aload_n hx hb dX12_read_337 rfl (lv_at hl 0 rfl) ?_
                            obtain ⟨qa1751, eq1750, kd1752⟩ := rd_13067 ok1657 kd900
                            refine p_get (ci := 12) (v := .ref qa1751) (C := RX12) (T := TX12) (N := 69) hx hb hT iw_X12 hown hK hw hW kd900 (by decide) rfl rfl 67 (by decide) eq1750 (hT _ tb_1441) (fun _ h9 => h9) dX12_read_338 ?_
                            refine lv_iload_n hx hb dX12_read_341 rfl (lv_at hl 1 rfl) ?_
                            refine lv_iconst (v := 0) hx hb dX12_read_342 (by decide) ?_
                            refine p_zast (x := 0) hx hb hK hw hS hW kd1752 (by decide) rfl (hW.len kd1752 (n := 3) rfl (by decide)) (vp_b bd1749 (by decide) (by decide)) dX12_read_343 (fun hp1753 eh1754 H locs hw hS => ?_)
                            have ok1755 := wr_101000 (nar_z 0) (by decide) (by decide) ok1657 kd1752 eh1754
                            obtain ⟨zi1756, ea1757⟩ : ∃ z : Int32, z = zi1654 + 1 := ⟨_, rfl⟩
                            have bd1758 : (1 : Int) ≤ zi1756.toInt ∧ zi1756.toInt ≤ 3 := b_iadd ea1757 bd1749 bc_1 (by decide) (by decide) (by decide) (by decide)
                            have qe1759 : zi1756.toInt = (zi1654 : Int32).toInt + (1 : Int32).toInt := e_iadd ea1757 bd1749 bc_1 (by decide) (by decide)
                            have qe1760 : zi1756.toInt = zi1654.toInt + 1 := by have ha : (1 : Int32).toInt = 1 := (by decide); rw [ha] at qe1759; exact qe1759
                            refine lv_iinc (v := zi1756) (lv' := [(1, .int zi1756), (0, .ref qa900)]) hx hb dX12_read_344 hl (k := 1) rfl ea1757.symm (by decide) rfl (fun ls hl => ?_)
                            refine lv_goto (tgt := 332) hx hb dX12_read_347 (by decide) ?_
                            have eq1761 : hp1753 qa900 11 = .int zi1143 := Eq.trans (up_at eh1754 (Or.inl (kd_ne kd900 kd1752 (by decide)))) eq1720
                            have eq1762 : hp1753 qa900 13 = .int zi1145 := Eq.trans (up_at eh1754 (Or.inl (kd_ne kd900 kd1752 (by decide)))) eq1721
                            have eq1763 : hp1753 qa900 20 = .int zi1147 := Eq.trans (up_at eh1754 (Or.inl (kd_ne kd900 kd1752 (by decide)))) eq1722
                            have eq1764 : hp1753 qa900 24 = .ref qa32 := Eq.trans (up_at eh1754 (Or.inl (kd_ne kd900 kd1752 (by decide)))) eq1723
                            have eq1765 : hp1753 qa900 19 = .int zi524 := Eq.trans (up_at eh1754 (Or.inl (kd_ne kd900 kd1752 (by decide)))) eq1724
                            have eq1766 : hp1753 qa32 (zi524 : Int32).toNatClampNeg = .int zi1149 := Eq.trans (up_at eh1754 (Or.inl (kd_ne kd33 kd1752 (by decide)))) eq1725
                            have eq1767 : hp1753 qa900 27 = .ref qa41 := Eq.trans (up_at eh1754 (Or.inl (kd_ne kd900 kd1752 (by decide)))) eq1726
                            have eq1768 : hp1753 qa41 (zi524 : Int32).toNatClampNeg = .int zi1151 := Eq.trans (up_at eh1754 (Or.inl (kd_ne kd42 kd1752 (by decide)))) eq1727
                            have eq1769 : hp1753 qa900 32 = .ref qa47 := Eq.trans (up_at eh1754 (Or.inl (kd_ne kd900 kd1752 (by decide)))) eq1728
                            have eq1770 : hp1753 qa47 (zi524 : Int32).toNatClampNeg = .int zi1153 := Eq.trans (up_at eh1754 (Or.inl (kd_ne kd48 kd1752 (by decide)))) eq1729
                            have eq1771 : hp1753 qa900 12 = .int zi1155 := Eq.trans (up_at eh1754 (Or.inl (kd_ne kd900 kd1752 (by decide)))) eq1730
                            have eq1772 : hp1753 qa900 38 = .int zi1157 := Eq.trans (up_at eh1754 (Or.inl (kd_ne kd900 kd1752 (by decide)))) eq1731
                            exact ih1716 hp1753 zi1756 _ _ ls (by have := hm1718; have := qe1760; omega) ok1755 (Fr.put (cq := 101000) (Fr.tr (Fr.rf) F1656 (by decide)) eh1754 kd1752 (cd_a (by decide)) (by decide)) (b_wid2 bd1758 (by decide) (by decide)) (lv_sub hl [1, 0] rfl) hw hS
                      exact lp1717 _ hp1523 0 _ _ ls (lp_in _) ok1525 (Fr.rf) (b_wid2 bc_0 (by decide) (by decide)) (lv_sub hl [1, 0] rfl) hw hS
                    · skip
                      have bd1773 : (0 : Int) ≤ zi1413.toInt ∧ zi1413.toInt ≤ 39 := r_lt_x (Int32.not_le.mp cn1488) bd1417 bc_40 (by decide) (by decide)
                      refine lv_aload_n hx hb dX12_read_302 rfl (lv_at hl 0 rfl) ?_
                      obtain ⟨qa1775, eq1774, kd1776⟩ := rd_13049 ok1416 kd900
                      refine p_get (ci := 12) (v := .ref qa1775) (C := RX12) (T := TX12) (N := 69) hx hb hT iw_X12 hown hK hw hW kd900 (by decide) rfl rfl 49 (by decide) eq1774 (hT _ tb_1423) (fun _ h9 => h9) dX12_read_303 ?_
                      refine lv_iload_n hx hb dX12_read_306 rfl (lv_at hl 1 rfl) ?_
                      refine lv_aload_n hx hb dX12_read_307 rfl (lv_at hl 0 rfl) ?_
                      obtain ⟨qa1778, eq1777, kd1779⟩ := rd_13050 ok1416 kd900
                      refine p_get (ci := 12) (v := .ref qa1778) (C := RX12) (T := TX12) (N := 69) hx hb hT iw_X12 hown hK hw hW kd900 (by decide) rfl rfl 50 (by decide) eq1777 (hT _ tb_1424) (fun _ h9 => h9) dX12_read_308 ?_
                      refine lv_iload_n hx hb dX12_read_311 rfl (lv_at hl 1 rfl) ?_
                      obtain ⟨zi1781, eq1780⟩ := rd_93000 ok1416 kd1779 ((zi1413 : Int32).toNatClampNeg)
                      refine p_iald (v := zi1781) hx hb hK hw hW kd1779 (by decide) rfl (hW.len kd1779 (n := 40) rfl (by decide)) (vp_b bd1773 (by decide) (by decide)) eq1780 dX12_read_312 ?_
                      refine p_iast (x := zi1781) hx hb hK hw hS hW kd1776 (by decide) rfl (hW.len kd1776 (n := 40) rfl (by decide)) (vp_b bd1773 (by decide) (by decide)) dX12_read_313 (fun hp1782 eh1783 H locs hw hS => ?_)
                      have ok1784 := wr_92000 ok1416 kd1776 eh1783
                      obtain ⟨zi1785, ea1786⟩ : ∃ z : Int32, z = zi1413 + 1 := ⟨_, rfl⟩
                      have bd1787 : (1 : Int) ≤ zi1785.toInt ∧ zi1785.toInt ≤ 40 := b_iadd ea1786 bd1773 bc_1 (by decide) (by decide) (by decide) (by decide)
                      have qe1788 : zi1785.toInt = (zi1413 : Int32).toInt + (1 : Int32).toInt := e_iadd ea1786 bd1773 bc_1 (by decide) (by decide)
                      have qe1789 : zi1785.toInt = zi1413.toInt + 1 := by have ha : (1 : Int32).toInt = 1 := (by decide); rw [ha] at qe1788; exact qe1788
                      refine lv_iinc (v := zi1785) (lv' := [(1, .int zi1785), (0, .ref qa900)]) hx hb dX12_read_314 hl (k := 1) rfl ea1786.symm (by decide) rfl (fun ls hl => ?_)
                      refine lv_goto (tgt := 296) hx hb dX12_read_317 (by decide) ?_
                      have eq1790 : hp1782 qa900 11 = .int zi1143 := Eq.trans (up_at eh1783 (Or.inl (kd_ne kd900 kd1776 (by decide)))) eq1489
                      have eq1791 : hp1782 qa900 13 = .int zi1145 := Eq.trans (up_at eh1783 (Or.inl (kd_ne kd900 kd1776 (by decide)))) eq1490
                      have eq1792 : hp1782 qa900 20 = .int zi1147 := Eq.trans (up_at eh1783 (Or.inl (kd_ne kd900 kd1776 (by decide)))) eq1491
                      have eq1793 : hp1782 qa900 24 = .ref qa32 := Eq.trans (up_at eh1783 (Or.inl (kd_ne kd900 kd1776 (by decide)))) eq1492
                      have eq1794 : hp1782 qa900 19 = .int zi524 := Eq.trans (up_at eh1783 (Or.inl (kd_ne kd900 kd1776 (by decide)))) eq1493
                      have eq1795 : hp1782 qa32 (zi524 : Int32).toNatClampNeg = .int zi1149 := Eq.trans (up_at eh1783 (Or.inl (kd_ne kd33 kd1776 (by decide)))) eq1494
                      have eq1796 : hp1782 qa900 27 = .ref qa41 := Eq.trans (up_at eh1783 (Or.inl (kd_ne kd900 kd1776 (by decide)))) eq1495
                      have eq1797 : hp1782 qa41 (zi524 : Int32).toNatClampNeg = .int zi1151 := Eq.trans (up_at eh1783 (Or.inl (kd_ne kd42 kd1776 (by decide)))) eq1496
                      have eq1798 : hp1782 qa900 32 = .ref qa47 := Eq.trans (up_at eh1783 (Or.inl (kd_ne kd900 kd1776 (by decide)))) eq1497
                      have eq1799 : hp1782 qa47 (zi524 : Int32).toNatClampNeg = .int zi1153 := Eq.trans (up_at eh1783 (Or.inl (kd_ne kd48 kd1776 (by decide)))) eq1498
                      have eq1800 : hp1782 qa900 12 = .int zi1155 := Eq.trans (up_at eh1783 (Or.inl (kd_ne kd900 kd1776 (by decide)))) eq1499
                      have eq1801 : hp1782 qa900 38 = .int zi1157 := Eq.trans (up_at eh1783 (Or.inl (kd_ne kd900 kd1776 (by decide)))) eq1500
                      exact ih1485 hp1782 zi1785 _ _ ls (by have := hm1487; have := qe1789; omega) ok1784 (Fr.put (cq := 92000) (Fr.tr (Fr.rf) F1415 (by decide)) eh1783 kd1776 (cd_a (by decide)) (by decide)) (b_wid2 bd1787 (by decide) (by decide)) (lv_sub hl [1, 0] rfl) hw hS
                exact lp1486 _ hp1230 0 _ _ ls (lp_in _) ok1231 (Fr.rf) (b_wid2 bc_0 (by decide) (by decide)) (lv_sub hl [1, 0] rfl) hw hS
              · skip
                have bd1802 : (1 : Int) ≤ zi1212.toInt ∧ zi1212.toInt ≤ 2147483647 := r_lt_y (Int32.not_le.mp cn1213) bc_0 (b_all zi1212) (by decide) (by decide)
                refine lv_aload_n hx hb dX12_read_277 rfl (lv_at hl 0 rfl) ?_
                refine p_get (ci := 12) (v := .int zi1212) (C := RX12) (T := TX12) (N := 69) hx hb hT iw_X12 hown hK hw hW kd900 (by decide) rfl rfl 15 (by decide) eq1211 (hT _ tb_1389) (fun _ h9 => h9) dX12_read_278 ?_
                have eq1803 : hp1194 qa900 2 = .int 0 := Eq.trans (up_at eh1195 (Or.inr (by decide))) (Eq.trans (Fr.at (cq := 13002) F1140 kd900 (cd_o (by decide)) (by decide)) (Eq.trans (up_at eh645 (Or.inl (kd_ne kd900 kd9 (by decide)))) (Eq.trans (up_at eh630 (Or.inl (kd_ne kd900 kd6 (by decide)))) (Eq.trans (up_at eh615 (Or.inl (kd_ne kd900 kd9 (by decide)))) (Eq.trans (up_at eh600 (Or.inl (kd_ne kd900 kd6 (by decide)))) (Eq.trans (up_at eh585 (Or.inr (by decide))) (Eq.trans (up_at eh576 (Or.inl (kd_ne kd900 kd573 (by decide)))) (Eq.trans (up_at eh569 (Or.inl (kd_ne kd900 kd48 (by decide)))) (Eq.trans (up_at eh564 (Or.inl (kd_ne kd900 kd561 (by decide)))) (Eq.trans (up_at eh557 (Or.inl (kd_ne kd900 kd42 (by decide)))) (Eq.trans (up_at eh552 (Or.inl (kd_ne kd900 kd549 (by decide)))) (Eq.trans (up_at eh545 (Or.inl (kd_ne kd900 kd542 (by decide)))) (Eq.trans (up_at eh538 (Or.inl (kd_ne kd900 kd33 (by decide)))) (Eq.trans (up_at eh533 (Or.inr (by decide))) (Eq.trans (up_at eh530 (Or.inr (by decide))) (Eq.trans (up_at eh521 (Or.inr (by decide))) (Eq.trans (up_at eh518 (Or.inr (by decide))) (Eq.trans (up_at eh515 (Or.inr (by decide))) (Eq.trans (up_at eh512 (Or.inr (by decide))) (Eq.trans (Fr.at (cq := 13002) F505 kd900 (cd_o (by decide)) (by decide)) (hp_self eh501)))))))))))))))))))))
                have eq1804 : hp1194 qa900 10 = .int zi508 := Eq.trans (up_at eh1195 (Or.inr (by decide))) (Eq.trans (Fr.at (cq := 13010) F1140 kd900 (cd_o (by decide)) (by decide)) (Eq.trans (up_at eh645 (Or.inl (kd_ne kd900 kd9 (by decide)))) (Eq.trans (up_at eh630 (Or.inl (kd_ne kd900 kd6 (by decide)))) (Eq.trans (up_at eh615 (Or.inl (kd_ne kd900 kd9 (by decide)))) (Eq.trans (up_at eh600 (Or.inl (kd_ne kd900 kd6 (by decide)))) (Eq.trans (up_at eh585 (Or.inr (by decide))) (Eq.trans (up_at eh576 (Or.inl (kd_ne kd900 kd573 (by decide)))) (Eq.trans (up_at eh569 (Or.inl (kd_ne kd900 kd48 (by decide)))) (Eq.trans (up_at eh564 (Or.inl (kd_ne kd900 kd561 (by decide)))) (Eq.trans (up_at eh557 (Or.inl (kd_ne kd900 kd42 (by decide)))) (Eq.trans (up_at eh552 (Or.inl (kd_ne kd900 kd549 (by decide)))) (Eq.trans (up_at eh545 (Or.inl (kd_ne kd900 kd542 (by decide)))) (Eq.trans (up_at eh538 (Or.inl (kd_ne kd900 kd33 (by decide)))) (Eq.trans (up_at eh533 (Or.inr (by decide))) (Eq.trans (up_at eh530 (Or.inr (by decide))) (Eq.trans (up_at eh521 (Or.inr (by decide))) (Eq.trans (up_at eh518 (Or.inr (by decide))) (Eq.trans (up_at eh515 (Or.inr (by decide))) (Eq.trans (up_at eh512 (Or.inr (by decide))) eq509)))))))))))))))))))
                have pd1805 : LW hp1194 qa900 := LW_fr ok1141 kd900 (show Fr [13017] K hp1139 hp1194 from (Fr.put (cq := 13017) (Fr.rf) eh1195 kd900 (cd_o (by decide)) (by decide))) (by decide) jx1161
                rw [hQ]
                exact kz_i hx hb hr hlocks hS rfl hp1194 hw ⟨ok1196, (Fr.put (cq := 13017) (Fr.tr (Fr.put (cq := 82000) (Fr.put (cq := 81000) (Fr.put (cq := 82000) (Fr.put (cq := 81000) (Fr.put (cq := 13038) (Fr.put (cq := 83000) (Fr.put (cq := 78000) (Fr.put (cq := 74000) (Fr.put (cq := 73000) (Fr.put (cq := 72000) (Fr.put (cq := 71000) (Fr.put (cq := 70000) (Fr.put (cq := 13020) (Fr.put (cq := 13019) (Fr.put (cq := 13015) (Fr.put (cq := 13013) (Fr.put (cq := 13012) (Fr.put (cq := 13011) (Fr.tr (Fr.put (cq := 13002) (Fr.tr (Fr.put (cq := 13004) (Fr.rf) eh20 kd900 (cd_o (by decide)) (by decide)) F383 (by decide)) eh501 kd900 (cd_o (by decide)) (by decide)) F505 (by decide)) eh512 kd900 (cd_o (by decide)) (by decide)) eh515 kd900 (cd_o (by decide)) (by decide)) eh518 kd900 (cd_o (by decide)) (by decide)) eh521 kd900 (cd_o (by decide)) (by decide)) eh530 kd900 (cd_o (by decide)) (by decide)) eh533 kd900 (cd_o (by decide)) (by decide)) eh538 kd33 (cd_a (by decide)) (by decide)) eh545 kd542 (cd_a (by decide)) (by decide)) eh552 kd549 (cd_a (by decide)) (by decide)) eh557 kd42 (cd_a (by decide)) (by decide)) eh564 kd561 (cd_a (by decide)) (by decide)) eh569 kd48 (cd_a (by decide)) (by decide)) eh576 kd573 (cd_a (by decide)) (by decide)) eh585 kd900 (cd_o (by decide)) (by decide)) eh600 kd6 (cd_a (by decide)) (by decide)) eh615 kd9 (cd_a (by decide)) (by decide)) eh630 kd6 (cd_a (by decide)) (by decide)) eh645 kd9 (cd_a (by decide)) (by decide)) F1140 (by decide)) eh1195 kd900 (cd_o (by decide)) (by decide)), (b_wid2 bd1802 (by decide) (by decide)), ⟨_, eq1803, b_wid2 bc_0 (by decide) (by decide)⟩, ⟨_, eq1804, b_wid2 bd510 (by decide) (by decide)⟩, (pd1805)⟩ (Nat.le_of_ble_eq_true rfl) (Nat.le_of_ble_eq_true rfl) dX12_read_281
            · skip
              have bd1806 : (1 : Int) ≤ zi1145.toInt ∧ zi1145.toInt ≤ 2 := r_lt_y (Int32.not_le.mp cn1198) bc_0 bd1164 (by decide) (by decide)
              refine lv_aload_n hx hb dX12_read_265 rfl (lv_at hl 0 rfl) ?_
              refine p_get (ci := 12) (v := .int zi1145) (C := RX12) (T := TX12) (N := 69) hx hb hT iw_X12 hown hK hw hW kd900 (by decide) rfl rfl 13 (by decide) eq1197 (hT _ tb_1387) (fun _ h9 => h9) dX12_read_266 ?_
              have eq1807 : hp1194 qa900 2 = .int 0 := Eq.trans (up_at eh1195 (Or.inr (by decide))) (Eq.trans (Fr.at (cq := 13002) F1140 kd900 (cd_o (by decide)) (by decide)) (Eq.trans (up_at eh645 (Or.inl (kd_ne kd900 kd9 (by decide)))) (Eq.trans (up_at eh630 (Or.inl (kd_ne kd900 kd6 (by decide)))) (Eq.trans (up_at eh615 (Or.inl (kd_ne kd900 kd9 (by decide)))) (Eq.trans (up_at eh600 (Or.inl (kd_ne kd900 kd6 (by decide)))) (Eq.trans (up_at eh585 (Or.inr (by decide))) (Eq.trans (up_at eh576 (Or.inl (kd_ne kd900 kd573 (by decide)))) (Eq.trans (up_at eh569 (Or.inl (kd_ne kd900 kd48 (by decide)))) (Eq.trans (up_at eh564 (Or.inl (kd_ne kd900 kd561 (by decide)))) (Eq.trans (up_at eh557 (Or.inl (kd_ne kd900 kd42 (by decide)))) (Eq.trans (up_at eh552 (Or.inl (kd_ne kd900 kd549 (by decide)))) (Eq.trans (up_at eh545 (Or.inl (kd_ne kd900 kd542 (by decide)))) (Eq.trans (up_at eh538 (Or.inl (kd_ne kd900 kd33 (by decide)))) (Eq.trans (up_at eh533 (Or.inr (by decide))) (Eq.trans (up_at eh530 (Or.inr (by decide))) (Eq.trans (up_at eh521 (Or.inr (by decide))) (Eq.trans (up_at eh518 (Or.inr (by decide))) (Eq.trans (up_at eh515 (Or.inr (by decide))) (Eq.trans (up_at eh512 (Or.inr (by decide))) (Eq.trans (Fr.at (cq := 13002) F505 kd900 (cd_o (by decide)) (by decide)) (hp_self eh501)))))))))))))))))))))
              have eq1808 : hp1194 qa900 10 = .int zi508 := Eq.trans (up_at eh1195 (Or.inr (by decide))) (Eq.trans (Fr.at (cq := 13010) F1140 kd900 (cd_o (by decide)) (by decide)) (Eq.trans (up_at eh645 (Or.inl (kd_ne kd900 kd9 (by decide)))) (Eq.trans (up_at eh630 (Or.inl (kd_ne kd900 kd6 (by decide)))) (Eq.trans (up_at eh615 (Or.inl (kd_ne kd900 kd9 (by decide)))) (Eq.trans (up_at eh600 (Or.inl (kd_ne kd900 kd6 (by decide)))) (Eq.trans (up_at eh585 (Or.inr (by decide))) (Eq.trans (up_at eh576 (Or.inl (kd_ne kd900 kd573 (by decide)))) (Eq.trans (up_at eh569 (Or.inl (kd_ne kd900 kd48 (by decide)))) (Eq.trans (up_at eh564 (Or.inl (kd_ne kd900 kd561 (by decide)))) (Eq.trans (up_at eh557 (Or.inl (kd_ne kd900 kd42 (by decide)))) (Eq.trans (up_at eh552 (Or.inl (kd_ne kd900 kd549 (by decide)))) (Eq.trans (up_at eh545 (Or.inl (kd_ne kd900 kd542 (by decide)))) (Eq.trans (up_at eh538 (Or.inl (kd_ne kd900 kd33 (by decide)))) (Eq.trans (up_at eh533 (Or.inr (by decide))) (Eq.trans (up_at eh530 (Or.inr (by decide))) (Eq.trans (up_at eh521 (Or.inr (by decide))) (Eq.trans (up_at eh518 (Or.inr (by decide))) (Eq.trans (up_at eh515 (Or.inr (by decide))) (Eq.trans (up_at eh512 (Or.inr (by decide))) eq509)))))))))))))))))))
              have pd1809 : LW hp1194 qa900 := LW_fr ok1141 kd900 (show Fr [13017] K hp1139 hp1194 from (Fr.put (cq := 13017) (Fr.rf) eh1195 kd900 (cd_o (by decide)) (by decide))) (by decide) jx1161
              rw [hQ]
              exact kz_i hx hb hr hlocks hS rfl hp1194 hw ⟨ok1196, (Fr.put (cq := 13017) (Fr.tr (Fr.put (cq := 82000) (Fr.put (cq := 81000) (Fr.put (cq := 82000) (Fr.put (cq := 81000) (Fr.put (cq := 13038) (Fr.put (cq := 83000) (Fr.put (cq := 78000) (Fr.put (cq := 74000) (Fr.put (cq := 73000) (Fr.put (cq := 72000) (Fr.put (cq := 71000) (Fr.put (cq := 70000) (Fr.put (cq := 13020) (Fr.put (cq := 13019) (Fr.put (cq := 13015) (Fr.put (cq := 13013) (Fr.put (cq := 13012) (Fr.put (cq := 13011) (Fr.tr (Fr.put (cq := 13002) (Fr.tr (Fr.put (cq := 13004) (Fr.rf) eh20 kd900 (cd_o (by decide)) (by decide)) F383 (by decide)) eh501 kd900 (cd_o (by decide)) (by decide)) F505 (by decide)) eh512 kd900 (cd_o (by decide)) (by decide)) eh515 kd900 (cd_o (by decide)) (by decide)) eh518 kd900 (cd_o (by decide)) (by decide)) eh521 kd900 (cd_o (by decide)) (by decide)) eh530 kd900 (cd_o (by decide)) (by decide)) eh533 kd900 (cd_o (by decide)) (by decide)) eh538 kd33 (cd_a (by decide)) (by decide)) eh545 kd542 (cd_a (by decide)) (by decide)) eh552 kd549 (cd_a (by decide)) (by decide)) eh557 kd42 (cd_a (by decide)) (by decide)) eh564 kd561 (cd_a (by decide)) (by decide)) eh569 kd48 (cd_a (by decide)) (by decide)) eh576 kd573 (cd_a (by decide)) (by decide)) eh585 kd900 (cd_o (by decide)) (by decide)) eh600 kd6 (cd_a (by decide)) (by decide)) eh615 kd9 (cd_a (by decide)) (by decide)) eh630 kd6 (cd_a (by decide)) (by decide)) eh645 kd9 (cd_a (by decide)) (by decide)) F1140 (by decide)) eh1195 kd900 (cd_o (by decide)) (by decide)), (b_wid2 bd1806 (by decide) (by decide)), ⟨_, eq1807, b_wid2 bc_0 (by decide) (by decide)⟩, ⟨_, eq1808, b_wid2 bd510 (by decide) (by decide)⟩, (pd1809)⟩ (Nat.le_of_ble_eq_true rfl) (Nat.le_of_ble_eq_true rfl) dX12_read_269
          refine lv_if_le (tgt := 240) hx hb dX12_read_230 (by decide) (fun cn1176 => ?_) (fun cn1176 => ?_)
          · skip
            have bd1810 : (0 : Int) ≤ zi1145.toInt ∧ zi1145.toInt ≤ 0 := r_le_x cn1176 bd1164 bc_0 (by decide) (by decide)
            refine lv_aload_n hx hb dX12_read_240 rfl (lv_at hl 0 rfl) ?_
            obtain ⟨zi1812, eq1811⟩ := rd_13015 ok1141 kd900
            refine p_get (ci := 12) (v := .int zi1812) (C := RX12) (T := TX12) (N := 69) hx hb hT iw_X12 hown hK hw hW kd900 (by decide) rfl rfl 15 (by decide) eq1811 (hT _ tb_1389) (fun _ h9 => h9) dX12_read_241 ?_
            refine lv_if_le (tgt := 254) hx hb dX12_read_244 (by decide) (fun cn1813 => ?_) (fun cn1813 => ?_)
            · skip
              have bd1814 : (-2147483648 : Int) ≤ zi1812.toInt ∧ zi1812.toInt ≤ 0 := r_le_x cn1813 (b_all zi1812) bc_0 (by decide) (by decide)
              refine lv_iconst (v := (-1)) hx hb dX12_read_254 (by decide) ?_
              exact jn1193 ((-1)) _ _ ls (lv_sub hl [0] rfl) hw hS
            · skip
              have bd1815 : (1 : Int) ≤ zi1812.toInt ∧ zi1812.toInt ≤ 2147483647 := r_lt_y (Int32.not_le.mp cn1813) bc_0 (b_all zi1812) (by decide) (by decide)
              refine lv_aload_n hx hb dX12_read_247 rfl (lv_at hl 0 rfl) ?_
              obtain ⟨zi1817, eq1816⟩ := rd_13016 ok1141 kd900
              refine p_get (ci := 12) (v := .int zi1817) (C := RX12) (T := TX12) (N := 69) hx hb hT iw_X12 hown hK hw hW kd900 (by decide) rfl rfl 16 (by decide) eq1816 (hT _ tb_1390) (fun _ h9 => h9) dX12_read_248 ?_
              refine lv_goto (tgt := 255) hx hb dX12_read_251 (by decide) ?_
              exact jn1193 zi1817 _ _ ls (lv_sub hl [0] rfl) hw hS
          · skip
            have bd1818 : (1 : Int) ≤ zi1145.toInt ∧ zi1145.toInt ≤ 2 := r_lt_y (Int32.not_le.mp cn1176) bc_0 bd1164 (by decide) (by decide)
            refine lv_aload_n hx hb dX12_read_233 rfl (lv_at hl 0 rfl) ?_
            obtain ⟨zi1820, eq1819⟩ := rd_13014 ok1141 kd900
            refine p_get (ci := 12) (v := .int zi1820) (C := RX12) (T := TX12) (N := 69) hx hb hT iw_X12 hown hK hw hW kd900 (by decide) rfl rfl 14 (by decide) eq1819 (hT _ tb_1388) (fun _ h9 => h9) dX12_read_234 ?_
            refine lv_goto (tgt := 255) hx hb dX12_read_237 (by decide) ?_
            exact jn1193 zi1820 _ _ ls (lv_sub hl [0] rfl) hw hS
        have lp1823 : ∀ (n1821 : Nat) (hp955 : Nat → Nat → Value) (zi959 : Int32) (zi961 : Int32) (zi963 : Int32) (zi965 : Int32) (zi967 : Int32) (zi969 : Int32) (zi971 : Int32) (zi973 : Int32) (H : Heap) (locs : List Loc) (ls : Array Slot), 1602 - 4*zi959.toInt - zi961.toInt < (n1821 : Int) → Ok K hp955 → Fr [13011, 13012, 13013, 13014, 13015, 13016, 13020, 13038, 13045, 67000, 68000, 69000, 70000, 71000, 72000, 73000, 74000, 75000, 76000, 77000, 78000, 79000, 80000, 81000, 82000, 83000, 84000, 85000, 86000, 87000, 88000, 89000] K hp644 hp955 → ((0 : Int) ≤ zi959.toInt ∧ zi959.toInt ≤ 400) → hp955 qa900 11 = .int zi959 → ((0 : Int) ≤ zi961.toInt ∧ zi961.toInt ≤ 2) → hp955 qa900 13 = .int zi961 → ((0 : Int) ≤ zi963.toInt ∧ zi963.toInt ≤ 24) → hp955 qa900 20 = .int zi963 → ((0 : Int) ≤ zi965.toInt ∧ zi965.toInt ≤ 6) → hp955 qa32 (zi524 : Int32).toNatClampNeg = .int zi965 → ((0 : Int) ≤ zi967.toInt ∧ zi967.toInt ≤ 6) → hp955 qa41 (zi524 : Int32).toNatClampNeg = .int zi967 → ((0 : Int) ≤ zi969.toInt ∧ zi969.toInt ≤ 8) → hp955 qa47 (zi524 : Int32).toNatClampNeg = .int zi969 → ((0 : Int) ≤ zi971.toInt ∧ zi971.toInt ≤ 7) → hp955 qa900 12 = .int zi971 → ((0 : Int) ≤ zi973.toInt ∧ zi973.toInt ≤ 840) → hp955 qa900 38 = .int zi973 → (zi971.toInt ≤ 7*zi961.toInt) → (zi963.toInt ≤ zi965.toInt + zi967.toInt + zi969.toInt) → (zi973.toInt ≤ 420*zi524.toInt + zi959.toInt + zi961.toInt) → (LW hp955 qa900) → (gi hp955 qa900 13 = 0 → LPx hp955 qa900) → lv_has ls 2 [(0, .ref qa900)] → PW G cy K ln Ls A hp955 H → va_S A s.heap H locs → W p l e ({ frames := 7, cells := 0, slots := 0, locals := 151 } : Room) s m ([.ref qa900] : List Value).toArray below meth c H locs 0 0 Q (F0 m 203 ls []) := by
          intro n1821
          induction n1821 with
          | zero =>
            intro hp955 zi959 zi961 zi963 zi965 zi967 zi969 zi971 zi973 H locs ls hm1824 ok957 F956 bd979 eq958 bd980 eq960 bd981 eq962 bd982 eq964 bd983 eq966 bd984 eq968 bd985 eq970 bd986 eq972 rq974 rq975 rq976 jx977 jx978 hl hw hS
            exact absurd hm1824 (by omega)
          | succ n1821 ih1822 =>
            intro hp955 zi959 zi961 zi963 zi965 zi967 zi969 zi971 zi973 H locs ls hm1824 ok957 F956 bd979 eq958 bd980 eq960 bd981 eq962 bd982 eq964 bd983 eq966 bd984 eq968 bd985 eq970 bd986 eq972 rq974 rq975 rq976 jx977 jx978 hl hw hS
            refine lv_aload_n hx hb dX12_read_203 rfl (lv_at hl 0 rfl) ?_
            refine p_get (ci := 12) (v := .int zi961) (C := RX12) (T := TX12) (N := 69) hx hb hT iw_X12 hown hK hw hW kd900 (by decide) rfl rfl 13 (by decide) eq960 (hT _ tb_1387) (fun _ h9 => h9) dX12_read_204 ?_
            have eq1830 : hp955 qa900 24 = .ref qa32 := Eq.trans (Fr.at (cq := 13024) F956 kd900 (cd_o (by decide)) (by decide)) eq662
            have eq1831 : hp955 qa900 19 = .int zi524 := Eq.trans (Fr.at (cq := 13019) F956 kd900 (cd_o (by decide)) (by decide)) eq655
            have eq1832 : hp955 qa900 27 = .ref qa41 := Eq.trans (Fr.at (cq := 13027) F956 kd900 (cd_o (by decide)) (by decide)) eq664
            have eq1833 : hp955 qa900 32 = .ref qa47 := Eq.trans (Fr.at (cq := 13032) F956 kd900 (cd_o (by decide)) (by decide)) eq666
            refine lv_if_ne (tgt := 225) hx hb dX12_read_207 (by decide) (fun cn1829 => ?_) (fun cn1829 => ?_)
            · skip
              have tf1834 : (zi961 : Int32).toInt ≠ (0 : Int32).toInt := fun e => cn1829 (Int32.toInt_inj.mp e)
              have := toi bc_0
              have bd1835 : (1 : Int) ≤ zi961.toInt ∧ zi961.toInt ≤ 2 := r_ne_lo cn1829 bd980 (toi bc_0) (by decide) (by decide)
              exact jn1175 hp955 zi959 zi961 zi963 zi965 zi967 zi969 zi971 zi973 _ _ ls ok957 (Fr.tr (Fr.rf) F956 (by decide)) (b_wid2 bd979 (by decide) (by decide)) eq958 (b_wid2 bd1835 (by decide) (by decide)) eq960 (b_wid2 bd981 (by decide) (by decide)) eq962 (b_wid2 bd982 (by decide) (by decide)) eq964 (b_wid2 bd983 (by decide) (by decide)) eq966 (b_wid2 bd984 (by decide) (by decide)) eq968 (b_wid2 bd985 (by decide) (by decide)) eq970 (b_wid2 bd986 (by decide) (by decide)) eq972 (by omega) (by omega) (by omega) jx977 jx978 (lv_sub hl [0] rfl) hw hS
            · skip
              have bd1836 : (0 : Int) ≤ zi961.toInt ∧ zi961.toInt ≤ 0 := r_eq_x cn1829 bd980 bc_0 (by decide) (by decide)
              refine lv_aload_n hx hb dX12_read_210 rfl (lv_at hl 0 rfl) ?_
              refine lv_iconst (v := 0) hx hb dX12_read_211 (by decide) ?_
              obtain ⟨qa1838, eq1837, kd1839⟩ := rd_13005 ok957 kd900
              obtain ⟨zi1841, eq1840⟩ := rd_62000 ok957 kd1839 ((zi959 : Int32).toNatClampNeg)
              refine kq_i hw hS hA (va_runV (As := [.int 0]) (rest := []) ⟨hx, hb, hml, hown, hT⟩ (cX12_is_0 l G cy ev K ln Ls hW _ hp955 ok957 qa900 0 kd900) (cwV 1 hT (good_V tb_1623 tb_1620 tb_1622 tb_52 tb_122) rfl rfl rfl (by decide +kernel) ⟨Nat.le_of_ble_eq_true rfl, Nat.le_of_ble_eq_true rfl⟩) (pool_preV (ci := 12) hK hE hS hA hw hW kd900 (by decide) rfl) rfl rfl hl.1 rfl (lv_room (Nat.le_of_ble_eq_true rfl)) dX12_read_212 ⟨Nat.le_of_ble_eq_true rfl, Nat.le_of_ble_eq_true rfl⟩) (fun zi1846 hp1842 H locs hq1845 hw hS => ?_)
              obtain ⟨ok1843, F1844, bd1847, hc1848, rh1849, rh1850, rh1851⟩ := hq1845
              obtain rfl : hp955 = hp1842 := (Fr.nil F1844).symm
              have hw : PW G cy K ln Ls A hp955 H := hw
              rcases b01 bd1847 with cn1852 | cn1852
              · skip
                subst cn1852
                have rh1853 := rh1851 rfl
                simp only [ge_of eq1837 eq958 eq1840, gi_of eq960, toi bc_0] at rh1853
                refine lv_if_ne (tgt := 225) hx hb dX12_read_215 (by decide) (fun c => absurd (d_eq bc_0 bc_0) c) (fun _ => ?_)
                have lp1854 : LPx hp955 qa900 := jx978 (by rw [gi_of eq960]; omega)
                refine lv_aload_n hx hb dX12_read_218 rfl (lv_at hl 0 rfl) ?_
                refine kq_v hw hS hA (va_runV (As := []) (rest := []) ⟨hx, hb, hml, hown, hT⟩ (cX12_tell_0 l G cy ev K ln Ls hW _ hp955 ok957 qa900 kd900 (by simp only [ge_of eq1833 eq1831 eq968, ge_of eq1830 eq1831 eq964, gi_of eq962, ge_of eq1832 eq1831 eq966]; omega) (by simp only [gi_of eq970]; omega) (by simp only [gi_of eq960]; omega) (by simp only [gi_of eq972, gi_of eq960, gi_of eq1831, gi_of eq958]; omega) lp1854) (cwV 0 hT (good_V tb_1627 tb_1624 tb_1626 tb_53 tb_122) rfl rfl rfl (by decide +kernel) ⟨Nat.le_of_ble_eq_true rfl, Nat.le_of_ble_eq_true rfl⟩) (pool_preV (ci := 12) hK hE hS hA hw hW kd900 (by decide) rfl) rfl rfl hl.1 rfl (lv_room (Nat.le_of_ble_eq_true rfl)) dX12_read_219 ⟨Nat.le_of_ble_eq_true rfl, Nat.le_of_ble_eq_true rfl⟩) (fun hp1855 H locs hq1858 hw hS => ?_)
                obtain ⟨ok1856, F1857, xq1860, xq1861, rh1862, rh1863, rh1864, rh1865, rh1866, rh1867⟩ := hq1858
                have hw : PW G cy K ln Ls A hp1855 H := hw
                obtain ⟨zi1869, eq1868, bd1870⟩ := rd_13013 ok1856 kd900
                obtain ⟨zi1872, eq1871, bd1873⟩ := rd_13011 ok1856 kd900
                simp only [gi_of eq1868, gi_of eq1871, gi_of eq958, gi_of eq960] at rh1862
                simp only [gi_of eq1868, gi_of eq960] at rh1863
                simp only [gi_of eq1868, gi_of eq1871, gi_of eq958] at rh1864
                have eq1874 : hp1855 qa900 32 = .ref qa47 := Eq.trans (Fr.at (cq := 13032) F1857 kd900 (cd_o (by decide)) (by decide)) eq1833
                have eq1875 : hp1855 qa900 19 = .int zi524 := Eq.trans (Fr.at (cq := 13019) F1857 kd900 (cd_o (by decide)) (by decide)) eq1831
                obtain ⟨zi1877, eq1876, bd1878⟩ := rd_78000 ok1856 kd48 ((zi524 : Int32).toNatClampNeg)
                have eq1879 : hp1855 qa900 24 = .ref qa32 := Eq.trans (Fr.at (cq := 13024) F1857 kd900 (cd_o (by decide)) (by decide)) eq1830
                obtain ⟨zi1881, eq1880, bd1882⟩ := rd_70000 ok1856 kd33 ((zi524 : Int32).toNatClampNeg)
                obtain ⟨zi1884, eq1883, bd1885⟩ := rd_13020 ok1856 kd900
                have eq1886 : hp1855 qa900 27 = .ref qa41 := Eq.trans (Fr.at (cq := 13027) F1857 kd900 (cd_o (by decide)) (by decide)) eq1832
                obtain ⟨zi1888, eq1887, bd1889⟩ := rd_73000 ok1856 kd42 ((zi524 : Int32).toNatClampNeg)
                simp only [ge_of eq1874 eq1875 eq1876, ge_of eq1879 eq1875 eq1880, ge_of eq1886 eq1875 eq1887, gi_of eq1883] at rh1865
                obtain ⟨zi1891, eq1890, bd1892⟩ := rd_13012 ok1856 kd900
                simp only [gi_of eq1868, gi_of eq1890] at rh1866
                obtain ⟨zi1894, eq1893, bd1895⟩ := rd_13038 ok1856 kd900
                simp only [gi_of eq1868, gi_of eq1871, gi_of eq1875, gi_of eq1893] at rh1867
                refine lv_goto (tgt := 203) hx hb dX12_read_222 (by decide) ?_
                exact ih1822 hp1855 zi1872 zi1869 zi1884 zi1881 zi1888 zi1877 zi1891 zi1894 _ _ ls (by have := hm1824; omega) ok1856 (Fr.tr (Fr.tr (Fr.rf) F956 (by decide)) F1857 (by decide)) (b_wid2 bd1873 (by decide) (by decide)) eq1871 (b_wid2 bd1870 (by decide) (by decide)) eq1868 (b_wid2 bd1885 (by decide) (by decide)) eq1883 (b_wid2 bd1882 (by decide) (by decide)) eq1880 (b_wid2 bd1889 (by decide) (by decide)) eq1887 (b_wid2 bd1878 (by decide) (by decide)) eq1876 (b_wid2 bd1892 (by decide) (by decide)) eq1890 (b_wid2 bd1895 (by decide) (by decide)) eq1893 (by omega) (by omega) (by omega) xq1860 xq1861 (lv_sub hl [0] rfl) hw hS
              · skip
                subst cn1852
                obtain ⟨zi1896, eq1897, bd1898⟩ := hc1848 rfl
                have hx1899 : zi961 = zi1896 := Value.int.inj (Eq.trans (Eq.symm eq960) eq1897)
                subst hx1899
                have bd1900 : (0 : Int) ≤ zi961.toInt ∧ zi961.toInt ≤ 0 := b_meet bd1836 bd1898 (by decide) (by decide)
                have rh1901 := rh1849 rfl
                simp only [ge_of eq1837 eq958 eq1840, toi bc_0] at rh1901
                have rh1902 := rh1850 rfl
                simp only [gi_of eq960] at rh1902
                refine lv_if_ne (tgt := 225) hx hb dX12_read_215 (by decide) (fun _ => ?_) (fun c => absurd c (d_ne bc_1 bc_0 (by decide)))
                exact jn1175 hp955 zi959 zi961 zi963 zi965 zi967 zi969 zi971 zi973 _ _ ls ok957 (Fr.tr (Fr.rf) F956 (by decide)) (b_wid2 bd979 (by decide) (by decide)) eq958 (b_wid2 bd1900 (by decide) (by decide)) eq960 (b_wid2 bd981 (by decide) (by decide)) eq962 (b_wid2 bd982 (by decide) (by decide)) eq964 (b_wid2 bd983 (by decide) (by decide)) eq966 (b_wid2 bd984 (by decide) (by decide)) eq968 (b_wid2 bd985 (by decide) (by decide)) eq970 (b_wid2 bd986 (by decide) (by decide)) eq972 (by omega) (by omega) (by omega) jx977 jx978 (lv_sub hl [0] rfl) hw hS
        exact lp1823 _ hp644 0 0 0 0 0 0 0 zi579 _ _ ls (lp_in _) ok646 (Fr.rf) (b_wid2 bc_0 (by decide) (by decide)) eq659 (b_wid2 bc_0 (by decide) (by decide)) eq660 (b_wid2 bc_0 (by decide) (by decide)) eq661 (b_wid2 bc_0 (by decide) (by decide)) eq663 (b_wid2 bc_0 (by decide) (by decide)) eq665 (b_wid2 bc_0 (by decide) (by decide)) eq667 (b_wid2 bc_0 (by decide) (by decide)) eq668 (b_wid2 bd581 (by decide) (by decide)) eq656 (by have := toi bc_0; have := toi bc_2; omega) (by have := toi bc_0; have := toi bc_2; omega) (by have := toi bc_0; have := toi bc_2; omega) (lp653).lw (fun _ => lp653) (lv_sub hl [1] rfl) hw hS
      · skip
        have tf1903 : zi381.toInt < zi17.toInt := (fa_lt _ _).mp (Int32.not_le.mp cn465)
        have bd1904 : (0 : Int) ≤ zi381.toInt ∧ zi381.toInt ≤ 1999 := r_lt_x (Int32.not_le.mp cn465) bd385 bd18 (by decide) (by decide)
        have bd1905 : (1 : Int) ≤ zi17.toInt ∧ zi17.toInt ≤ 2000 := r_lt_y (Int32.not_le.mp cn465) bd385 bd18 (by decide) (by decide)
        refine lv_aload_n hx hb dX12_read_18 rfl (lv_at hl 0 rfl) ?_
        obtain ⟨qa1907, eq1906, kd1908⟩ := rd_13003 ok384 kd900
        refine p_get (ci := 12) (v := .ref qa1907) (C := RX12) (T := TX12) (N := 69) hx hb hT iw_X12 hown hK hw hW kd900 (by decide) rfl rfl 3 (by decide) eq1906 (hT _ tb_1377) (fun _ h9 => h9) dX12_read_19 ?_
        refine lv_iload_n hx hb dX12_read_22 rfl (lv_at hl 1 rfl) ?_
        refine lv_aload_n hx hb dX12_read_23 rfl (lv_at hl 0 rfl) ?_
        obtain ⟨qa1910, eq1909, kd1911⟩ := rd_13001 ok384 kd900
        refine p_get (ci := 12) (v := .ref qa1910) (C := RX12) (T := TX12) (N := 69) hx hb hT iw_X12 hown hK hw hW kd900 (by decide) rfl rfl 1 (by decide) eq1909 (hT _ tb_1375) (fun _ h9 => h9) dX12_read_24 ?_
        refine lv_iload_n hx hb dX12_read_27 rfl (lv_at hl 1 rfl) ?_
        obtain ⟨zi1913, eq1912, bd1914⟩ := rd_60000 ok384 kd1911 ((zi381 : Int32).toNatClampNeg)
        refine p_bald (v := zi1913) hx hb hK hw hW kd1911 (by decide) rfl (hW.len kd1911 (n := 2000) rfl (by decide)) (vp_b bd1904 (by decide) (by decide)) eq1912 dX12_read_28 ?_
        refine p_bast (x := zi1913) hx hb hK hw hS hW kd1908 (by decide) rfl (hW.len kd1908 (n := 2000) rfl (by decide)) (vp_b bd1904 (by decide) (by decide)) dX12_read_29 (fun hp1915 eh1916 H locs hw hS => ?_)
        have ok1917 := wr_61000 (nar_b zi1913) (by decide) (by decide) ok384 kd1908 eh1916
        obtain ⟨zi1918, ea1919⟩ : ∃ z : Int32, z = zi381 + 1 := ⟨_, rfl⟩
        have bd1920 : (1 : Int) ≤ zi1918.toInt ∧ zi1918.toInt ≤ 2000 := b_iadd ea1919 bd1904 bc_1 (by decide) (by decide) (by decide) (by decide)
        have qe1921 : zi1918.toInt = (zi381 : Int32).toInt + (1 : Int32).toInt := e_iadd ea1919 bd1904 bc_1 (by decide) (by decide)
        have qe1922 : zi1918.toInt = zi381.toInt + 1 := by have ha : (1 : Int32).toInt = 1 := (by decide); rw [ha] at qe1921; exact qe1921
        refine lv_iinc (v := zi1918) (lv' := [(1, .int zi1918), (0, .ref qa900)]) hx hb dX12_read_30 hl (k := 1) rfl ea1919.symm (by decide) rfl (fun ls hl => ?_)
        refine lv_goto (tgt := 10) hx hb dX12_read_33 (by decide) ?_
        have eq1923 : hp1915 qa900 11 = .int zi23 := Eq.trans (up_at eh1916 (Or.inl (kd_ne kd900 kd1908 (by decide)))) eq466
        have eq1924 : hp1915 qa900 13 = .int zi26 := Eq.trans (up_at eh1916 (Or.inl (kd_ne kd900 kd1908 (by decide)))) eq467
        have eq1925 : hp1915 qa900 20 = .int zi29 := Eq.trans (up_at eh1916 (Or.inl (kd_ne kd900 kd1908 (by decide)))) eq468
        have eq1926 : hp1915 qa900 24 = .ref qa32 := Eq.trans (up_at eh1916 (Or.inl (kd_ne kd900 kd1908 (by decide)))) eq469
        have eq1927 : hp1915 qa900 19 = .int zi35 := Eq.trans (up_at eh1916 (Or.inl (kd_ne kd900 kd1908 (by decide)))) eq470
        have eq1928 : hp1915 qa32 (zi35 : Int32).toNatClampNeg = .int zi38 := Eq.trans (up_at eh1916 (Or.inl (kd_ne kd33 kd1908 (by decide)))) eq471
        have eq1929 : hp1915 qa900 27 = .ref qa41 := Eq.trans (up_at eh1916 (Or.inl (kd_ne kd900 kd1908 (by decide)))) eq472
        have eq1930 : hp1915 qa41 (zi35 : Int32).toNatClampNeg = .int zi44 := Eq.trans (up_at eh1916 (Or.inl (kd_ne kd42 kd1908 (by decide)))) eq473
        have eq1931 : hp1915 qa900 32 = .ref qa47 := Eq.trans (up_at eh1916 (Or.inl (kd_ne kd900 kd1908 (by decide)))) eq474
        have eq1932 : hp1915 qa47 (zi35 : Int32).toNatClampNeg = .int zi50 := Eq.trans (up_at eh1916 (Or.inl (kd_ne kd48 kd1908 (by decide)))) eq475
        have eq1933 : hp1915 qa900 12 = .int zi53 := Eq.trans (up_at eh1916 (Or.inl (kd_ne kd900 kd1908 (by decide)))) eq476
        have eq1934 : hp1915 qa900 38 = .int zi56 := Eq.trans (up_at eh1916 (Or.inl (kd_ne kd900 kd1908 (by decide)))) eq477
        exact ih461 hp1915 zi1918 _ _ ls (by have := hm463; have := qe1922; omega) ok1917 (Fr.put (cq := 61000) (Fr.tr (Fr.rf) F383 (by decide)) eh1916 kd1908 (cd_a (by decide)) (by decide)) (b_wid2 bd1920 (by decide) (by decide)) (lv_sub hl [1, 0] rfl) hw hS
  exact lp462 _ hp19 0 _ _ ls (lp_in _) ok21 (Fr.rf) (b_wid2 bc_0 (by decide) (by decide)) (lv_sub hl [1, 0] rfl) hw hS
