set_option maxRecDepth 100000 in
set_option maxHeartbeats 4000000 in
theorem cX12_isAhead_0 (l : Launch) (G : va_G) (cy : Nat → ClassId) (ev : Ew) (K ln : Nat → Nat) (Ls : List Nat) (hW : SW K ln Ls) (sz : Nat) (hp0 : Nat → Nat → Value) (ok0 : Ok K hp0) (qa900 : Nat) (zi901 : Int32) (zi902 : Int32) (kd900 : K qa900 = 13) (bd901 : ((0 : Int) ≤ zi901.toInt ∧ zi901.toInt ≤ 7)) (bd902 : ((0 : Int) ≤ zi902.toInt ∧ zi902.toInt ≤ 7)) (rp0 : (gi hp0 qa900 55) ≤ 0 ∨ (0 ≤ (ga hp0 qa900 56 0) ∧ (ga hp0 qa900 56 0) ≤ (ge hp0 qa900 28 18) - 1)) (rp1 : (gi hp0 qa900 55) ≤ 1 ∨ (0 ≤ (ga hp0 qa900 56 1) ∧ (ga hp0 qa900 56 1) ≤ (ge hp0 qa900 28 18) - 1)) (rp2 : (gi hp0 qa900 55) ≤ 2 ∨ (0 ≤ (ga hp0 qa900 56 2) ∧ (ga hp0 qa900 56 2) ≤ (ge hp0 qa900 28 18) - 1)) (rp3 : (gi hp0 qa900 55) ≤ 3 ∨ (0 ≤ (ga hp0 qa900 56 3) ∧ (ga hp0 qa900 56 3) ≤ (ge hp0 qa900 28 18) - 1)) (rp4 : 1 ≤ (gi hp0 qa900 55)) (rp5 : (gi hp0 qa900 55) ≤ 4) (pdLW : LW hp0 qa900) : Met l yX12_isAhead (WS yX12_isAhead cX12_isAhead 4 (some .boolean)) { frames := 4, cells := 0, slots := 0, locals := 103 } (PB2 [.ref qa900, .int zi901, .int zi902] sz G cy ev (va_pl Ls (cellOf cy K ln hp0))) (QBi (S := (Nat → Nat → Value)) (fun (r : Int32) (u : (Nat → Nat → Value)) => Ok K u ∧ Fr [13048, 13051, 90000, 91000, 93000] K hp0 u ∧ ((0 : Int) ≤ r.toInt ∧ r.toInt ≤ 1)) G (fun u => va_pl Ls (cellOf cy K ln u)) (va_A (va_pl Ls (cellOf cy K ln hp0)) sz)) 0 0 (va_A (va_pl Ls (cellOf cy K ln hp0)) sz) := by
  refine met_of2 (y := yX12_isAhead) (L := 4) (av := [.ref qa900, .int zi901, .int zi902]) (Qc := fun A => QBi (S := (Nat → Nat → Value)) (fun (r : Int32) (u : (Nat → Nat → Value)) => Ok K u ∧ Fr [13048, 13051, 90000, 91000, 93000] K hp0 u ∧ ((0 : Int) ≤ r.toInt ∧ r.toInt ≤ 1)) G (fun u => va_pl Ls (cellOf cy K ln u)) A) (plainFor_of_name (by decide)) (Nat.le_of_ble_eq_true rfl) ?_
  intro p e s m below meth c hsz hx hb hr hml hown hT hlocks hin hK A hA hE hw hS ls hl
  have hw : PW G cy K ln Ls A hp0 s.heap := hw
  have hown : s.vm.findClass "LieClockModel" = some m.cls := hown
  have hl : lv_has ls 4 [(0, .ref qa900), (1, .int zi901), (2, .int zi902)] := hl
  obtain ⟨Q, hQ⟩ : ∃ Q : State → Prop, Q = MQ below (QBi (S := (Nat → Nat → Value)) (fun (r : Int32) (u : (Nat → Nat → Value)) => Ok K u ∧ Fr [13048, 13051, 90000, 91000, 93000] K hp0 u ∧ ((0 : Int) ≤ r.toInt ∧ r.toInt ≤ 1)) G (fun u => va_pl Ls (cellOf cy K ln u)) A) ([.ref qa900, .int zi901, .int zi902] : List Value).toArray s 0 0 A := ⟨_, rfl⟩
  rw [← hQ]
  obtain ⟨zi2, eq1, bd3⟩ := rd_13055 ok0 kd900
  obtain ⟨qa5, eq4, kd6⟩ := rd_13056 ok0 kd900
  obtain ⟨zi8, eq7, bd9⟩ := rd_95000 ok0 kd6 ((0 : Int32).toNatClampNeg)
  obtain ⟨zi11, eq10, bd12⟩ := rd_95000 ok0 kd6 ((1 : Int32).toNatClampNeg)
  obtain ⟨zi14, eq13, bd15⟩ := rd_95000 ok0 kd6 ((2 : Int32).toNatClampNeg)
  obtain ⟨zi17, eq16, bd18⟩ := rd_95000 ok0 kd6 ((3 : Int32).toNatClampNeg)
  obtain ⟨qa20, eq19, kd21⟩ := rd_13028 ok0 kd900
  obtain ⟨zi23, eq22, bd24⟩ := rd_13018 ok0 kd900
  obtain ⟨zi26, eq25, bd27⟩ := rd_74000 ok0 kd21 ((zi23 : Int32).toNatClampNeg)
  have rq0 := rp0
  simp only [gi_of eq1, ga_of eq4 eq7, ge_of eq19 eq22 eq25] at rq0
  have rq1 := rp1
  simp only [gi_of eq1, ga_of eq4 eq10, ge_of eq19 eq22 eq25] at rq1
  have rq2 := rp2
  simp only [gi_of eq1, ga_of eq4 eq13, ge_of eq19 eq22 eq25] at rq2
  have rq3 := rp3
  simp only [gi_of eq1, ga_of eq4 eq16, ge_of eq19 eq22 eq25] at rq3
  have rq4 := rp4
  simp only [gi_of eq1] at rq4
  have rq5 := rp5
  simp only [gi_of eq1] at rq5
  have bd28 : (1 : Int) ≤ zi2.toInt ∧ zi2.toInt ≤ 4 := (by omega)
  by_cases cn29 : zi2 = 1
  · skip
    have eq33 : hp0 qa900 55 = .int 1 := Eq.trans eq1 (congrArg Value.int cn29)
    have tf34 : zi2.toInt = 1 := (congrArg Int32.toInt cn29).trans (toi bc_1)
    have bd35 : (0 : Int) ≤ zi8.toInt ∧ zi8.toInt ≤ 15 := (by omega)
    refine lv_aload_n hx hb dX12_isAhead_0 rfl (lv_at hl 0 rfl) ?_
    refine kq_v hw hS hA (va_runV (As := []) (rest := []) ⟨hx, hb, hml, hown, hT⟩ (cX12_copies_0 l G cy ev K ln Ls hW _ hp0 ok0 qa900 kd900) (cwV 0 hT (good_V tb_1769 tb_1766 tb_1768 tb_81 tb_122) rfl rfl rfl (by decide +kernel) ⟨Nat.le_of_ble_eq_true rfl, Nat.le_of_ble_eq_true rfl⟩) (pool_preV (ci := 12) hK hE hS hA hw hW kd900 (by decide) rfl) rfl rfl hl.1 rfl (lv_room (Nat.le_of_ble_eq_true rfl)) dX12_isAhead_1 ⟨Nat.le_of_ble_eq_true rfl, Nat.le_of_ble_eq_true rfl⟩) (fun hp36 H locs hq39 hw hS => ?_)
    obtain ⟨ok37, F38⟩ := hq39
    have hw : PW G cy K ln Ls A hp36 H := hw
    refine lv_iconst (v := 0) hx hb dX12_isAhead_4 (by decide) ?_
    refine lv_istore_n (lv' := [(3, .int 0), (0, .ref qa900), (1, .int zi901), (2, .int zi902)]) hx hb dX12_isAhead_5 rfl hl (by decide) rfl (fun ls hl => ?_)
    refine lv_iload_n hx hb dX12_isAhead_6 rfl (lv_at hl 0 rfl) ?_
    refine lv_aload_n hx hb dX12_isAhead_7 rfl (lv_at hl 1 rfl) ?_
    have eq41 : hp36 qa900 55 = .int 1 := Eq.trans (Fr.at (cq := 13055) F38 kd900 (cd_o (by decide)) (by decide)) eq33
    refine p_get (ci := 12) (v := .int 1) (C := RX12) (T := TX12) (N := 69) hx hb hT iw_X12 hown hK hw hW kd900 (by decide) rfl rfl 55 (by decide) eq41 (hT _ tb_1429) (fun _ h9 => h9) dX12_isAhead_8 ?_
    refine lv_icmp_ge (tgt := 52) hx hb dX12_isAhead_11 (by decide) (fun c => absurd c (d_nle bc_1 bc_0 (by decide))) (fun _ => ?_)
    refine lv_aload_n hx hb dX12_isAhead_14 rfl (lv_at hl 1 rfl) ?_
    refine lv_aload_n hx hb dX12_isAhead_15 rfl (lv_at hl 1 rfl) ?_
    have eq42 : hp36 qa900 56 = .ref qa5 := Eq.trans (Fr.at (cq := 13056) F38 kd900 (cd_o (by decide)) (by decide)) eq4
    refine p_get (ci := 12) (v := .ref qa5) (C := RX12) (T := TX12) (N := 69) hx hb hT iw_X12 hown hK hw hW kd900 (by decide) rfl rfl 56 (by decide) eq42 (hT _ tb_1430) (fun _ h9 => h9) dX12_isAhead_16 ?_
    refine lv_iload_n hx hb dX12_isAhead_19 rfl (lv_at hl 0 rfl) ?_
    have eq43 : hp36 qa5 (0 : Int32).toNatClampNeg = .int zi8 := Eq.trans (Fr.at (cq := 95000) F38 kd6 (cd_a (by decide)) (by decide)) eq7
    refine p_iald (v := zi8) hx hb hK hw hW kd6 (by decide) rfl (hW.len kd6 (n := 6) rfl (by decide)) (vp_b bc_0 (by decide) (by decide)) eq43 dX12_isAhead_20 ?_
    have pd44 : LW hp36 qa900 := LW_fr ok0 kd900 (show Fr [93000] K hp0 hp36 from (Fr.tr (Fr.rf) F38 (by decide))) (by decide) pdLW
    refine kq_i hw hS hA (va_runV (As := [.int zi8]) (rest := []) ⟨hx, hb, hml, hown, hT⟩ (cX12_sayNow_0 l G cy ev K ln Ls hW _ hp36 ok37 qa900 zi8 kd900 (b_wid2 bd35 (by decide) (by decide)) pd44) (cwV 1 hT (good_V tb_1809 tb_1806 tb_1808 tb_87 tb_122) rfl rfl rfl (by decide +kernel) ⟨Nat.le_of_ble_eq_true rfl, Nat.le_of_ble_eq_true rfl⟩) (pool_preV (ci := 12) hK hE hS hA hw hW kd900 (by decide) rfl) rfl rfl hl.1 rfl (lv_room (Nat.le_of_ble_eq_true rfl)) dX12_isAhead_21 ⟨Nat.le_of_ble_eq_true rfl, Nat.le_of_ble_eq_true rfl⟩) (fun zi49 hp45 H locs hq48 hw hS => ?_)
    obtain ⟨ok46, F47, bd50⟩ := hq48
    have hw : PW G cy K ln Ls A hp45 H := hw
    refine lv_pop hx hb dX12_isAhead_24 rfl ?_
    refine lv_aload_n hx hb dX12_isAhead_25 rfl (lv_at hl 1 rfl) ?_
    obtain ⟨qa52, eq51, kd53⟩ := rd_13050 ok46 kd900
    refine p_get (ci := 12) (v := .ref qa52) (C := RX12) (T := TX12) (N := 69) hx hb hT iw_X12 hown hK hw hW kd900 (by decide) rfl rfl 50 (by decide) eq51 (hT _ tb_1424) (fun _ h9 => h9) dX12_isAhead_26 ?_
    refine lv_iconst (v := 4) hx hb dX12_isAhead_29 (by decide) ?_
    refine lv_iload_n hx hb dX12_isAhead_30 rfl (lv_at hl 3 rfl) ?_
    refine lv_iadd hx hb dX12_isAhead_31 (lv_topi (fun zi54 ea55 => ?_))
    have bd56 : (4 : Int) ≤ zi54.toInt ∧ zi54.toInt ≤ 11 := b_iadd ea55 bc_4 bd902 (by decide) (by decide) (by decide) (by decide)
    have qe57 : zi54.toInt = (4 : Int32).toInt + (zi902 : Int32).toInt := e_iadd ea55 bc_4 bd902 (by decide) (by decide)
    have qe58 : zi54.toInt = 4 + zi902.toInt := by have ha : (4 : Int32).toInt = 4 := (by decide); rw [ha] at qe57; exact qe57
    obtain ⟨zi60, eq59⟩ := rd_93000 ok46 kd53 ((zi54 : Int32).toNatClampNeg)
    refine p_iald (v := zi60) hx hb hK hw hW kd53 (by decide) rfl (hW.len kd53 (n := 40) rfl (by decide)) (vp_b bd56 (by decide) (by decide)) eq59 dX12_isAhead_32 ?_
    refine lv_aload_n hx hb dX12_isAhead_33 rfl (lv_at hl 1 rfl) ?_
    obtain ⟨qa62, eq61, kd63⟩ := rd_13049 ok46 kd900
    refine p_get (ci := 12) (v := .ref qa62) (C := RX12) (T := TX12) (N := 69) hx hb hT iw_X12 hown hK hw hW kd900 (by decide) rfl rfl 49 (by decide) eq61 (hT _ tb_1423) (fun _ h9 => h9) dX12_isAhead_34 ?_
    refine lv_iconst (v := 4) hx hb dX12_isAhead_37 (by decide) ?_
    refine lv_iload_n hx hb dX12_isAhead_38 rfl (lv_at hl 3 rfl) ?_
    refine lv_iadd hx hb dX12_isAhead_39 (lv_topi (fun zi64 ea65 => ?_))
    have bd66 : (4 : Int) ≤ zi64.toInt ∧ zi64.toInt ≤ 11 := b_iadd ea65 bc_4 bd902 (by decide) (by decide) (by decide) (by decide)
    have qe67 : zi64.toInt = (4 : Int32).toInt + (zi902 : Int32).toInt := e_iadd ea65 bc_4 bd902 (by decide) (by decide)
    have qe68 : zi64.toInt = 4 + zi902.toInt := by have ha : (4 : Int32).toInt = 4 := (by decide); rw [ha] at qe67; exact qe67
    obtain ⟨zi70, eq69⟩ := rd_92000 ok46 kd63 ((zi64 : Int32).toNatClampNeg)
    refine p_iald (v := zi70) hx hb hK hw hW kd63 (by decide) rfl (hW.len kd63 (n := 40) rfl (by decide)) (vp_b bd66 (by decide) (by decide)) eq69 dX12_isAhead_40 ?_
    have eq72 : hp45 qa900 55 = .int 1 := Eq.trans (Fr.at (cq := 13055) F47 kd900 (cd_o (by decide)) (by decide)) eq41
    have eq73 : hp45 qa900 28 = .ref qa20 := Eq.trans (Fr.at (cq := 13028) F47 kd900 (cd_o (by decide)) (by decide)) (Eq.trans (Fr.at (cq := 13028) F38 kd900 (cd_o (by decide)) (by decide)) eq19)
    have eq74 : hp45 qa900 18 = .int zi23 := Eq.trans (Fr.at (cq := 13018) F47 kd900 (cd_o (by decide)) (by decide)) (Eq.trans (Fr.at (cq := 13018) F38 kd900 (cd_o (by decide)) (by decide)) eq22)
    have eq75 : hp45 qa20 (zi23 : Int32).toNatClampNeg = .int zi26 := Eq.trans (Fr.at (cq := 74000) F47 kd21 (cd_a (by decide)) (by decide)) (Eq.trans (Fr.at (cq := 74000) F38 kd21 (cd_a (by decide)) (by decide)) eq25)
    have eq76 : hp45 qa900 56 = .ref qa5 := Eq.trans (Fr.at (cq := 13056) F47 kd900 (cd_o (by decide)) (by decide)) eq42
    have eq77 : hp45 qa5 (0 : Int32).toNatClampNeg = .int zi8 := Eq.trans (Fr.at (cq := 95000) F47 kd6 (cd_a (by decide)) (by decide)) eq43
    have eq78 : hp45 qa5 (1 : Int32).toNatClampNeg = .int zi11 := Eq.trans (Fr.at (cq := 95000) F47 kd6 (cd_a (by decide)) (by decide)) (Eq.trans (Fr.at (cq := 95000) F38 kd6 (cd_a (by decide)) (by decide)) eq10)
    have eq79 : hp45 qa5 (2 : Int32).toNatClampNeg = .int zi14 := Eq.trans (Fr.at (cq := 95000) F47 kd6 (cd_a (by decide)) (by decide)) (Eq.trans (Fr.at (cq := 95000) F38 kd6 (cd_a (by decide)) (by decide)) eq13)
    have eq80 : hp45 qa5 (3 : Int32).toNatClampNeg = .int zi17 := Eq.trans (Fr.at (cq := 95000) F47 kd6 (cd_a (by decide)) (by decide)) (Eq.trans (Fr.at (cq := 95000) F38 kd6 (cd_a (by decide)) (by decide)) eq16)
    refine lv_icmp_le (tgt := 46) hx hb dX12_isAhead_41 (by decide) (fun cn71 => ?_) (fun cn71 => ?_)
    · skip
      have tf81 : zi60.toInt ≤ zi70.toInt := (fa_le _ _).mp cn71
      refine lv_iinc (v := 1) (lv' := [(3, .int 1), (0, .ref qa900), (1, .int zi901), (2, .int zi902)]) hx hb dX12_isAhead_46 hl (k := 0) rfl (by decide) (by decide) rfl (fun ls hl => ?_)
      refine lv_goto (tgt := 6) hx hb dX12_isAhead_49 (by decide) ?_
      refine lv_iload_n hx hb dX12_isAhead_6 rfl (lv_at hl 0 rfl) ?_
      refine lv_aload_n hx hb dX12_isAhead_7 rfl (lv_at hl 1 rfl) ?_
      refine p_get (ci := 12) (v := .int 1) (C := RX12) (T := TX12) (N := 69) hx hb hT iw_X12 hown hK hw hW kd900 (by decide) rfl rfl 55 (by decide) eq72 (hT _ tb_1429) (fun _ h9 => h9) dX12_isAhead_8 ?_
      refine lv_icmp_ge (tgt := 52) hx hb dX12_isAhead_11 (by decide) (fun _ => ?_) (fun c => absurd (d_le bc_1 bc_1 (by decide)) c)
      refine lv_aload_n hx hb dX12_isAhead_52 rfl (lv_at hl 1 rfl) ?_
      refine p_get (ci := 12) (v := .ref qa52) (C := RX12) (T := TX12) (N := 69) hx hb hT iw_X12 hown hK hw hW kd900 (by decide) rfl rfl 50 (by decide) eq51 (hT _ tb_1424) (fun _ h9 => h9) dX12_isAhead_53 ?_
      refine lv_iconst (v := 4) hx hb dX12_isAhead_56 (by decide) ?_
      refine lv_iload_n hx hb dX12_isAhead_57 rfl (lv_at hl 2 rfl) ?_
      refine lv_iadd hx hb dX12_isAhead_58 (lv_topi (fun zi82 ea83 => ?_))
      have bd84 : (4 : Int) ≤ zi82.toInt ∧ zi82.toInt ≤ 11 := b_iadd ea83 bc_4 bd901 (by decide) (by decide) (by decide) (by decide)
      have qe85 : zi82.toInt = (4 : Int32).toInt + (zi901 : Int32).toInt := e_iadd ea83 bc_4 bd901 (by decide) (by decide)
      have qe86 : zi82.toInt = 4 + zi901.toInt := by have ha : (4 : Int32).toInt = 4 := (by decide); rw [ha] at qe85; exact qe85
      obtain ⟨zi88, eq87⟩ := rd_93000 ok46 kd53 ((zi82 : Int32).toNatClampNeg)
      refine p_iald (v := zi88) hx hb hK hw hW kd53 (by decide) rfl (hW.len kd53 (n := 40) rfl (by decide)) (vp_b bd84 (by decide) (by decide)) eq87 dX12_isAhead_59 ?_
      refine lv_aload_n hx hb dX12_isAhead_60 rfl (lv_at hl 1 rfl) ?_
      refine p_get (ci := 12) (v := .ref qa62) (C := RX12) (T := TX12) (N := 69) hx hb hT iw_X12 hown hK hw hW kd900 (by decide) rfl rfl 49 (by decide) eq61 (hT _ tb_1423) (fun _ h9 => h9) dX12_isAhead_61 ?_
      refine lv_iconst (v := 4) hx hb dX12_isAhead_64 (by decide) ?_
      refine lv_iload_n hx hb dX12_isAhead_65 rfl (lv_at hl 2 rfl) ?_
      refine lv_iadd hx hb dX12_isAhead_66 (lv_topi (fun zi89 ea90 => ?_))
      have bd91 : (4 : Int) ≤ zi89.toInt ∧ zi89.toInt ≤ 11 := b_iadd ea90 bc_4 bd901 (by decide) (by decide) (by decide) (by decide)
      have qe92 : zi89.toInt = (4 : Int32).toInt + (zi901 : Int32).toInt := e_iadd ea90 bc_4 bd901 (by decide) (by decide)
      have qe93 : zi89.toInt = 4 + zi901.toInt := by have ha : (4 : Int32).toInt = 4 := (by decide); rw [ha] at qe92; exact qe92
      obtain ⟨zi95, eq94⟩ := rd_92000 ok46 kd63 ((zi89 : Int32).toNatClampNeg)
      refine p_iald (v := zi95) hx hb hK hw hW kd63 (by decide) rfl (hW.len kd63 (n := 40) rfl (by decide)) (vp_b bd91 (by decide) (by decide)) eq94 dX12_isAhead_67 ?_
      refine lv_icmp_le (tgt := 75) hx hb dX12_isAhead_68 (by decide) (fun cn96 => ?_) (fun cn96 => ?_)
      · skip
        have tf97 : zi88.toInt ≤ zi95.toInt := (fa_le _ _).mp cn96
        refine lv_iconst (v := 0) hx hb dX12_isAhead_75 (by decide) ?_
        rw [hQ]
        exact kz_i hx hb hr hlocks hS (nz_n bc_0 (by decide) (by decide)) hp45 hw ⟨ok46, (Fr.tr (Fr.tr (Fr.rf) F38 (by decide)) F47 (by decide)), (b_wid2 bc_0 (by decide) (by decide))⟩ (Nat.le_of_ble_eq_true rfl) (Nat.le_of_ble_eq_true rfl) dX12_isAhead_76
      · skip
        have tf98 : zi95.toInt < zi88.toInt := (fa_lt _ _).mp (Int32.not_le.mp cn96)
        have bd99 : (-2147483648 : Int) ≤ zi95.toInt ∧ zi95.toInt ≤ 2147483646 := r_lt_x (Int32.not_le.mp cn96) (b_all zi95) (b_all zi88) (by decide) (by decide)
        have bd100 : (-2147483647 : Int) ≤ zi88.toInt ∧ zi88.toInt ≤ 2147483647 := r_lt_y (Int32.not_le.mp cn96) (b_all zi95) (b_all zi88) (by decide) (by decide)
        refine lv_iconst (v := 1) hx hb dX12_isAhead_71 (by decide) ?_
        refine lv_goto (tgt := 76) hx hb dX12_isAhead_72 (by decide) ?_
        rw [hQ]
        exact kz_i hx hb hr hlocks hS (nz_n bc_1 (by decide) (by decide)) hp45 hw ⟨ok46, (Fr.tr (Fr.tr (Fr.rf) F38 (by decide)) F47 (by decide)), (b_wid2 bc_1 (by decide) (by decide))⟩ (Nat.le_of_ble_eq_true rfl) (Nat.le_of_ble_eq_true rfl) dX12_isAhead_76
    · skip
      have tf101 : zi70.toInt < zi60.toInt := (fa_lt _ _).mp (Int32.not_le.mp cn71)
      have bd102 : (-2147483648 : Int) ≤ zi70.toInt ∧ zi70.toInt ≤ 2147483646 := r_lt_x (Int32.not_le.mp cn71) (b_all zi70) (b_all zi60) (by decide) (by decide)
      have bd103 : (-2147483647 : Int) ≤ zi60.toInt ∧ zi60.toInt ≤ 2147483647 := r_lt_y (Int32.not_le.mp cn71) (b_all zi70) (b_all zi60) (by decide) (by decide)
      refine lv_iconst (v := 0) hx hb dX12_isAhead_44 (by decide) ?_
      rw [hQ]
      exact kz_i hx hb hr hlocks hS (nz_n bc_0 (by decide) (by decide)) hp45 hw ⟨ok46, (Fr.tr (Fr.tr (Fr.rf) F38 (by decide)) F47 (by decide)), (b_wid2 bc_0 (by decide) (by decide))⟩ (Nat.le_of_ble_eq_true rfl) (Nat.le_of_ble_eq_true rfl) dX12_isAhead_45
  by_cases cn30 : zi2 = 2
  · skip
    have eq104 : hp0 qa900 55 = .int 2 := Eq.trans eq1 (congrArg Value.int cn30)
    have tf105 : zi2.toInt = 2 := (congrArg Int32.toInt cn30).trans (toi bc_2)
    have bd106 : (0 : Int) ≤ zi8.toInt ∧ zi8.toInt ≤ 15 := (by omega)
    have bd107 : (0 : Int) ≤ zi11.toInt ∧ zi11.toInt ≤ 15 := (by omega)
    refine lv_aload_n hx hb dX12_isAhead_0 rfl (lv_at hl 0 rfl) ?_
    refine kq_v hw hS hA (va_runV (As := []) (rest := []) ⟨hx, hb, hml, hown, hT⟩ (cX12_copies_0 l G cy ev K ln Ls hW _ hp0 ok0 qa900 kd900) (cwV 0 hT (good_V tb_1769 tb_1766 tb_1768 tb_81 tb_122) rfl rfl rfl (by decide +kernel) ⟨Nat.le_of_ble_eq_true rfl, Nat.le_of_ble_eq_true rfl⟩) (pool_preV (ci := 12) hK hE hS hA hw hW kd900 (by decide) rfl) rfl rfl hl.1 rfl (lv_room (Nat.le_of_ble_eq_true rfl)) dX12_isAhead_1 ⟨Nat.le_of_ble_eq_true rfl, Nat.le_of_ble_eq_true rfl⟩) (fun hp108 H locs hq111 hw hS => ?_)
    obtain ⟨ok109, F110⟩ := hq111
    have hw : PW G cy K ln Ls A hp108 H := hw
    refine lv_iconst (v := 0) hx hb dX12_isAhead_4 (by decide) ?_
    refine lv_istore_n (lv' := [(3, .int 0), (0, .ref qa900), (1, .int zi901), (2, .int zi902)]) hx hb dX12_isAhead_5 rfl hl (by decide) rfl (fun ls hl => ?_)
    refine lv_iload_n hx hb dX12_isAhead_6 rfl (lv_at hl 0 rfl) ?_
    refine lv_aload_n hx hb dX12_isAhead_7 rfl (lv_at hl 1 rfl) ?_
    have eq113 : hp108 qa900 55 = .int 2 := Eq.trans (Fr.at (cq := 13055) F110 kd900 (cd_o (by decide)) (by decide)) eq104
    refine p_get (ci := 12) (v := .int 2) (C := RX12) (T := TX12) (N := 69) hx hb hT iw_X12 hown hK hw hW kd900 (by decide) rfl rfl 55 (by decide) eq113 (hT _ tb_1429) (fun _ h9 => h9) dX12_isAhead_8 ?_
    refine lv_icmp_ge (tgt := 52) hx hb dX12_isAhead_11 (by decide) (fun c => absurd c (d_nle bc_2 bc_0 (by decide))) (fun _ => ?_)
    refine lv_aload_n hx hb dX12_isAhead_14 rfl (lv_at hl 1 rfl) ?_
    refine lv_aload_n hx hb dX12_isAhead_15 rfl (lv_at hl 1 rfl) ?_
    have eq114 : hp108 qa900 56 = .ref qa5 := Eq.trans (Fr.at (cq := 13056) F110 kd900 (cd_o (by decide)) (by decide)) eq4
    refine p_get (ci := 12) (v := .ref qa5) (C := RX12) (T := TX12) (N := 69) hx hb hT iw_X12 hown hK hw hW kd900 (by decide) rfl rfl 56 (by decide) eq114 (hT _ tb_1430) (fun _ h9 => h9) dX12_isAhead_16 ?_
    refine lv_iload_n hx hb dX12_isAhead_19 rfl (lv_at hl 0 rfl) ?_
    have eq115 : hp108 qa5 (0 : Int32).toNatClampNeg = .int zi8 := Eq.trans (Fr.at (cq := 95000) F110 kd6 (cd_a (by decide)) (by decide)) eq7
    refine p_iald (v := zi8) hx hb hK hw hW kd6 (by decide) rfl (hW.len kd6 (n := 6) rfl (by decide)) (vp_b bc_0 (by decide) (by decide)) eq115 dX12_isAhead_20 ?_
    have pd116 : LW hp108 qa900 := LW_fr ok0 kd900 (show Fr [93000] K hp0 hp108 from (Fr.tr (Fr.rf) F110 (by decide))) (by decide) pdLW
    refine kq_i hw hS hA (va_runV (As := [.int zi8]) (rest := []) ⟨hx, hb, hml, hown, hT⟩ (cX12_sayNow_0 l G cy ev K ln Ls hW _ hp108 ok109 qa900 zi8 kd900 (b_wid2 bd106 (by decide) (by decide)) pd116) (cwV 1 hT (good_V tb_1809 tb_1806 tb_1808 tb_87 tb_122) rfl rfl rfl (by decide +kernel) ⟨Nat.le_of_ble_eq_true rfl, Nat.le_of_ble_eq_true rfl⟩) (pool_preV (ci := 12) hK hE hS hA hw hW kd900 (by decide) rfl) rfl rfl hl.1 rfl (lv_room (Nat.le_of_ble_eq_true rfl)) dX12_isAhead_21 ⟨Nat.le_of_ble_eq_true rfl, Nat.le_of_ble_eq_true rfl⟩) (fun zi121 hp117 H locs hq120 hw hS => ?_)
    obtain ⟨ok118, F119, bd122⟩ := hq120
    have hw : PW G cy K ln Ls A hp117 H := hw
    refine lv_pop hx hb dX12_isAhead_24 rfl ?_
    refine lv_aload_n hx hb dX12_isAhead_25 rfl (lv_at hl 1 rfl) ?_
    obtain ⟨qa124, eq123, kd125⟩ := rd_13050 ok118 kd900
    refine p_get (ci := 12) (v := .ref qa124) (C := RX12) (T := TX12) (N := 69) hx hb hT iw_X12 hown hK hw hW kd900 (by decide) rfl rfl 50 (by decide) eq123 (hT _ tb_1424) (fun _ h9 => h9) dX12_isAhead_26 ?_
    refine lv_iconst (v := 4) hx hb dX12_isAhead_29 (by decide) ?_
    refine lv_iload_n hx hb dX12_isAhead_30 rfl (lv_at hl 3 rfl) ?_
    refine lv_iadd hx hb dX12_isAhead_31 (lv_topi (fun zi126 ea127 => ?_))
    have bd128 : (4 : Int) ≤ zi126.toInt ∧ zi126.toInt ≤ 11 := b_iadd ea127 bc_4 bd902 (by decide) (by decide) (by decide) (by decide)
    have qe129 : zi126.toInt = (4 : Int32).toInt + (zi902 : Int32).toInt := e_iadd ea127 bc_4 bd902 (by decide) (by decide)
    have qe130 : zi126.toInt = 4 + zi902.toInt := by have ha : (4 : Int32).toInt = 4 := (by decide); rw [ha] at qe129; exact qe129
    obtain ⟨zi132, eq131⟩ := rd_93000 ok118 kd125 ((zi126 : Int32).toNatClampNeg)
    refine p_iald (v := zi132) hx hb hK hw hW kd125 (by decide) rfl (hW.len kd125 (n := 40) rfl (by decide)) (vp_b bd128 (by decide) (by decide)) eq131 dX12_isAhead_32 ?_
    refine lv_aload_n hx hb dX12_isAhead_33 rfl (lv_at hl 1 rfl) ?_
    obtain ⟨qa134, eq133, kd135⟩ := rd_13049 ok118 kd900
    refine p_get (ci := 12) (v := .ref qa134) (C := RX12) (T := TX12) (N := 69) hx hb hT iw_X12 hown hK hw hW kd900 (by decide) rfl rfl 49 (by decide) eq133 (hT _ tb_1423) (fun _ h9 => h9) dX12_isAhead_34 ?_
    refine lv_iconst (v := 4) hx hb dX12_isAhead_37 (by decide) ?_
    refine lv_iload_n hx hb dX12_isAhead_38 rfl (lv_at hl 3 rfl) ?_
    refine lv_iadd hx hb dX12_isAhead_39 (lv_topi (fun zi136 ea137 => ?_))
    have bd138 : (4 : Int) ≤ zi136.toInt ∧ zi136.toInt ≤ 11 := b_iadd ea137 bc_4 bd902 (by decide) (by decide) (by decide) (by decide)
    have qe139 : zi136.toInt = (4 : Int32).toInt + (zi902 : Int32).toInt := e_iadd ea137 bc_4 bd902 (by decide) (by decide)
    have qe140 : zi136.toInt = 4 + zi902.toInt := by have ha : (4 : Int32).toInt = 4 := (by decide); rw [ha] at qe139; exact qe139
    obtain ⟨zi142, eq141⟩ := rd_92000 ok118 kd135 ((zi136 : Int32).toNatClampNeg)
    refine p_iald (v := zi142) hx hb hK hw hW kd135 (by decide) rfl (hW.len kd135 (n := 40) rfl (by decide)) (vp_b bd138 (by decide) (by decide)) eq141 dX12_isAhead_40 ?_
    have eq144 : hp117 qa900 55 = .int 2 := Eq.trans (Fr.at (cq := 13055) F119 kd900 (cd_o (by decide)) (by decide)) eq113
    have eq145 : hp117 qa900 28 = .ref qa20 := Eq.trans (Fr.at (cq := 13028) F119 kd900 (cd_o (by decide)) (by decide)) (Eq.trans (Fr.at (cq := 13028) F110 kd900 (cd_o (by decide)) (by decide)) eq19)
    have eq146 : hp117 qa900 18 = .int zi23 := Eq.trans (Fr.at (cq := 13018) F119 kd900 (cd_o (by decide)) (by decide)) (Eq.trans (Fr.at (cq := 13018) F110 kd900 (cd_o (by decide)) (by decide)) eq22)
    have eq147 : hp117 qa20 (zi23 : Int32).toNatClampNeg = .int zi26 := Eq.trans (Fr.at (cq := 74000) F119 kd21 (cd_a (by decide)) (by decide)) (Eq.trans (Fr.at (cq := 74000) F110 kd21 (cd_a (by decide)) (by decide)) eq25)
    have eq148 : hp117 qa900 56 = .ref qa5 := Eq.trans (Fr.at (cq := 13056) F119 kd900 (cd_o (by decide)) (by decide)) eq114
    have eq149 : hp117 qa5 (0 : Int32).toNatClampNeg = .int zi8 := Eq.trans (Fr.at (cq := 95000) F119 kd6 (cd_a (by decide)) (by decide)) eq115
    have eq150 : hp117 qa5 (1 : Int32).toNatClampNeg = .int zi11 := Eq.trans (Fr.at (cq := 95000) F119 kd6 (cd_a (by decide)) (by decide)) (Eq.trans (Fr.at (cq := 95000) F110 kd6 (cd_a (by decide)) (by decide)) eq10)
    have eq151 : hp117 qa5 (2 : Int32).toNatClampNeg = .int zi14 := Eq.trans (Fr.at (cq := 95000) F119 kd6 (cd_a (by decide)) (by decide)) (Eq.trans (Fr.at (cq := 95000) F110 kd6 (cd_a (by decide)) (by decide)) eq13)
    have eq152 : hp117 qa5 (3 : Int32).toNatClampNeg = .int zi17 := Eq.trans (Fr.at (cq := 95000) F119 kd6 (cd_a (by decide)) (by decide)) (Eq.trans (Fr.at (cq := 95000) F110 kd6 (cd_a (by decide)) (by decide)) eq16)
    refine lv_icmp_le (tgt := 46) hx hb dX12_isAhead_41 (by decide) (fun cn143 => ?_) (fun cn143 => ?_)
    · skip
      have tf153 : zi132.toInt ≤ zi142.toInt := (fa_le _ _).mp cn143
      refine lv_iinc (v := 1) (lv' := [(3, .int 1), (0, .ref qa900), (1, .int zi901), (2, .int zi902)]) hx hb dX12_isAhead_46 hl (k := 0) rfl (by decide) (by decide) rfl (fun ls hl => ?_)
      refine lv_goto (tgt := 6) hx hb dX12_isAhead_49 (by decide) ?_
      refine lv_iload_n hx hb dX12_isAhead_6 rfl (lv_at hl 0 rfl) ?_
      refine lv_aload_n hx hb dX12_isAhead_7 rfl (lv_at hl 1 rfl) ?_
      refine p_get (ci := 12) (v := .int 2) (C := RX12) (T := TX12) (N := 69) hx hb hT iw_X12 hown hK hw hW kd900 (by decide) rfl rfl 55 (by decide) eq144 (hT _ tb_1429) (fun _ h9 => h9) dX12_isAhead_8 ?_
      refine lv_icmp_ge (tgt := 52) hx hb dX12_isAhead_11 (by decide) (fun c => absurd c (d_nle bc_2 bc_1 (by decide))) (fun _ => ?_)
      refine lv_aload_n hx hb dX12_isAhead_14 rfl (lv_at hl 1 rfl) ?_
      refine lv_aload_n hx hb dX12_isAhead_15 rfl (lv_at hl 1 rfl) ?_
      refine p_get (ci := 12) (v := .ref qa5) (C := RX12) (T := TX12) (N := 69) hx hb hT iw_X12 hown hK hw hW kd900 (by decide) rfl rfl 56 (by decide) eq148 (hT _ tb_1430) (fun _ h9 => h9) dX12_isAhead_16 ?_
      refine lv_iload_n hx hb dX12_isAhead_19 rfl (lv_at hl 0 rfl) ?_
      refine p_iald (v := zi11) hx hb hK hw hW kd6 (by decide) rfl (hW.len kd6 (n := 6) rfl (by decide)) (vp_b bc_1 (by decide) (by decide)) eq150 dX12_isAhead_20 ?_
      have pd154 : LW hp117 qa900 := LW_fr ok109 kd900 (show Fr [13048, 13051, 90000, 91000, 93000] K hp108 hp117 from (Fr.tr (Fr.rf) F119 (by decide))) (by decide) pd116
      refine kq_i hw hS hA (va_runV (As := [.int zi11]) (rest := []) ⟨hx, hb, hml, hown, hT⟩ (cX12_sayNow_0 l G cy ev K ln Ls hW _ hp117 ok118 qa900 zi11 kd900 (b_wid2 bd107 (by decide) (by decide)) pd154) (cwV 1 hT (good_V tb_1809 tb_1806 tb_1808 tb_87 tb_122) rfl rfl rfl (by decide +kernel) ⟨Nat.le_of_ble_eq_true rfl, Nat.le_of_ble_eq_true rfl⟩) (pool_preV (ci := 12) hK hE hS hA hw hW kd900 (by decide) rfl) rfl rfl hl.1 rfl (lv_room (Nat.le_of_ble_eq_true rfl)) dX12_isAhead_21 ⟨Nat.le_of_ble_eq_true rfl, Nat.le_of_ble_eq_true rfl⟩) (fun zi159 hp155 H locs hq158 hw hS => ?_)
      obtain ⟨ok156, F157, bd160⟩ := hq158
      have hw : PW G cy K ln Ls A hp155 H := hw
      refine lv_pop hx hb dX12_isAhead_24 rfl ?_
      refine lv_aload_n hx hb dX12_isAhead_25 rfl (lv_at hl 1 rfl) ?_
      have eq161 : hp155 qa900 50 = .ref qa124 := Eq.trans (Fr.at (cq := 13050) F157 kd900 (cd_o (by decide)) (by decide)) eq123
      refine p_get (ci := 12) (v := .ref qa124) (C := RX12) (T := TX12) (N := 69) hx hb hT iw_X12 hown hK hw hW kd900 (by decide) rfl rfl 50 (by decide) eq161 (hT _ tb_1424) (fun _ h9 => h9) dX12_isAhead_26 ?_
      refine lv_iconst (v := 4) hx hb dX12_isAhead_29 (by decide) ?_
      refine lv_iload_n hx hb dX12_isAhead_30 rfl (lv_at hl 3 rfl) ?_
      refine lv_iadd hx hb dX12_isAhead_31 (lv_topi (fun zi162 ea163 => ?_))
      have bd164 : (4 : Int) ≤ zi162.toInt ∧ zi162.toInt ≤ 11 := b_iadd ea163 bc_4 bd902 (by decide) (by decide) (by decide) (by decide)
      have qe165 : zi162.toInt = (4 : Int32).toInt + (zi902 : Int32).toInt := e_iadd ea163 bc_4 bd902 (by decide) (by decide)
      have qe166 : zi162.toInt = 4 + zi902.toInt := by have ha : (4 : Int32).toInt = 4 := (by decide); rw [ha] at qe165; exact qe165
      obtain ⟨zi168, eq167⟩ := rd_93000 ok156 kd125 ((zi162 : Int32).toNatClampNeg)
      refine p_iald (v := zi168) hx hb hK hw hW kd125 (by decide) rfl (hW.len kd125 (n := 40) rfl (by decide)) (vp_b bd164 (by decide) (by decide)) eq167 dX12_isAhead_32 ?_
      refine lv_aload_n hx hb dX12_isAhead_33 rfl (lv_at hl 1 rfl) ?_
      have eq169 : hp155 qa900 49 = .ref qa134 := Eq.trans (Fr.at (cq := 13049) F157 kd900 (cd_o (by decide)) (by decide)) eq133
      refine p_get (ci := 12) (v := .ref qa134) (C := RX12) (T := TX12) (N := 69) hx hb hT iw_X12 hown hK hw hW kd900 (by decide) rfl rfl 49 (by decide) eq169 (hT _ tb_1423) (fun _ h9 => h9) dX12_isAhead_34 ?_
      refine lv_iconst (v := 4) hx hb dX12_isAhead_37 (by decide) ?_
      refine lv_iload_n hx hb dX12_isAhead_38 rfl (lv_at hl 3 rfl) ?_
      refine lv_iadd hx hb dX12_isAhead_39 (lv_topi (fun zi170 ea171 => ?_))
      have bd172 : (4 : Int) ≤ zi170.toInt ∧ zi170.toInt ≤ 11 := b_iadd ea171 bc_4 bd902 (by decide) (by decide) (by decide) (by decide)
      have qe173 : zi170.toInt = (4 : Int32).toInt + (zi902 : Int32).toInt := e_iadd ea171 bc_4 bd902 (by decide) (by decide)
      have qe174 : zi170.toInt = 4 + zi902.toInt := by have ha : (4 : Int32).toInt = 4 := (by decide); rw [ha] at qe173; exact qe173
      obtain ⟨zi176, eq175⟩ := rd_92000 ok156 kd135 ((zi170 : Int32).toNatClampNeg)
      refine p_iald (v := zi176) hx hb hK hw hW kd135 (by decide) rfl (hW.len kd135 (n := 40) rfl (by decide)) (vp_b bd172 (by decide) (by decide)) eq175 dX12_isAhead_40 ?_
      have eq178 : hp155 qa900 55 = .int 2 := Eq.trans (Fr.at (cq := 13055) F157 kd900 (cd_o (by decide)) (by decide)) eq144
      have eq179 : hp155 qa900 28 = .ref qa20 := Eq.trans (Fr.at (cq := 13028) F157 kd900 (cd_o (by decide)) (by decide)) eq145
      have eq180 : hp155 qa900 18 = .int zi23 := Eq.trans (Fr.at (cq := 13018) F157 kd900 (cd_o (by decide)) (by decide)) eq146
      have eq181 : hp155 qa20 (zi23 : Int32).toNatClampNeg = .int zi26 := Eq.trans (Fr.at (cq := 74000) F157 kd21 (cd_a (by decide)) (by decide)) eq147
      have eq182 : hp155 qa900 56 = .ref qa5 := Eq.trans (Fr.at (cq := 13056) F157 kd900 (cd_o (by decide)) (by decide)) eq148
      have eq183 : hp155 qa5 (0 : Int32).toNatClampNeg = .int zi8 := Eq.trans (Fr.at (cq := 95000) F157 kd6 (cd_a (by decide)) (by decide)) eq149
      have eq184 : hp155 qa5 (1 : Int32).toNatClampNeg = .int zi11 := Eq.trans (Fr.at (cq := 95000) F157 kd6 (cd_a (by decide)) (by decide)) eq150
      have eq185 : hp155 qa5 (2 : Int32).toNatClampNeg = .int zi14 := Eq.trans (Fr.at (cq := 95000) F157 kd6 (cd_a (by decide)) (by decide)) eq151
      have eq186 : hp155 qa5 (3 : Int32).toNatClampNeg = .int zi17 := Eq.trans (Fr.at (cq := 95000) F157 kd6 (cd_a (by decide)) (by decide)) eq152
      refine lv_icmp_le (tgt := 46) hx hb dX12_isAhead_41 (by decide) (fun cn177 => ?_) (fun cn177 => ?_)
      · skip
        have tf187 : zi168.toInt ≤ zi176.toInt := (fa_le _ _).mp cn177
        refine lv_iinc (v := 2) (lv' := [(3, .int 2), (0, .ref qa900), (1, .int zi901), (2, .int zi902)]) hx hb dX12_isAhead_46 hl (k := 0) rfl (by decide) (by decide) rfl (fun ls hl => ?_)
        refine lv_goto (tgt := 6) hx hb dX12_isAhead_49 (by decide) ?_
        refine lv_iload_n hx hb dX12_isAhead_6 rfl (lv_at hl 0 rfl) ?_
        refine lv_aload_n hx hb dX12_isAhead_7 rfl (lv_at hl 1 rfl) ?_
        refine p_get (ci := 12) (v := .int 2) (C := RX12) (T := TX12) (N := 69) hx hb hT iw_X12 hown hK hw hW kd900 (by decide) rfl rfl 55 (by decide) eq178 (hT _ tb_1429) (fun _ h9 => h9) dX12_isAhead_8 ?_
        refine lv_icmp_ge (tgt := 52) hx hb dX12_isAhead_11 (by decide) (fun _ => ?_) (fun c => absurd (d_le bc_2 bc_2 (by decide)) c)
        refine lv_aload_n hx hb dX12_isAhead_52 rfl (lv_at hl 1 rfl) ?_
        refine p_get (ci := 12) (v := .ref qa124) (C := RX12) (T := TX12) (N := 69) hx hb hT iw_X12 hown hK hw hW kd900 (by decide) rfl rfl 50 (by decide) eq161 (hT _ tb_1424) (fun _ h9 => h9) dX12_isAhead_53 ?_
        refine lv_iconst (v := 4) hx hb dX12_isAhead_56 (by decide) ?_
        refine lv_iload_n hx hb dX12_isAhead_57 rfl (lv_at hl 2 rfl) ?_
        refine lv_iadd hx hb dX12_isAhead_58 (lv_topi (fun zi188 ea189 => ?_))
        have bd190 : (4 : Int) ≤ zi188.toInt ∧ zi188.toInt ≤ 11 := b_iadd ea189 bc_4 bd901 (by decide) (by decide) (by decide) (by decide)
        have qe191 : zi188.toInt = (4 : Int32).toInt + (zi901 : Int32).toInt := e_iadd ea189 bc_4 bd901 (by decide) (by decide)
        have qe192 : zi188.toInt = 4 + zi901.toInt := by have ha : (4 : Int32).toInt = 4 := (by decide); rw [ha] at qe191; exact qe191
        obtain ⟨zi194, eq193⟩ := rd_93000 ok156 kd125 ((zi188 : Int32).toNatClampNeg)
        refine p_iald (v := zi194) hx hb hK hw hW kd125 (by decide) rfl (hW.len kd125 (n := 40) rfl (by decide)) (vp_b bd190 (by decide) (by decide)) eq193 dX12_isAhead_59 ?_
        refine lv_aload_n hx hb dX12_isAhead_60 rfl (lv_at hl 1 rfl) ?_
        refine p_get (ci := 12) (v := .ref qa134) (C := RX12) (T := TX12) (N := 69) hx hb hT iw_X12 hown hK hw hW kd900 (by decide) rfl rfl 49 (by decide) eq169 (hT _ tb_1423) (fun _ h9 => h9) dX12_isAhead_61 ?_
        refine lv_iconst (v := 4) hx hb dX12_isAhead_64 (by decide) ?_
        refine lv_iload_n hx hb dX12_isAhead_65 rfl (lv_at hl 2 rfl) ?_
        refine lv_iadd hx hb dX12_isAhead_66 (lv_topi (fun zi195 ea196 => ?_))
        have bd197 : (4 : Int) ≤ zi195.toInt ∧ zi195.toInt ≤ 11 := b_iadd ea196 bc_4 bd901 (by decide) (by decide) (by decide) (by decide)
        have qe198 : zi195.toInt = (4 : Int32).toInt + (zi901 : Int32).toInt := e_iadd ea196 bc_4 bd901 (by decide) (by decide)
        have qe199 : zi195.toInt = 4 + zi901.toInt := by have ha : (4 : Int32).toInt = 4 := (by decide); rw [ha] at qe198; exact qe198
        obtain ⟨zi201, eq200⟩ := rd_92000 ok156 kd135 ((zi195 : Int32).toNatClampNeg)
        refine p_iald (v := zi201) hx hb hK hw hW kd135 (by decide) rfl (hW.len kd135 (n := 40) rfl (by decide)) (vp_b bd197 (by decide) (by decide)) eq200 dX12_isAhead_67 ?_
        refine lv_icmp_le (tgt := 75) hx hb dX12_isAhead_68 (by decide) (fun cn202 => ?_) (fun cn202 => ?_)
        · skip
          have tf203 : zi194.toInt ≤ zi201.toInt := (fa_le _ _).mp cn202
          refine lv_iconst (v := 0) hx hb dX12_isAhead_75 (by decide) ?_
          rw [hQ]
          exact kz_i hx hb hr hlocks hS (nz_n bc_0 (by decide) (by decide)) hp155 hw ⟨ok156, (Fr.tr (Fr.tr (Fr.tr (Fr.rf) F110 (by decide)) F119 (by decide)) F157 (by decide)), (b_wid2 bc_0 (by decide) (by decide))⟩ (Nat.le_of_ble_eq_true rfl) (Nat.le_of_ble_eq_true rfl) dX12_isAhead_76
        · skip
          have tf204 : zi201.toInt < zi194.toInt := (fa_lt _ _).mp (Int32.not_le.mp cn202)
          have bd205 : (-2147483648 : Int) ≤ zi201.toInt ∧ zi201.toInt ≤ 2147483646 := r_lt_x (Int32.not_le.mp cn202) (b_all zi201) (b_all zi194) (by decide) (by decide)
          have bd206 : (-2147483647 : Int) ≤ zi194.toInt ∧ zi194.toInt ≤ 2147483647 := r_lt_y (Int32.not_le.mp cn202) (b_all zi201) (b_all zi194) (by decide) (by decide)
          refine lv_iconst (v := 1) hx hb dX12_isAhead_71 (by decide) ?_
          refine lv_goto (tgt := 76) hx hb dX12_isAhead_72 (by decide) ?_
          rw [hQ]
          exact kz_i hx hb hr hlocks hS (nz_n bc_1 (by decide) (by decide)) hp155 hw ⟨ok156, (Fr.tr (Fr.tr (Fr.tr (Fr.rf) F110 (by decide)) F119 (by decide)) F157 (by decide)), (b_wid2 bc_1 (by decide) (by decide))⟩ (Nat.le_of_ble_eq_true rfl) (Nat.le_of_ble_eq_true rfl) dX12_isAhead_76
      · skip
        have tf207 : zi176.toInt < zi168.toInt := (fa_lt _ _).mp (Int32.not_le.mp cn177)
        have bd208 : (-2147483648 : Int) ≤ zi176.toInt ∧ zi176.toInt ≤ 2147483646 := r_lt_x (Int32.not_le.mp cn177) (b_all zi176) (b_all zi168) (by decide) (by decide)
        have bd209 : (-2147483647 : Int) ≤ zi168.toInt ∧ zi168.toInt ≤ 2147483647 := r_lt_y (Int32.not_le.mp cn177) (b_all zi176) (b_all zi168) (by decide) (by decide)
        refine lv_iconst (v := 0) hx hb dX12_isAhead_44 (by decide) ?_
        rw [hQ]
        exact kz_i hx hb hr hlocks hS (nz_n bc_0 (by decide) (by decide)) hp155 hw ⟨ok156, (Fr.tr (Fr.tr (Fr.tr (Fr.rf) F110 (by decide)) F119 (by decide)) F157 (by decide)), (b_wid2 bc_0 (by decide) (by decide))⟩ (Nat.le_of_ble_eq_true rfl) (Nat.le_of_ble_eq_true rfl) dX12_isAhead_45
    · skip
      have tf210 : zi142.toInt < zi132.toInt := (fa_lt _ _).mp (Int32.not_le.mp cn143)
      have bd211 : (-2147483648 : Int) ≤ zi142.toInt ∧ zi142.toInt ≤ 2147483646 := r_lt_x (Int32.not_le.mp cn143) (b_all zi142) (b_all zi132) (by decide) (by decide)
      have bd212 : (-2147483647 : Int) ≤ zi132.toInt ∧ zi132.toInt ≤ 2147483647 := r_lt_y (Int32.not_le.mp cn143) (b_all zi142) (b_all zi132) (by decide) (by decide)
      refine lv_iconst (v := 0) hx hb dX12_isAhead_44 (by decide) ?_
      rw [hQ]
      exact kz_i hx hb hr hlocks hS (nz_n bc_0 (by decide) (by decide)) hp117 hw ⟨ok118, (Fr.tr (Fr.tr (Fr.rf) F110 (by decide)) F119 (by decide)), (b_wid2 bc_0 (by decide) (by decide))⟩ (Nat.le_of_ble_eq_true rfl) (Nat.le_of_ble_eq_true rfl) dX12_isAhead_45
  by_cases cn31 : zi2 = 3
  · skip
    have eq213 : hp0 qa900 55 = .int 3 := Eq.trans eq1 (congrArg Value.int cn31)
    have tf214 : zi2.toInt = 3 := (congrArg Int32.toInt cn31).trans (toi bc_3)
    have bd215 : (0 : Int) ≤ zi8.toInt ∧ zi8.toInt ≤ 15 := (by omega)
    have bd216 : (0 : Int) ≤ zi11.toInt ∧ zi11.toInt ≤ 15 := (by omega)
    have bd217 : (0 : Int) ≤ zi14.toInt ∧ zi14.toInt ≤ 15 := (by omega)
    refine lv_aload_n hx hb dX12_isAhead_0 rfl (lv_at hl 0 rfl) ?_
    refine kq_v hw hS hA (va_runV (As := []) (rest := []) ⟨hx, hb, hml, hown, hT⟩ (cX12_copies_0 l G cy ev K ln Ls hW _ hp0 ok0 qa900 kd900) (cwV 0 hT (good_V tb_1769 tb_1766 tb_1768 tb_81 tb_122) rfl rfl rfl (by decide +kernel) ⟨Nat.le_of_ble_eq_true rfl, Nat.le_of_ble_eq_true rfl⟩) (pool_preV (ci := 12) hK hE hS hA hw hW kd900 (by decide) rfl) rfl rfl hl.1 rfl (lv_room (Nat.le_of_ble_eq_true rfl)) dX12_isAhead_1 ⟨Nat.le_of_ble_eq_true rfl, Nat.le_of_ble_eq_true rfl⟩) (fun hp218 H locs hq221 hw hS => ?_)
    obtain ⟨ok219, F220⟩ := hq221
    have hw : PW G cy K ln Ls A hp218 H := hw
    refine lv_iconst (v := 0) hx hb dX12_isAhead_4 (by decide) ?_
    refine lv_istore_n (lv' := [(3, .int 0), (0, .ref qa900), (1, .int zi901), (2, .int zi902)]) hx hb dX12_isAhead_5 rfl hl (by decide) rfl (fun ls hl => ?_)
    refine lv_iload_n hx hb dX12_isAhead_6 rfl (lv_at hl 0 rfl) ?_
    refine lv_aload_n hx hb dX12_isAhead_7 rfl (lv_at hl 1 rfl) ?_
    have eq223 : hp218 qa900 55 = .int 3 := Eq.trans (Fr.at (cq := 13055) F220 kd900 (cd_o (by decide)) (by decide)) eq213
    refine p_get (ci := 12) (v := .int 3) (C := RX12) (T := TX12) (N := 69) hx hb hT iw_X12 hown hK hw hW kd900 (by decide) rfl rfl 55 (by decide) eq223 (hT _ tb_1429) (fun _ h9 => h9) dX12_isAhead_8 ?_
    refine lv_icmp_ge (tgt := 52) hx hb dX12_isAhead_11 (by decide) (fun c => absurd c (d_nle bc_3 bc_0 (by decide))) (fun _ => ?_)
    refine lv_aload_n hx hb dX12_isAhead_14 rfl (lv_at hl 1 rfl) ?_
    refine lv_aload_n hx hb dX12_isAhead_15 rfl (lv_at hl 1 rfl) ?_
    have eq224 : hp218 qa900 56 = .ref qa5 := Eq.trans (Fr.at (cq := 13056) F220 kd900 (cd_o (by decide)) (by decide)) eq4
    refine p_get (ci := 12) (v := .ref qa5) (C := RX12) (T := TX12) (N := 69) hx hb hT iw_X12 hown hK hw hW kd900 (by decide) rfl rfl 56 (by decide) eq224 (hT _ tb_1430) (fun _ h9 => h9) dX12_isAhead_16 ?_
    refine lv_iload_n hx hb dX12_isAhead_19 rfl (lv_at hl 0 rfl) ?_
    have eq225 : hp218 qa5 (0 : Int32).toNatClampNeg = .int zi8 := Eq.trans (Fr.at (cq := 95000) F220 kd6 (cd_a (by decide)) (by decide)) eq7
    refine p_iald (v := zi8) hx hb hK hw hW kd6 (by decide) rfl (hW.len kd6 (n := 6) rfl (by decide)) (vp_b bc_0 (by decide) (by decide)) eq225 dX12_isAhead_20 ?_
    have pd226 : LW hp218 qa900 := LW_fr ok0 kd900 (show Fr [93000] K hp0 hp218 from (Fr.tr (Fr.rf) F220 (by decide))) (by decide) pdLW
    refine kq_i hw hS hA (va_runV (As := [.int zi8]) (rest := []) ⟨hx, hb, hml, hown, hT⟩ (cX12_sayNow_0 l G cy ev K ln Ls hW _ hp218 ok219 qa900 zi8 kd900 (b_wid2 bd215 (by decide) (by decide)) pd226) (cwV 1 hT (good_V tb_1809 tb_1806 tb_1808 tb_87 tb_122) rfl rfl rfl (by decide +kernel) ⟨Nat.le_of_ble_eq_true rfl, Nat.le_of_ble_eq_true rfl⟩) (pool_preV (ci := 12) hK hE hS hA hw hW kd900 (by decide) rfl) rfl rfl hl.1 rfl (lv_room (Nat.le_of_ble_eq_true rfl)) dX12_isAhead_21 ⟨Nat.le_of_ble_eq_true rfl, Nat.le_of_ble_eq_true rfl⟩) (fun zi231 hp227 H locs hq230 hw hS => ?_)
    obtain ⟨ok228, F229, bd232⟩ := hq230
    have hw : PW G cy K ln Ls A hp227 H := hw
    refine lv_pop hx hb dX12_isAhead_24 rfl ?_
    refine lv_aload_n hx hb dX12_isAhead_25 rfl (lv_at hl 1 rfl) ?_
    obtain ⟨qa234, eq233, kd235⟩ := rd_13050 ok228 kd900
    refine p_get (ci := 12) (v := .ref qa234) (C := RX12) (T := TX12) (N := 69) hx hb hT iw_X12 hown hK hw hW kd900 (by decide) rfl rfl 50 (by decide) eq233 (hT _ tb_1424) (fun _ h9 => h9) dX12_isAhead_26 ?_
    refine lv_iconst (v := 4) hx hb dX12_isAhead_29 (by decide) ?_
    refine lv_iload_n hx hb dX12_isAhead_30 rfl (lv_at hl 3 rfl) ?_
    refine lv_iadd hx hb dX12_isAhead_31 (lv_topi (fun zi236 ea237 => ?_))
    have bd238 : (4 : Int) ≤ zi236.toInt ∧ zi236.toInt ≤ 11 := b_iadd ea237 bc_4 bd902 (by decide) (by decide) (by decide) (by decide)
    have qe239 : zi236.toInt = (4 : Int32).toInt + (zi902 : Int32).toInt := e_iadd ea237 bc_4 bd902 (by decide) (by decide)
    have qe240 : zi236.toInt = 4 + zi902.toInt := by have ha : (4 : Int32).toInt = 4 := (by decide); rw [ha] at qe239; exact qe239
    obtain ⟨zi242, eq241⟩ := rd_93000 ok228 kd235 ((zi236 : Int32).toNatClampNeg)
    refine p_iald (v := zi242) hx hb hK hw hW kd235 (by decide) rfl (hW.len kd235 (n := 40) rfl (by decide)) (vp_b bd238 (by decide) (by decide)) eq241 dX12_isAhead_32 ?_
    refine lv_aload_n hx hb dX12_isAhead_33 rfl (lv_at hl 1 rfl) ?_
    obtain ⟨qa244, eq243, kd245⟩ := rd_13049 ok228 kd900
    refine p_get (ci := 12) (v := .ref qa244) (C := RX12) (T := TX12) (N := 69) hx hb hT iw_X12 hown hK hw hW kd900 (by decide) rfl rfl 49 (by decide) eq243 (hT _ tb_1423) (fun _ h9 => h9) dX12_isAhead_34 ?_
    refine lv_iconst (v := 4) hx hb dX12_isAhead_37 (by decide) ?_
    refine lv_iload_n hx hb dX12_isAhead_38 rfl (lv_at hl 3 rfl) ?_
    refine lv_iadd hx hb dX12_isAhead_39 (lv_topi (fun zi246 ea247 => ?_))
    have bd248 : (4 : Int) ≤ zi246.toInt ∧ zi246.toInt ≤ 11 := b_iadd ea247 bc_4 bd902 (by decide) (by decide) (by decide) (by decide)
    have qe249 : zi246.toInt = (4 : Int32).toInt + (zi902 : Int32).toInt := e_iadd ea247 bc_4 bd902 (by decide) (by decide)
    have qe250 : zi246.toInt = 4 + zi902.toInt := by have ha : (4 : Int32).toInt = 4 := (by decide); rw [ha] at qe249; exact qe249
    obtain ⟨zi252, eq251⟩ := rd_92000 ok228 kd245 ((zi246 : Int32).toNatClampNeg)
    refine p_iald (v := zi252) hx hb hK hw hW kd245 (by decide) rfl (hW.len kd245 (n := 40) rfl (by decide)) (vp_b bd248 (by decide) (by decide)) eq251 dX12_isAhead_40 ?_
    have eq254 : hp227 qa900 55 = .int 3 := Eq.trans (Fr.at (cq := 13055) F229 kd900 (cd_o (by decide)) (by decide)) eq223
    have eq255 : hp227 qa900 28 = .ref qa20 := Eq.trans (Fr.at (cq := 13028) F229 kd900 (cd_o (by decide)) (by decide)) (Eq.trans (Fr.at (cq := 13028) F220 kd900 (cd_o (by decide)) (by decide)) eq19)
    have eq256 : hp227 qa900 18 = .int zi23 := Eq.trans (Fr.at (cq := 13018) F229 kd900 (cd_o (by decide)) (by decide)) (Eq.trans (Fr.at (cq := 13018) F220 kd900 (cd_o (by decide)) (by decide)) eq22)
    have eq257 : hp227 qa20 (zi23 : Int32).toNatClampNeg = .int zi26 := Eq.trans (Fr.at (cq := 74000) F229 kd21 (cd_a (by decide)) (by decide)) (Eq.trans (Fr.at (cq := 74000) F220 kd21 (cd_a (by decide)) (by decide)) eq25)
    have eq258 : hp227 qa900 56 = .ref qa5 := Eq.trans (Fr.at (cq := 13056) F229 kd900 (cd_o (by decide)) (by decide)) eq224
    have eq259 : hp227 qa5 (0 : Int32).toNatClampNeg = .int zi8 := Eq.trans (Fr.at (cq := 95000) F229 kd6 (cd_a (by decide)) (by decide)) eq225
    have eq260 : hp227 qa5 (1 : Int32).toNatClampNeg = .int zi11 := Eq.trans (Fr.at (cq := 95000) F229 kd6 (cd_a (by decide)) (by decide)) (Eq.trans (Fr.at (cq := 95000) F220 kd6 (cd_a (by decide)) (by decide)) eq10)
    have eq261 : hp227 qa5 (2 : Int32).toNatClampNeg = .int zi14 := Eq.trans (Fr.at (cq := 95000) F229 kd6 (cd_a (by decide)) (by decide)) (Eq.trans (Fr.at (cq := 95000) F220 kd6 (cd_a (by decide)) (by decide)) eq13)
    have eq262 : hp227 qa5 (3 : Int32).toNatClampNeg = .int zi17 := Eq.trans (Fr.at (cq := 95000) F229 kd6 (cd_a (by decide)) (by decide)) (Eq.trans (Fr.at (cq := 95000) F220 kd6 (cd_a (by decide)) (by decide)) eq16)
    refine lv_icmp_le (tgt := 46) hx hb dX12_isAhead_41 (by decide) (fun cn253 => ?_) (fun cn253 => ?_)
    · skip
      have tf263 : zi242.toInt ≤ zi252.toInt := (fa_le _ _).mp cn253
      refine lv_iinc (v := 1) (lv' := [(3, .int 1), (0, .ref qa900), (1, .int zi901), (2, .int zi902)]) hx hb dX12_isAhead_46 hl (k := 0) rfl (by decide) (by decide) rfl (fun ls hl => ?_)
      refine lv_goto (tgt := 6) hx hb dX12_isAhead_49 (by decide) ?_
      refine lv_iload_n hx hb dX12_isAhead_6 rfl (lv_at hl 0 rfl) ?_
      refine lv_aload_n hx hb dX12_isAhead_7 rfl (lv_at hl 1 rfl) ?_
      refine p_get (ci := 12) (v := .int 3) (C := RX12) (T := TX12) (N := 69) hx hb hT iw_X12 hown hK hw hW kd900 (by decide) rfl rfl 55 (by decide) eq254 (hT _ tb_1429) (fun _ h9 => h9) dX12_isAhead_8 ?_
      refine lv_icmp_ge (tgt := 52) hx hb dX12_isAhead_11 (by decide) (fun c => absurd c (d_nle bc_3 bc_1 (by decide))) (fun _ => ?_)
      refine lv_aload_n hx hb dX12_isAhead_14 rfl (lv_at hl 1 rfl) ?_
      refine lv_aload_n hx hb dX12_isAhead_15 rfl (lv_at hl 1 rfl) ?_
      refine p_get (ci := 12) (v := .ref qa5) (C := RX12) (T := TX12) (N := 69) hx hb hT iw_X12 hown hK hw hW kd900 (by decide) rfl rfl 56 (by decide) eq258 (hT _ tb_1430) (fun _ h9 => h9) dX12_isAhead_16 ?_
      refine lv_iload_n hx hb dX12_isAhead_19 rfl (lv_at hl 0 rfl) ?_
      refine p_iald (v := zi11) hx hb hK hw hW kd6 (by decide) rfl (hW.len kd6 (n := 6) rfl (by decide)) (vp_b bc_1 (by decide) (by decide)) eq260 dX12_isAhead_20 ?_
      have pd264 : LW hp227 qa900 := LW_fr ok219 kd900 (show Fr [13048, 13051, 90000, 91000, 93000] K hp218 hp227 from (Fr.tr (Fr.rf) F229 (by decide))) (by decide) pd226
      refine kq_i hw hS hA (va_runV (As := [.int zi11]) (rest := []) ⟨hx, hb, hml, hown, hT⟩ (cX12_sayNow_0 l G cy ev K ln Ls hW _ hp227 ok228 qa900 zi11 kd900 (b_wid2 bd216 (by decide) (by decide)) pd264) (cwV 1 hT (good_V tb_1809 tb_1806 tb_1808 tb_87 tb_122) rfl rfl rfl (by decide +kernel) ⟨Nat.le_of_ble_eq_true rfl, Nat.le_of_ble_eq_true rfl⟩) (pool_preV (ci := 12) hK hE hS hA hw hW kd900 (by decide) rfl) rfl rfl hl.1 rfl (lv_room (Nat.le_of_ble_eq_true rfl)) dX12_isAhead_21 ⟨Nat.le_of_ble_eq_true rfl, Nat.le_of_ble_eq_true rfl⟩) (fun zi269 hp265 H locs hq268 hw hS => ?_)
      obtain ⟨ok266, F267, bd270⟩ := hq268
      have hw : PW G cy K ln Ls A hp265 H := hw
      refine lv_pop hx hb dX12_isAhead_24 rfl ?_
      refine lv_aload_n hx hb dX12_isAhead_25 rfl (lv_at hl 1 rfl) ?_
      have eq271 : hp265 qa900 50 = .ref qa234 := Eq.trans (Fr.at (cq := 13050) F267 kd900 (cd_o (by decide)) (by decide)) eq233
      refine p_get (ci := 12) (v := .ref qa234) (C := RX12) (T := TX12) (N := 69) hx hb hT iw_X12 hown hK hw hW kd900 (by decide) rfl rfl 50 (by decide) eq271 (hT _ tb_1424) (fun _ h9 => h9) dX12_isAhead_26 ?_
      refine lv_iconst (v := 4) hx hb dX12_isAhead_29 (by decide) ?_
      refine lv_iload_n hx hb dX12_isAhead_30 rfl (lv_at hl 3 rfl) ?_
      refine lv_iadd hx hb dX12_isAhead_31 (lv_topi (fun zi272 ea273 => ?_))
      have bd274 : (4 : Int) ≤ zi272.toInt ∧ zi272.toInt ≤ 11 := b_iadd ea273 bc_4 bd902 (by decide) (by decide) (by decide) (by decide)
      have qe275 : zi272.toInt = (4 : Int32).toInt + (zi902 : Int32).toInt := e_iadd ea273 bc_4 bd902 (by decide) (by decide)
      have qe276 : zi272.toInt = 4 + zi902.toInt := by have ha : (4 : Int32).toInt = 4 := (by decide); rw [ha] at qe275; exact qe275
      obtain ⟨zi278, eq277⟩ := rd_93000 ok266 kd235 ((zi272 : Int32).toNatClampNeg)
      refine p_iald (v := zi278) hx hb hK hw hW kd235 (by decide) rfl (hW.len kd235 (n := 40) rfl (by decide)) (vp_b bd274 (by decide) (by decide)) eq277 dX12_isAhead_32 ?_
      refine lv_aload_n hx hb dX12_isAhead_33 rfl (lv_at hl 1 rfl) ?_
      have eq279 : hp265 qa900 49 = .ref qa244 := Eq.trans (Fr.at (cq := 13049) F267 kd900 (cd_o (by decide)) (by decide)) eq243
      refine p_get (ci := 12) (v := .ref qa244) (C := RX12) (T := TX12) (N := 69) hx hb hT iw_X12 hown hK hw hW kd900 (by decide) rfl rfl 49 (by decide) eq279 (hT _ tb_1423) (fun _ h9 => h9) dX12_isAhead_34 ?_
      refine lv_iconst (v := 4) hx hb dX12_isAhead_37 (by decide) ?_
      refine lv_iload_n hx hb dX12_isAhead_38 rfl (lv_at hl 3 rfl) ?_
      refine lv_iadd hx hb dX12_isAhead_39 (lv_topi (fun zi280 ea281 => ?_))
      have bd282 : (4 : Int) ≤ zi280.toInt ∧ zi280.toInt ≤ 11 := b_iadd ea281 bc_4 bd902 (by decide) (by decide) (by decide) (by decide)
      have qe283 : zi280.toInt = (4 : Int32).toInt + (zi902 : Int32).toInt := e_iadd ea281 bc_4 bd902 (by decide) (by decide)
      have qe284 : zi280.toInt = 4 + zi902.toInt := by have ha : (4 : Int32).toInt = 4 := (by decide); rw [ha] at qe283; exact qe283
      obtain ⟨zi286, eq285⟩ := rd_92000 ok266 kd245 ((zi280 : Int32).toNatClampNeg)
      refine p_iald (v := zi286) hx hb hK hw hW kd245 (by decide) rfl (hW.len kd245 (n := 40) rfl (by decide)) (vp_b bd282 (by decide) (by decide)) eq285 dX12_isAhead_40 ?_
      have eq288 : hp265 qa900 55 = .int 3 := Eq.trans (Fr.at (cq := 13055) F267 kd900 (cd_o (by decide)) (by decide)) eq254
      have eq289 : hp265 qa900 28 = .ref qa20 := Eq.trans (Fr.at (cq := 13028) F267 kd900 (cd_o (by decide)) (by decide)) eq255
      have eq290 : hp265 qa900 18 = .int zi23 := Eq.trans (Fr.at (cq := 13018) F267 kd900 (cd_o (by decide)) (by decide)) eq256
      have eq291 : hp265 qa20 (zi23 : Int32).toNatClampNeg = .int zi26 := Eq.trans (Fr.at (cq := 74000) F267 kd21 (cd_a (by decide)) (by decide)) eq257
      have eq292 : hp265 qa900 56 = .ref qa5 := Eq.trans (Fr.at (cq := 13056) F267 kd900 (cd_o (by decide)) (by decide)) eq258
      have eq293 : hp265 qa5 (0 : Int32).toNatClampNeg = .int zi8 := Eq.trans (Fr.at (cq := 95000) F267 kd6 (cd_a (by decide)) (by decide)) eq259
      have eq294 : hp265 qa5 (1 : Int32).toNatClampNeg = .int zi11 := Eq.trans (Fr.at (cq := 95000) F267 kd6 (cd_a (by decide)) (by decide)) eq260
      have eq295 : hp265 qa5 (2 : Int32).toNatClampNeg = .int zi14 := Eq.trans (Fr.at (cq := 95000) F267 kd6 (cd_a (by decide)) (by decide)) eq261
      have eq296 : hp265 qa5 (3 : Int32).toNatClampNeg = .int zi17 := Eq.trans (Fr.at (cq := 95000) F267 kd6 (cd_a (by decide)) (by decide)) eq262
      refine lv_icmp_le (tgt := 46) hx hb dX12_isAhead_41 (by decide) (fun cn287 => ?_) (fun cn287 => ?_)
      · skip
        have tf297 : zi278.toInt ≤ zi286.toInt := (fa_le _ _).mp cn287
        refine lv_iinc (v := 2) (lv' := [(3, .int 2), (0, .ref qa900), (1, .int zi901), (2, .int zi902)]) hx hb dX12_isAhead_46 hl (k := 0) rfl (by decide) (by decide) rfl (fun ls hl => ?_)
        refine lv_goto (tgt := 6) hx hb dX12_isAhead_49 (by decide) ?_
        refine lv_iload_n hx hb dX12_isAhead_6 rfl (lv_at hl 0 rfl) ?_
        refine lv_aload_n hx hb dX12_isAhead_7 rfl (lv_at hl 1 rfl) ?_
        refine p_get (ci := 12) (v := .int 3) (C := RX12) (T := TX12) (N := 69) hx hb hT iw_X12 hown hK hw hW kd900 (by decide) rfl rfl 55 (by decide) eq288 (hT _ tb_1429) (fun _ h9 => h9) dX12_isAhead_8 ?_
        refine lv_icmp_ge (tgt := 52) hx hb dX12_isAhead_11 (by decide) (fun c => absurd c (d_nle bc_3 bc_2 (by decide))) (fun _ => ?_)
        refine lv_aload_n hx hb dX12_isAhead_14 rfl (lv_at hl 1 rfl) ?_
        refine lv_aload_n hx hb dX12_isAhead_15 rfl (lv_at hl 1 rfl) ?_
        refine p_get (ci := 12) (v := .ref qa5) (C := RX12) (T := TX12) (N := 69) hx hb hT iw_X12 hown hK hw hW kd900 (by decide) rfl rfl 56 (by decide) eq292 (hT _ tb_1430) (fun _ h9 => h9) dX12_isAhead_16 ?_
        refine lv_iload_n hx hb dX12_isAhead_19 rfl (lv_at hl 0 rfl) ?_
        refine p_iald (v := zi14) hx hb hK hw hW kd6 (by decide) rfl (hW.len kd6 (n := 6) rfl (by decide)) (vp_b bc_2 (by decide) (by decide)) eq295 dX12_isAhead_20 ?_
        have pd298 : LW hp265 qa900 := LW_fr ok228 kd900 (show Fr [13048, 13051, 90000, 91000, 93000] K hp227 hp265 from (Fr.tr (Fr.rf) F267 (by decide))) (by decide) pd264
        refine kq_i hw hS hA (va_runV (As := [.int zi14]) (rest := []) ⟨hx, hb, hml, hown, hT⟩ (cX12_sayNow_0 l G cy ev K ln Ls hW _ hp265 ok266 qa900 zi14 kd900 (b_wid2 bd217 (by decide) (by decide)) pd298) (cwV 1 hT (good_V tb_1809 tb_1806 tb_1808 tb_87 tb_122) rfl rfl rfl (by decide +kernel) ⟨Nat.le_of_ble_eq_true rfl, Nat.le_of_ble_eq_true rfl⟩) (pool_preV (ci := 12) hK hE hS hA hw hW kd900 (by decide) rfl) rfl rfl hl.1 rfl (lv_room (Nat.le_of_ble_eq_true rfl)) dX12_isAhead_21 ⟨Nat.le_of_ble_eq_true rfl, Nat.le_of_ble_eq_true rfl⟩) (fun zi303 hp299 H locs hq302 hw hS => ?_)
        obtain ⟨ok300, F301, bd304⟩ := hq302
        have hw : PW G cy K ln Ls A hp299 H := hw
        refine lv_pop hx hb dX12_isAhead_24 rfl ?_
        refine lv_aload_n hx hb dX12_isAhead_25 rfl (lv_at hl 1 rfl) ?_
        have eq305 : hp299 qa900 50 = .ref qa234 := Eq.trans (Fr.at (cq := 13050) F301 kd900 (cd_o (by decide)) (by decide)) eq271
        refine p_get (ci := 12) (v := .ref qa234) (C := RX12) (T := TX12) (N := 69) hx hb hT iw_X12 hown hK hw hW kd900 (by decide) rfl rfl 50 (by decide) eq305 (hT _ tb_1424) (fun _ h9 => h9) dX12_isAhead_26 ?_
        refine lv_iconst (v := 4) hx hb dX12_isAhead_29 (by decide) ?_
        refine lv_iload_n hx hb dX12_isAhead_30 rfl (lv_at hl 3 rfl) ?_
        refine lv_iadd hx hb dX12_isAhead_31 (lv_topi (fun zi306 ea307 => ?_))
        have bd308 : (4 : Int) ≤ zi306.toInt ∧ zi306.toInt ≤ 11 := b_iadd ea307 bc_4 bd902 (by decide) (by decide) (by decide) (by decide)
        have qe309 : zi306.toInt = (4 : Int32).toInt + (zi902 : Int32).toInt := e_iadd ea307 bc_4 bd902 (by decide) (by decide)
        have qe310 : zi306.toInt = 4 + zi902.toInt := by have ha : (4 : Int32).toInt = 4 := (by decide); rw [ha] at qe309; exact qe309
        obtain ⟨zi312, eq311⟩ := rd_93000 ok300 kd235 ((zi306 : Int32).toNatClampNeg)
        refine p_iald (v := zi312) hx hb hK hw hW kd235 (by decide) rfl (hW.len kd235 (n := 40) rfl (by decide)) (vp_b bd308 (by decide) (by decide)) eq311 dX12_isAhead_32 ?_
        refine lv_aload_n hx hb dX12_isAhead_33 rfl (lv_at hl 1 rfl) ?_
        have eq313 : hp299 qa900 49 = .ref qa244 := Eq.trans (Fr.at (cq := 13049) F301 kd900 (cd_o (by decide)) (by decide)) eq279
        refine p_get (ci := 12) (v := .ref qa244) (C := RX12) (T := TX12) (N := 69) hx hb hT iw_X12 hown hK hw hW kd900 (by decide) rfl rfl 49 (by decide) eq313 (hT _ tb_1423) (fun _ h9 => h9) dX12_isAhead_34 ?_
        refine lv_iconst (v := 4) hx hb dX12_isAhead_37 (by decide) ?_
        refine lv_iload_n hx hb dX12_isAhead_38 rfl (lv_at hl 3 rfl) ?_
        refine lv_iadd hx hb dX12_isAhead_39 (lv_topi (fun zi314 ea315 => ?_))
        have bd316 : (4 : Int) ≤ zi314.toInt ∧ zi314.toInt ≤ 11 := b_iadd ea315 bc_4 bd902 (by decide) (by decide) (by decide) (by decide)
        have qe317 : zi314.toInt = (4 : Int32).toInt + (zi902 : Int32).toInt := e_iadd ea315 bc_4 bd902 (by decide) (by decide)
        have qe318 : zi314.toInt = 4 + zi902.toInt := by have ha : (4 : Int32).toInt = 4 := (by decide); rw [ha] at qe317; exact qe317
        obtain ⟨zi320, eq319⟩ := rd_92000 ok300 kd245 ((zi314 : Int32).toNatClampNeg)
        refine p_iald (v := zi320) hx hb hK hw hW kd245 (by decide) rfl (hW.len kd245 (n := 40) rfl (by decide)) (vp_b bd316 (by decide) (by decide)) eq319 dX12_isAhead_40 ?_
        have eq322 : hp299 qa900 55 = .int 3 := Eq.trans (Fr.at (cq := 13055) F301 kd900 (cd_o (by decide)) (by decide)) eq288
        have eq323 : hp299 qa900 28 = .ref qa20 := Eq.trans (Fr.at (cq := 13028) F301 kd900 (cd_o (by decide)) (by decide)) eq289
        have eq324 : hp299 qa900 18 = .int zi23 := Eq.trans (Fr.at (cq := 13018) F301 kd900 (cd_o (by decide)) (by decide)) eq290
        have eq325 : hp299 qa20 (zi23 : Int32).toNatClampNeg = .int zi26 := Eq.trans (Fr.at (cq := 74000) F301 kd21 (cd_a (by decide)) (by decide)) eq291
        have eq326 : hp299 qa900 56 = .ref qa5 := Eq.trans (Fr.at (cq := 13056) F301 kd900 (cd_o (by decide)) (by decide)) eq292
        have eq327 : hp299 qa5 (0 : Int32).toNatClampNeg = .int zi8 := Eq.trans (Fr.at (cq := 95000) F301 kd6 (cd_a (by decide)) (by decide)) eq293
        have eq328 : hp299 qa5 (1 : Int32).toNatClampNeg = .int zi11 := Eq.trans (Fr.at (cq := 95000) F301 kd6 (cd_a (by decide)) (by decide)) eq294
        have eq329 : hp299 qa5 (2 : Int32).toNatClampNeg = .int zi14 := Eq.trans (Fr.at (cq := 95000) F301 kd6 (cd_a (by decide)) (by decide)) eq295
        have eq330 : hp299 qa5 (3 : Int32).toNatClampNeg = .int zi17 := Eq.trans (Fr.at (cq := 95000) F301 kd6 (cd_a (by decide)) (by decide)) eq296
        refine lv_icmp_le (tgt := 46) hx hb dX12_isAhead_41 (by decide) (fun cn321 => ?_) (fun cn321 => ?_)
        · skip
          have tf331 : zi312.toInt ≤ zi320.toInt := (fa_le _ _).mp cn321
          refine lv_iinc (v := 3) (lv' := [(3, .int 3), (0, .ref qa900), (1, .int zi901), (2, .int zi902)]) hx hb dX12_isAhead_46 hl (k := 0) rfl (by decide) (by decide) rfl (fun ls hl => ?_)
          refine lv_goto (tgt := 6) hx hb dX12_isAhead_49 (by decide) ?_
          refine lv_iload_n hx hb dX12_isAhead_6 rfl (lv_at hl 0 rfl) ?_
          refine lv_aload_n hx hb dX12_isAhead_7 rfl (lv_at hl 1 rfl) ?_
          refine p_get (ci := 12) (v := .int 3) (C := RX12) (T := TX12) (N := 69) hx hb hT iw_X12 hown hK hw hW kd900 (by decide) rfl rfl 55 (by decide) eq322 (hT _ tb_1429) (fun _ h9 => h9) dX12_isAhead_8 ?_
          refine lv_icmp_ge (tgt := 52) hx hb dX12_isAhead_11 (by decide) (fun _ => ?_) (fun c => absurd (d_le bc_3 bc_3 (by decide)) c)
          refine lv_aload_n hx hb dX12_isAhead_52 rfl (lv_at hl 1 rfl) ?_
          refine p_get (ci := 12) (v := .ref qa234) (C := RX12) (T := TX12) (N := 69) hx hb hT iw_X12 hown hK hw hW kd900 (by decide) rfl rfl 50 (by decide) eq305 (hT _ tb_1424) (fun _ h9 => h9) dX12_isAhead_53 ?_
          refine lv_iconst (v := 4) hx hb dX12_isAhead_56 (by decide) ?_
          refine lv_iload_n hx hb dX12_isAhead_57 rfl (lv_at hl 2 rfl) ?_
          refine lv_iadd hx hb dX12_isAhead_58 (lv_topi (fun zi332 ea333 => ?_))
          have bd334 : (4 : Int) ≤ zi332.toInt ∧ zi332.toInt ≤ 11 := b_iadd ea333 bc_4 bd901 (by decide) (by decide) (by decide) (by decide)
          have qe335 : zi332.toInt = (4 : Int32).toInt + (zi901 : Int32).toInt := e_iadd ea333 bc_4 bd901 (by decide) (by decide)
          have qe336 : zi332.toInt = 4 + zi901.toInt := by have ha : (4 : Int32).toInt = 4 := (by decide); rw [ha] at qe335; exact qe335
          obtain ⟨zi338, eq337⟩ := rd_93000 ok300 kd235 ((zi332 : Int32).toNatClampNeg)
          refine p_iald (v := zi338) hx hb hK hw hW kd235 (by decide) rfl (hW.len kd235 (n := 40) rfl (by decide)) (vp_b bd334 (by decide) (by decide)) eq337 dX12_isAhead_59 ?_
          refine lv_aload_n hx hb dX12_isAhead_60 rfl (lv_at hl 1 rfl) ?_
          refine p_get (ci := 12) (v := .ref qa244) (C := RX12) (T := TX12) (N := 69) hx hb hT iw_X12 hown hK hw hW kd900 (by decide) rfl rfl 49 (by decide) eq313 (hT _ tb_1423) (fun _ h9 => h9) dX12_isAhead_61 ?_
          refine lv_iconst (v := 4) hx hb dX12_isAhead_64 (by decide) ?_
          refine lv_iload_n hx hb dX12_isAhead_65 rfl (lv_at hl 2 rfl) ?_
          refine lv_iadd hx hb dX12_isAhead_66 (lv_topi (fun zi339 ea340 => ?_))
          have bd341 : (4 : Int) ≤ zi339.toInt ∧ zi339.toInt ≤ 11 := b_iadd ea340 bc_4 bd901 (by decide) (by decide) (by decide) (by decide)
          have qe342 : zi339.toInt = (4 : Int32).toInt + (zi901 : Int32).toInt := e_iadd ea340 bc_4 bd901 (by decide) (by decide)
          have qe343 : zi339.toInt = 4 + zi901.toInt := by have ha : (4 : Int32).toInt = 4 := (by decide); rw [ha] at qe342; exact qe342
          obtain ⟨zi345, eq344⟩ := rd_92000 ok300 kd245 ((zi339 : Int32).toNatClampNeg)
          refine p_iald (v := zi345) hx hb hK hw hW kd245 (by decide) rfl (hW.len kd245 (n := 40) rfl (by decide)) (vp_b bd341 (by decide) (by decide)) eq344 dX12_isAhead_67 ?_
          refine lv_icmp_le (tgt := 75) hx hb dX12_isAhead_68 (by decide) (fun cn346 => ?_) (fun cn346 => ?_)
          · skip
            have tf347 : zi338.toInt ≤ zi345.toInt := (fa_le _ _).mp cn346
            refine lv_iconst (v := 0) hx hb dX12_isAhead_75 (by decide) ?_
            rw [hQ]
            exact kz_i hx hb hr hlocks hS (nz_n bc_0 (by decide) (by decide)) hp299 hw ⟨ok300, (Fr.tr (Fr.tr (Fr.tr (Fr.tr (Fr.rf) F220 (by decide)) F229 (by decide)) F267 (by decide)) F301 (by decide)), (b_wid2 bc_0 (by decide) (by decide))⟩ (Nat.le_of_ble_eq_true rfl) (Nat.le_of_ble_eq_true rfl) dX12_isAhead_76
          · skip
            have tf348 : zi345.toInt < zi338.toInt := (fa_lt _ _).mp (Int32.not_le.mp cn346)
            have bd349 : (-2147483648 : Int) ≤ zi345.toInt ∧ zi345.toInt ≤ 2147483646 := r_lt_x (Int32.not_le.mp cn346) (b_all zi345) (b_all zi338) (by decide) (by decide)
            have bd350 : (-2147483647 : Int) ≤ zi338.toInt ∧ zi338.toInt ≤ 2147483647 := r_lt_y (Int32.not_le.mp cn346) (b_all zi345) (b_all zi338) (by decide) (by decide)
            refine lv_iconst (v := 1) hx hb dX12_isAhead_71 (by decide) ?_
            refine lv_goto (tgt := 76) hx hb dX12_isAhead_72 (by decide) ?_
            rw [hQ]
            exact kz_i hx hb hr hlocks hS (nz_n bc_1 (by decide) (by decide)) hp299 hw ⟨ok300, (Fr.tr (Fr.tr (Fr.tr (Fr.tr (Fr.rf) F220 (by decide)) F229 (by decide)) F267 (by decide)) F301 (by decide)), (b_wid2 bc_1 (by decide) (by decide))⟩ (Nat.le_of_ble_eq_true rfl) (Nat.le_of_ble_eq_true rfl) dX12_isAhead_76
        · skip
          have tf351 : zi320.toInt < zi312.toInt := (fa_lt _ _).mp (Int32.not_le.mp cn321)
          have bd352 : (-2147483648 : Int) ≤ zi320.toInt ∧ zi320.toInt ≤ 2147483646 := r_lt_x (Int32.not_le.mp cn321) (b_all zi320) (b_all zi312) (by decide) (by decide)
          have bd353 : (-2147483647 : Int) ≤ zi312.toInt ∧ zi312.toInt ≤ 2147483647 := r_lt_y (Int32.not_le.mp cn321) (b_all zi320) (b_all zi312) (by decide) (by decide)
          refine lv_iconst (v := 0) hx hb dX12_isAhead_44 (by decide) ?_
          rw [hQ]
          exact kz_i hx hb hr hlocks hS (nz_n bc_0 (by decide) (by decide)) hp299 hw ⟨ok300, (Fr.tr (Fr.tr (Fr.tr (Fr.tr (Fr.rf) F220 (by decide)) F229 (by decide)) F267 (by decide)) F301 (by decide)), (b_wid2 bc_0 (by decide) (by decide))⟩ (Nat.le_of_ble_eq_true rfl) (Nat.le_of_ble_eq_true rfl) dX12_isAhead_45
      · skip
        have tf354 : zi286.toInt < zi278.toInt := (fa_lt _ _).mp (Int32.not_le.mp cn287)
        have bd355 : (-2147483648 : Int) ≤ zi286.toInt ∧ zi286.toInt ≤ 2147483646 := r_lt_x (Int32.not_le.mp cn287) (b_all zi286) (b_all zi278) (by decide) (by decide)
        have bd356 : (-2147483647 : Int) ≤ zi278.toInt ∧ zi278.toInt ≤ 2147483647 := r_lt_y (Int32.not_le.mp cn287) (b_all zi286) (b_all zi278) (by decide) (by decide)
        refine lv_iconst (v := 0) hx hb dX12_isAhead_44 (by decide) ?_
        rw [hQ]
        exact kz_i hx hb hr hlocks hS (nz_n bc_0 (by decide) (by decide)) hp265 hw ⟨ok266, (Fr.tr (Fr.tr (Fr.tr (Fr.rf) F220 (by decide)) F229 (by decide)) F267 (by decide)), (b_wid2 bc_0 (by decide) (by decide))⟩ (Nat.le_of_ble_eq_true rfl) (Nat.le_of_ble_eq_true rfl) dX12_isAhead_45
    · skip
      have tf357 : zi252.toInt < zi242.toInt := (fa_lt _ _).mp (Int32.not_le.mp cn253)
      have bd358 : (-2147483648 : Int) ≤ zi252.toInt ∧ zi252.toInt ≤ 2147483646 := r_lt_x (Int32.not_le.mp cn253) (b_all zi252) (b_all zi242) (by decide) (by decide)
      have bd359 : (-2147483647 : Int) ≤ zi242.toInt ∧ zi242.toInt ≤ 2147483647 := r_lt_y (Int32.not_le.mp cn253) (b_all zi252) (b_all zi242) (by decide) (by decide)
      refine lv_iconst (v := 0) hx hb dX12_isAhead_44 (by decide) ?_
      rw [hQ]
      exact kz_i hx hb hr hlocks hS (nz_n bc_0 (by decide) (by decide)) hp227 hw ⟨ok228, (Fr.tr (Fr.tr (Fr.rf) F220 (by decide)) F229 (by decide)), (b_wid2 bc_0 (by decide) (by decide))⟩ (Nat.le_of_ble_eq_true rfl) (Nat.le_of_ble_eq_true rfl) dX12_isAhead_45
  by_cases cn32 : zi2 = 4
  · skip
    have eq360 : hp0 qa900 55 = .int 4 := Eq.trans eq1 (congrArg Value.int cn32)
    have tf361 : zi2.toInt = 4 := (congrArg Int32.toInt cn32).trans (toi bc_4)
    have bd362 : (0 : Int) ≤ zi8.toInt ∧ zi8.toInt ≤ 15 := (by omega)
    have bd363 : (0 : Int) ≤ zi11.toInt ∧ zi11.toInt ≤ 15 := (by omega)
    have bd364 : (0 : Int) ≤ zi14.toInt ∧ zi14.toInt ≤ 15 := (by omega)
    have bd365 : (0 : Int) ≤ zi17.toInt ∧ zi17.toInt ≤ 15 := (by omega)
    refine lv_aload_n hx hb dX12_isAhead_0 rfl (lv_at hl 0 rfl) ?_
    refine kq_v hw hS hA (va_runV (As := []) (rest := []) ⟨hx, hb, hml, hown, hT⟩ (cX12_copies_0 l G cy ev K ln Ls hW _ hp0 ok0 qa900 kd900) (cwV 0 hT (good_V tb_1769 tb_1766 tb_1768 tb_81 tb_122) rfl rfl rfl (by decide +kernel) ⟨Nat.le_of_ble_eq_true rfl, Nat.le_of_ble_eq_true rfl⟩) (pool_preV (ci := 12) hK hE hS hA hw hW kd900 (by decide) rfl) rfl rfl hl.1 rfl (lv_room (Nat.le_of_ble_eq_true rfl)) dX12_isAhead_1 ⟨Nat.le_of_ble_eq_true rfl, Nat.le_of_ble_eq_true rfl⟩) (fun hp366 H locs hq369 hw hS => ?_)
    obtain ⟨ok367, F368⟩ := hq369
    have hw : PW G cy K ln Ls A hp366 H := hw
    refine lv_iconst (v := 0) hx hb dX12_isAhead_4 (by decide) ?_
    refine lv_istore_n (lv' := [(3, .int 0), (0, .ref qa900), (1, .int zi901), (2, .int zi902)]) hx hb dX12_isAhead_5 rfl hl (by decide) rfl (fun ls hl => ?_)
    refine lv_iload_n hx hb dX12_isAhead_6 rfl (lv_at hl 0 rfl) ?_
    refine lv_aload_n hx hb dX12_isAhead_7 rfl (lv_at hl 1 rfl) ?_
    have eq371 : hp366 qa900 55 = .int 4 := Eq.trans (Fr.at (cq := 13055) F368 kd900 (cd_o (by decide)) (by decide)) eq360
    refine p_get (ci := 12) (v := .int 4) (C := RX12) (T := TX12) (N := 69) hx hb hT iw_X12 hown hK hw hW kd900 (by decide) rfl rfl 55 (by decide) eq371 (hT _ tb_1429) (fun _ h9 => h9) dX12_isAhead_8 ?_
    refine lv_icmp_ge (tgt := 52) hx hb dX12_isAhead_11 (by decide) (fun c => absurd c (d_nle bc_4 bc_0 (by decide))) (fun _ => ?_)
    refine lv_aload_n hx hb dX12_isAhead_14 rfl (lv_at hl 1 rfl) ?_
    refine lv_aload_n hx hb dX12_isAhead_15 rfl (lv_at hl 1 rfl) ?_
    have eq372 : hp366 qa900 56 = .ref qa5 := Eq.trans (Fr.at (cq := 13056) F368 kd900 (cd_o (by decide)) (by decide)) eq4
    refine p_get (ci := 12) (v := .ref qa5) (C := RX12) (T := TX12) (N := 69) hx hb hT iw_X12 hown hK hw hW kd900 (by decide) rfl rfl 56 (by decide) eq372 (hT _ tb_1430) (fun _ h9 => h9) dX12_isAhead_16 ?_
    refine lv_iload_n hx hb dX12_isAhead_19 rfl (lv_at hl 0 rfl) ?_
    have eq373 : hp366 qa5 (0 : Int32).toNatClampNeg = .int zi8 := Eq.trans (Fr.at (cq := 95000) F368 kd6 (cd_a (by decide)) (by decide)) eq7
    refine p_iald (v := zi8) hx hb hK hw hW kd6 (by decide) rfl (hW.len kd6 (n := 6) rfl (by decide)) (vp_b bc_0 (by decide) (by decide)) eq373 dX12_isAhead_20 ?_
    have pd374 : LW hp366 qa900 := LW_fr ok0 kd900 (show Fr [93000] K hp0 hp366 from (Fr.tr (Fr.rf) F368 (by decide))) (by decide) pdLW
    refine kq_i hw hS hA (va_runV (As := [.int zi8]) (rest := []) ⟨hx, hb, hml, hown, hT⟩ (cX12_sayNow_0 l G cy ev K ln Ls hW _ hp366 ok367 qa900 zi8 kd900 (b_wid2 bd362 (by decide) (by decide)) pd374) (cwV 1 hT (good_V tb_1809 tb_1806 tb_1808 tb_87 tb_122) rfl rfl rfl (by decide +kernel) ⟨Nat.le_of_ble_eq_true rfl, Nat.le_of_ble_eq_true rfl⟩) (pool_preV (ci := 12) hK hE hS hA hw hW kd900 (by decide) rfl) rfl rfl hl.1 rfl (lv_room (Nat.le_of_ble_eq_true rfl)) dX12_isAhead_21 ⟨Nat.le_of_ble_eq_true rfl, Nat.le_of_ble_eq_true rfl⟩) (fun zi379 hp375 H locs hq378 hw hS => ?_)
    obtain ⟨ok376, F377, bd380⟩ := hq378
    have hw : PW G cy K ln Ls A hp375 H := hw
    refine lv_pop hx hb dX12_isAhead_24 rfl ?_
    refine lv_aload_n hx hb dX12_isAhead_25 rfl (lv_at hl 1 rfl) ?_
    obtain ⟨qa382, eq381, kd383⟩ := rd_13050 ok376 kd900
    refine p_get (ci := 12) (v := .ref qa382) (C := RX12) (T := TX12) (N := 69) hx hb hT iw_X12 hown hK hw hW kd900 (by decide) rfl rfl 50 (by decide) eq381 (hT _ tb_1424) (fun _ h9 => h9) dX12_isAhead_26 ?_
    refine lv_iconst (v := 4) hx hb dX12_isAhead_29 (by decide) ?_
    refine lv_iload_n hx hb dX12_isAhead_30 rfl (lv_at hl 3 rfl) ?_
    refine lv_iadd hx hb dX12_isAhead_31 (lv_topi (fun zi384 ea385 => ?_))
    have bd386 : (4 : Int) ≤ zi384.toInt ∧ zi384.toInt ≤ 11 := b_iadd ea385 bc_4 bd902 (by decide) (by decide) (by decide) (by decide)
    have qe387 : zi384.toInt = (4 : Int32).toInt + (zi902 : Int32).toInt := e_iadd ea385 bc_4 bd902 (by decide) (by decide)
    have qe388 : zi384.toInt = 4 + zi902.toInt := by have ha : (4 : Int32).toInt = 4 := (by decide); rw [ha] at qe387; exact qe387
    obtain ⟨zi390, eq389⟩ := rd_93000 ok376 kd383 ((zi384 : Int32).toNatClampNeg)
    refine p_iald (v := zi390) hx hb hK hw hW kd383 (by decide) rfl (hW.len kd383 (n := 40) rfl (by decide)) (vp_b bd386 (by decide) (by decide)) eq389 dX12_isAhead_32 ?_
    refine lv_aload_n hx hb dX12_isAhead_33 rfl (lv_at hl 1 rfl) ?_
    obtain ⟨qa392, eq391, kd393⟩ := rd_13049 ok376 kd900
    refine p_get (ci := 12) (v := .ref qa392) (C := RX12) (T := TX12) (N := 69) hx hb hT iw_X12 hown hK hw hW kd900 (by decide) rfl rfl 49 (by decide) eq391 (hT _ tb_1423) (fun _ h9 => h9) dX12_isAhead_34 ?_
    refine lv_iconst (v := 4) hx hb dX12_isAhead_37 (by decide) ?_
    refine lv_iload_n hx hb dX12_isAhead_38 rfl (lv_at hl 3 rfl) ?_
    refine lv_iadd hx hb dX12_isAhead_39 (lv_topi (fun zi394 ea395 => ?_))
    have bd396 : (4 : Int) ≤ zi394.toInt ∧ zi394.toInt ≤ 11 := b_iadd ea395 bc_4 bd902 (by decide) (by decide) (by decide) (by decide)
    have qe397 : zi394.toInt = (4 : Int32).toInt + (zi902 : Int32).toInt := e_iadd ea395 bc_4 bd902 (by decide) (by decide)
    have qe398 : zi394.toInt = 4 + zi902.toInt := by have ha : (4 : Int32).toInt = 4 := (by decide); rw [ha] at qe397; exact qe397
    obtain ⟨zi400, eq399⟩ := rd_92000 ok376 kd393 ((zi394 : Int32).toNatClampNeg)
    refine p_iald (v := zi400) hx hb hK hw hW kd393 (by decide) rfl (hW.len kd393 (n := 40) rfl (by decide)) (vp_b bd396 (by decide) (by decide)) eq399 dX12_isAhead_40 ?_
    have eq402 : hp375 qa900 55 = .int 4 := Eq.trans (Fr.at (cq := 13055) F377 kd900 (cd_o (by decide)) (by decide)) eq371
    have eq403 : hp375 qa900 28 = .ref qa20 := Eq.trans (Fr.at (cq := 13028) F377 kd900 (cd_o (by decide)) (by decide)) (Eq.trans (Fr.at (cq := 13028) F368 kd900 (cd_o (by decide)) (by decide)) eq19)
    have eq404 : hp375 qa900 18 = .int zi23 := Eq.trans (Fr.at (cq := 13018) F377 kd900 (cd_o (by decide)) (by decide)) (Eq.trans (Fr.at (cq := 13018) F368 kd900 (cd_o (by decide)) (by decide)) eq22)
    have eq405 : hp375 qa20 (zi23 : Int32).toNatClampNeg = .int zi26 := Eq.trans (Fr.at (cq := 74000) F377 kd21 (cd_a (by decide)) (by decide)) (Eq.trans (Fr.at (cq := 74000) F368 kd21 (cd_a (by decide)) (by decide)) eq25)
    have eq406 : hp375 qa900 56 = .ref qa5 := Eq.trans (Fr.at (cq := 13056) F377 kd900 (cd_o (by decide)) (by decide)) eq372
    have eq407 : hp375 qa5 (0 : Int32).toNatClampNeg = .int zi8 := Eq.trans (Fr.at (cq := 95000) F377 kd6 (cd_a (by decide)) (by decide)) eq373
    have eq408 : hp375 qa5 (1 : Int32).toNatClampNeg = .int zi11 := Eq.trans (Fr.at (cq := 95000) F377 kd6 (cd_a (by decide)) (by decide)) (Eq.trans (Fr.at (cq := 95000) F368 kd6 (cd_a (by decide)) (by decide)) eq10)
    have eq409 : hp375 qa5 (2 : Int32).toNatClampNeg = .int zi14 := Eq.trans (Fr.at (cq := 95000) F377 kd6 (cd_a (by decide)) (by decide)) (Eq.trans (Fr.at (cq := 95000) F368 kd6 (cd_a (by decide)) (by decide)) eq13)
    have eq410 : hp375 qa5 (3 : Int32).toNatClampNeg = .int zi17 := Eq.trans (Fr.at (cq := 95000) F377 kd6 (cd_a (by decide)) (by decide)) (Eq.trans (Fr.at (cq := 95000) F368 kd6 (cd_a (by decide)) (by decide)) eq16)
    refine lv_icmp_le (tgt := 46) hx hb dX12_isAhead_41 (by decide) (fun cn401 => ?_) (fun cn401 => ?_)
    · skip
      have tf411 : zi390.toInt ≤ zi400.toInt := (fa_le _ _).mp cn401
      refine lv_iinc (v := 1) (lv' := [(3, .int 1), (0, .ref qa900), (1, .int zi901), (2, .int zi902)]) hx hb dX12_isAhead_46 hl (k := 0) rfl (by decide) (by decide) rfl (fun ls hl => ?_)
      refine lv_goto (tgt := 6) hx hb dX12_isAhead_49 (by decide) ?_
      refine lv_iload_n hx hb dX12_isAhead_6 rfl (lv_at hl 0 rfl) ?_
      refine lv_aload_n hx hb dX12_isAhead_7 rfl (lv_at hl 1 rfl) ?_
      refine p_get (ci := 12) (v := .int 4) (C := RX12) (T := TX12) (N := 69) hx hb hT iw_X12 hown hK hw hW kd900 (by decide) rfl rfl 55 (by decide) eq402 (hT _ tb_1429) (fun _ h9 => h9) dX12_isAhead_8 ?_
      refine lv_icmp_ge (tgt := 52) hx hb dX12_isAhead_11 (by decide) (fun c => absurd c (d_nle bc_4 bc_1 (by decide))) (fun _ => ?_)
      refine lv_aload_n hx hb dX12_isAhead_14 rfl (lv_at hl 1 rfl) ?_
      refine lv_aload_n hx hb dX12_isAhead_15 rfl (lv_at hl 1 rfl) ?_
      refine p_get (ci := 12) (v := .ref qa5) (C := RX12) (T := TX12) (N := 69) hx hb hT iw_X12 hown hK hw hW kd900 (by decide) rfl rfl 56 (by decide) eq406 (hT _ tb_1430) (fun _ h9 => h9) dX12_isAhead_16 ?_
      refine lv_iload_n hx hb dX12_isAhead_19 rfl (lv_at hl 0 rfl) ?_
      refine p_iald (v := zi11) hx hb hK hw hW kd6 (by decide) rfl (hW.len kd6 (n := 6) rfl (by decide)) (vp_b bc_1 (by decide) (by decide)) eq408 dX12_isAhead_20 ?_
      have pd412 : LW hp375 qa900 := LW_fr ok367 kd900 (show Fr [13048, 13051, 90000, 91000, 93000] K hp366 hp375 from (Fr.tr (Fr.rf) F377 (by decide))) (by decide) pd374
      refine kq_i hw hS hA (va_runV (As := [.int zi11]) (rest := []) ⟨hx, hb, hml, hown, hT⟩ (cX12_sayNow_0 l G cy ev K ln Ls hW _ hp375 ok376 qa900 zi11 kd900 (b_wid2 bd363 (by decide) (by decide)) pd412) (cwV 1 hT (good_V tb_1809 tb_1806 tb_1808 tb_87 tb_122) rfl rfl rfl (by decide +kernel) ⟨Nat.le_of_ble_eq_true rfl, Nat.le_of_ble_eq_true rfl⟩) (pool_preV (ci := 12) hK hE hS hA hw hW kd900 (by decide) rfl) rfl rfl hl.1 rfl (lv_room (Nat.le_of_ble_eq_true rfl)) dX12_isAhead_21 ⟨Nat.le_of_ble_eq_true rfl, Nat.le_of_ble_eq_true rfl⟩) (fun zi417 hp413 H locs hq416 hw hS => ?_)
      obtain ⟨ok414, F415, bd418⟩ := hq416
      have hw : PW G cy K ln Ls A hp413 H := hw
      refine lv_pop hx hb dX12_isAhead_24 rfl ?_
      refine lv_aload_n hx hb dX12_isAhead_25 rfl (lv_at hl 1 rfl) ?_
      have eq419 : hp413 qa900 50 = .ref qa382 := Eq.trans (Fr.at (cq := 13050) F415 kd900 (cd_o (by decide)) (by decide)) eq381
      refine p_get (ci := 12) (v := .ref qa382) (C := RX12) (T := TX12) (N := 69) hx hb hT iw_X12 hown hK hw hW kd900 (by decide) rfl rfl 50 (by decide) eq419 (hT _ tb_1424) (fun _ h9 => h9) dX12_isAhead_26 ?_
      refine lv_iconst (v := 4) hx hb dX12_isAhead_29 (by decide) ?_
      refine lv_iload_n hx hb dX12_isAhead_30 rfl (lv_at hl 3 rfl) ?_
      refine lv_iadd hx hb dX12_isAhead_31 (lv_topi (fun zi420 ea421 => ?_))
      have bd422 : (4 : Int) ≤ zi420.toInt ∧ zi420.toInt ≤ 11 := b_iadd ea421 bc_4 bd902 (by decide) (by decide) (by decide) (by decide)
      have qe423 : zi420.toInt = (4 : Int32).toInt + (zi902 : Int32).toInt := e_iadd ea421 bc_4 bd902 (by decide) (by decide)
      have qe424 : zi420.toInt = 4 + zi902.toInt := by have ha : (4 : Int32).toInt = 4 := (by decide); rw [ha] at qe423; exact qe423
      obtain ⟨zi426, eq425⟩ := rd_93000 ok414 kd383 ((zi420 : Int32).toNatClampNeg)
      refine p_iald (v := zi426) hx hb hK hw hW kd383 (by decide) rfl (hW.len kd383 (n := 40) rfl (by decide)) (vp_b bd422 (by decide) (by decide)) eq425 dX12_isAhead_32 ?_
      refine lv_aload_n hx hb dX12_isAhead_33 rfl (lv_at hl 1 rfl) ?_
      have eq427 : hp413 qa900 49 = .ref qa392 := Eq.trans (Fr.at (cq := 13049) F415 kd900 (cd_o (by decide)) (by decide)) eq391
      refine p_get (ci := 12) (v := .ref qa392) (C := RX12) (T := TX12) (N := 69) hx hb hT iw_X12 hown hK hw hW kd900 (by decide) rfl rfl 49 (by decide) eq427 (hT _ tb_1423) (fun _ h9 => h9) dX12_isAhead_34 ?_
      refine lv_iconst (v := 4) hx hb dX12_isAhead_37 (by decide) ?_
      refine lv_iload_n hx hb dX12_isAhead_38 rfl (lv_at hl 3 rfl) ?_
      refine lv_iadd hx hb dX12_isAhead_39 (lv_topi (fun zi428 ea429 => ?_))
      have bd430 : (4 : Int) ≤ zi428.toInt ∧ zi428.toInt ≤ 11 := b_iadd ea429 bc_4 bd902 (by decide) (by decide) (by decide) (by decide)
      have qe431 : zi428.toInt = (4 : Int32).toInt + (zi902 : Int32).toInt := e_iadd ea429 bc_4 bd902 (by decide) (by decide)
      have qe432 : zi428.toInt = 4 + zi902.toInt := by have ha : (4 : Int32).toInt = 4 := (by decide); rw [ha] at qe431; exact qe431
      obtain ⟨zi434, eq433⟩ := rd_92000 ok414 kd393 ((zi428 : Int32).toNatClampNeg)
      refine p_iald (v := zi434) hx hb hK hw hW kd393 (by decide) rfl (hW.len kd393 (n := 40) rfl (by decide)) (vp_b bd430 (by decide) (by decide)) eq433 dX12_isAhead_40 ?_
      have eq436 : hp413 qa900 55 = .int 4 := Eq.trans (Fr.at (cq := 13055) F415 kd900 (cd_o (by decide)) (by decide)) eq402
      have eq437 : hp413 qa900 28 = .ref qa20 := Eq.trans (Fr.at (cq := 13028) F415 kd900 (cd_o (by decide)) (by decide)) eq403
      have eq438 : hp413 qa900 18 = .int zi23 := Eq.trans (Fr.at (cq := 13018) F415 kd900 (cd_o (by decide)) (by decide)) eq404
      have eq439 : hp413 qa20 (zi23 : Int32).toNatClampNeg = .int zi26 := Eq.trans (Fr.at (cq := 74000) F415 kd21 (cd_a (by decide)) (by decide)) eq405
      have eq440 : hp413 qa900 56 = .ref qa5 := Eq.trans (Fr.at (cq := 13056) F415 kd900 (cd_o (by decide)) (by decide)) eq406
      have eq441 : hp413 qa5 (0 : Int32).toNatClampNeg = .int zi8 := Eq.trans (Fr.at (cq := 95000) F415 kd6 (cd_a (by decide)) (by decide)) eq407
      have eq442 : hp413 qa5 (1 : Int32).toNatClampNeg = .int zi11 := Eq.trans (Fr.at (cq := 95000) F415 kd6 (cd_a (by decide)) (by decide)) eq408
      have eq443 : hp413 qa5 (2 : Int32).toNatClampNeg = .int zi14 := Eq.trans (Fr.at (cq := 95000) F415 kd6 (cd_a (by decide)) (by decide)) eq409
      have eq444 : hp413 qa5 (3 : Int32).toNatClampNeg = .int zi17 := Eq.trans (Fr.at (cq := 95000) F415 kd6 (cd_a (by decide)) (by decide)) eq410
      refine lv_icmp_le (tgt := 46) hx hb dX12_isAhead_41 (by decide) (fun cn435 => ?_) (fun cn435 => ?_)
      · skip
        have tf445 : zi426.toInt ≤ zi434.toInt := (fa_le _ _).mp cn435
        refine lv_iinc (v := 2) (lv' := [(3, .int 2), (0, .ref qa900), (1, .int zi901), (2, .int zi902)]) hx hb dX12_isAhead_46 hl (k := 0) rfl (by decide) (by decide) rfl (fun ls hl => ?_)
        refine lv_goto (tgt := 6) hx hb dX12_isAhead_49 (by decide) ?_
        refine lv_iload_n hx hb dX12_isAhead_6 rfl (lv_at hl 0 rfl) ?_
        refine lv_aload_n hx hb dX12_isAhead_7 rfl (lv_at hl 1 rfl) ?_
        refine p_get (ci := 12) (v := .int 4) (C := RX12) (T := TX12) (N := 69) hx hb hT iw_X12 hown hK hw hW kd900 (by decide) rfl rfl 55 (by decide) eq436 (hT _ tb_1429) (fun _ h9 => h9) dX12_isAhead_8 ?_
        refine lv_icmp_ge (tgt := 52) hx hb dX12_isAhead_11 (by decide) (fun c => absurd c (d_nle bc_4 bc_2 (by decide))) (fun _ => ?_)
        refine lv_aload_n hx hb dX12_isAhead_14 rfl (lv_at hl 1 rfl) ?_
        refine lv_aload_n hx hb dX12_isAhead_15 rfl (lv_at hl 1 rfl) ?_
        refine p_get (ci := 12) (v := .ref qa5) (C := RX12) (T := TX12) (N := 69) hx hb hT iw_X12 hown hK hw hW kd900 (by decide) rfl rfl 56 (by decide) eq440 (hT _ tb_1430) (fun _ h9 => h9) dX12_isAhead_16 ?_
        refine lv_iload_n hx hb dX12_isAhead_19 rfl (lv_at hl 0 rfl) ?_
        refine p_iald (v := zi14) hx hb hK hw hW kd6 (by decide) rfl (hW.len kd6 (n := 6) rfl (by decide)) (vp_b bc_2 (by decide) (by decide)) eq443 dX12_isAhead_20 ?_
        have pd446 : LW hp413 qa900 := LW_fr ok376 kd900 (show Fr [13048, 13051, 90000, 91000, 93000] K hp375 hp413 from (Fr.tr (Fr.rf) F415 (by decide))) (by decide) pd412
        refine kq_i hw hS hA (va_runV (As := [.int zi14]) (rest := []) ⟨hx, hb, hml, hown, hT⟩ (cX12_sayNow_0 l G cy ev K ln Ls hW _ hp413 ok414 qa900 zi14 kd900 (b_wid2 bd364 (by decide) (by decide)) pd446) (cwV 1 hT (good_V tb_1809 tb_1806 tb_1808 tb_87 tb_122) rfl rfl rfl (by decide +kernel) ⟨Nat.le_of_ble_eq_true rfl, Nat.le_of_ble_eq_true rfl⟩) (pool_preV (ci := 12) hK hE hS hA hw hW kd900 (by decide) rfl) rfl rfl hl.1 rfl (lv_room (Nat.le_of_ble_eq_true rfl)) dX12_isAhead_21 ⟨Nat.le_of_ble_eq_true rfl, Nat.le_of_ble_eq_true rfl⟩) (fun zi451 hp447 H locs hq450 hw hS => ?_)
        obtain ⟨ok448, F449, bd452⟩ := hq450
        have hw : PW G cy K ln Ls A hp447 H := hw
        refine lv_pop hx hb dX12_isAhead_24 rfl ?_
        refine lv_aload_n hx hb dX12_isAhead_25 rfl (lv_at hl 1 rfl) ?_
        have eq453 : hp447 qa900 50 = .ref qa382 := Eq.trans (Fr.at (cq := 13050) F449 kd900 (cd_o (by decide)) (by decide)) eq419
        refine p_get (ci := 12) (v := .ref qa382) (C := RX12) (T := TX12) (N := 69) hx hb hT iw_X12 hown hK hw hW kd900 (by decide) rfl rfl 50 (by decide) eq453 (hT _ tb_1424) (fun _ h9 => h9) dX12_isAhead_26 ?_
        refine lv_iconst (v := 4) hx hb dX12_isAhead_29 (by decide) ?_
        refine lv_iload_n hx hb dX12_isAhead_30 rfl (lv_at hl 3 rfl) ?_
        refine lv_iadd hx hb dX12_isAhead_31 (lv_topi (fun zi454 ea455 => ?_))
        have bd456 : (4 : Int) ≤ zi454.toInt ∧ zi454.toInt ≤ 11 := b_iadd ea455 bc_4 bd902 (by decide) (by decide) (by decide) (by decide)
        have qe457 : zi454.toInt = (4 : Int32).toInt + (zi902 : Int32).toInt := e_iadd ea455 bc_4 bd902 (by decide) (by decide)
        have qe458 : zi454.toInt = 4 + zi902.toInt := by have ha : (4 : Int32).toInt = 4 := (by decide); rw [ha] at qe457; exact qe457
        obtain ⟨zi460, eq459⟩ := rd_93000 ok448 kd383 ((zi454 : Int32).toNatClampNeg)
        refine p_iald (v := zi460) hx hb hK hw hW kd383 (by decide) rfl (hW.len kd383 (n := 40) rfl (by decide)) (vp_b bd456 (by decide) (by decide)) eq459 dX12_isAhead_32 ?_
        refine lv_aload_n hx hb dX12_isAhead_33 rfl (lv_at hl 1 rfl) ?_
        have eq461 : hp447 qa900 49 = .ref qa392 := Eq.trans (Fr.at (cq := 13049) F449 kd900 (cd_o (by decide)) (by decide)) eq427
        refine p_get (ci := 12) (v := .ref qa392) (C := RX12) (T := TX12) (N := 69) hx hb hT iw_X12 hown hK hw hW kd900 (by decide) rfl rfl 49 (by decide) eq461 (hT _ tb_1423) (fun _ h9 => h9) dX12_isAhead_34 ?_
        refine lv_iconst (v := 4) hx hb dX12_isAhead_37 (by decide) ?_
        refine lv_iload_n hx hb dX12_isAhead_38 rfl (lv_at hl 3 rfl) ?_
        refine lv_iadd hx hb dX12_isAhead_39 (lv_topi (fun zi462 ea463 => ?_))
        have bd464 : (4 : Int) ≤ zi462.toInt ∧ zi462.toInt ≤ 11 := b_iadd ea463 bc_4 bd902 (by decide) (by decide) (by decide) (by decide)
        have qe465 : zi462.toInt = (4 : Int32).toInt + (zi902 : Int32).toInt := e_iadd ea463 bc_4 bd902 (by decide) (by decide)
        have qe466 : zi462.toInt = 4 + zi902.toInt := by have ha : (4 : Int32).toInt = 4 := (by decide); rw [ha] at qe465; exact qe465
        obtain ⟨zi468, eq467⟩ := rd_92000 ok448 kd393 ((zi462 : Int32).toNatClampNeg)
        refine p_iald (v := zi468) hx hb hK hw hW kd393 (by decide) rfl (hW.len kd393 (n := 40) rfl (by decide)) (vp_b bd464 (by decide) (by decide)) eq467 dX12_isAhead_40 ?_
        have eq470 : hp447 qa900 55 = .int 4 := Eq.trans (Fr.at (cq := 13055) F449 kd900 (cd_o (by decide)) (by decide)) eq436
        have eq471 : hp447 qa900 28 = .ref qa20 := Eq.trans (Fr.at (cq := 13028) F449 kd900 (cd_o (by decide)) (by decide)) eq437
        have eq472 : hp447 qa900 18 = .int zi23 := Eq.trans (Fr.at (cq := 13018) F449 kd900 (cd_o (by decide)) (by decide)) eq438
        have eq473 : hp447 qa20 (zi23 : Int32).toNatClampNeg = .int zi26 := Eq.trans (Fr.at (cq := 74000) F449 kd21 (cd_a (by decide)) (by decide)) eq439
        have eq474 : hp447 qa900 56 = .ref qa5 := Eq.trans (Fr.at (cq := 13056) F449 kd900 (cd_o (by decide)) (by decide)) eq440
        have eq475 : hp447 qa5 (0 : Int32).toNatClampNeg = .int zi8 := Eq.trans (Fr.at (cq := 95000) F449 kd6 (cd_a (by decide)) (by decide)) eq441
        have eq476 : hp447 qa5 (1 : Int32).toNatClampNeg = .int zi11 := Eq.trans (Fr.at (cq := 95000) F449 kd6 (cd_a (by decide)) (by decide)) eq442
        have eq477 : hp447 qa5 (2 : Int32).toNatClampNeg = .int zi14 := Eq.trans (Fr.at (cq := 95000) F449 kd6 (cd_a (by decide)) (by decide)) eq443
        have eq478 : hp447 qa5 (3 : Int32).toNatClampNeg = .int zi17 := Eq.trans (Fr.at (cq := 95000) F449 kd6 (cd_a (by decide)) (by decide)) eq444
        refine lv_icmp_le (tgt := 46) hx hb dX12_isAhead_41 (by decide) (fun cn469 => ?_) (fun cn469 => ?_)
        · skip
          have tf479 : zi460.toInt ≤ zi468.toInt := (fa_le _ _).mp cn469
          refine lv_iinc (v := 3) (lv' := [(3, .int 3), (0, .ref qa900), (1, .int zi901), (2, .int zi902)]) hx hb dX12_isAhead_46 hl (k := 0) rfl (by decide) (by decide) rfl (fun ls hl => ?_)
          refine lv_goto (tgt := 6) hx hb dX12_isAhead_49 (by decide) ?_
          refine lv_iload_n hx hb dX12_isAhead_6 rfl (lv_at hl 0 rfl) ?_
          refine lv_aload_n hx hb dX12_isAhead_7 rfl (lv_at hl 1 rfl) ?_
          refine p_get (ci := 12) (v := .int 4) (C := RX12) (T := TX12) (N := 69) hx hb hT iw_X12 hown hK hw hW kd900 (by decide) rfl rfl 55 (by decide) eq470 (hT _ tb_1429) (fun _ h9 => h9) dX12_isAhead_8 ?_
          refine lv_icmp_ge (tgt := 52) hx hb dX12_isAhead_11 (by decide) (fun c => absurd c (d_nle bc_4 bc_3 (by decide))) (fun _ => ?_)
          refine lv_aload_n hx hb dX12_isAhead_14 rfl (lv_at hl 1 rfl) ?_
          refine lv_aload_n hx hb dX12_isAhead_15 rfl (lv_at hl 1 rfl) ?_
          refine p_get (ci := 12) (v := .ref qa5) (C := RX12) (T := TX12) (N := 69) hx hb hT iw_X12 hown hK hw hW kd900 (by decide) rfl rfl 56 (by decide) eq474 (hT _ tb_1430) (fun _ h9 => h9) dX12_isAhead_16 ?_
          refine lv_iload_n hx hb dX12_isAhead_19 rfl (lv_at hl 0 rfl) ?_
          refine p_iald (v := zi17) hx hb hK hw hW kd6 (by decide) rfl (hW.len kd6 (n := 6) rfl (by decide)) (vp_b bc_3 (by decide) (by decide)) eq478 dX12_isAhead_20 ?_
          have pd480 : LW hp447 qa900 := LW_fr ok414 kd900 (show Fr [13048, 13051, 90000, 91000, 93000] K hp413 hp447 from (Fr.tr (Fr.rf) F449 (by decide))) (by decide) pd446
          refine kq_i hw hS hA (va_runV (As := [.int zi17]) (rest := []) ⟨hx, hb, hml, hown, hT⟩ (cX12_sayNow_0 l G cy ev K ln Ls hW _ hp447 ok448 qa900 zi17 kd900 (b_wid2 bd365 (by decide) (by decide)) pd480) (cwV 1 hT (good_V tb_1809 tb_1806 tb_1808 tb_87 tb_122) rfl rfl rfl (by decide +kernel) ⟨Nat.le_of_ble_eq_true rfl, Nat.le_of_ble_eq_true rfl⟩) (pool_preV (ci := 12) hK hE hS hA hw hW kd900 (by decide) rfl) rfl rfl hl.1 rfl (lv_room (Nat.le_of_ble_eq_true rfl)) dX12_isAhead_21 ⟨Nat.le_of_ble_eq_true rfl, Nat.le_of_ble_eq_true rfl⟩) (fun zi485 hp481 H locs hq484 hw hS => ?_)
          obtain ⟨ok482, F483, bd486⟩ := hq484
          have hw : PW G cy K ln Ls A hp481 H := hw
          refine lv_pop hx hb dX12_isAhead_24 rfl ?_
          refine lv_aload_n hx hb dX12_isAhead_25 rfl (lv_at hl 1 rfl) ?_
          have eq487 : hp481 qa900 50 = .ref qa382 := Eq.trans (Fr.at (cq := 13050) F483 kd900 (cd_o (by decide)) (by decide)) eq453
          refine p_get (ci := 12) (v := .ref qa382) (C := RX12) (T := TX12) (N := 69) hx hb hT iw_X12 hown hK hw hW kd900 (by decide) rfl rfl 50 (by decide) eq487 (hT _ tb_1424) (fun _ h9 => h9) dX12_isAhead_26 ?_
          refine lv_iconst (v := 4) hx hb dX12_isAhead_29 (by decide) ?_
          refine lv_iload_n hx hb dX12_isAhead_30 rfl (lv_at hl 3 rfl) ?_
          refine lv_iadd hx hb dX12_isAhead_31 (lv_topi (fun zi488 ea489 => ?_))
          have bd490 : (4 : Int) ≤ zi488.toInt ∧ zi488.toInt ≤ 11 := b_iadd ea489 bc_4 bd902 (by decide) (by decide) (by decide) (by decide)
          have qe491 : zi488.toInt = (4 : Int32).toInt + (zi902 : Int32).toInt := e_iadd ea489 bc_4 bd902 (by decide) (by decide)
          have qe492 : zi488.toInt = 4 + zi902.toInt := by have ha : (4 : Int32).toInt = 4 := (by decide); rw [ha] at qe491; exact qe491
          obtain ⟨zi494, eq493⟩ := rd_93000 ok482 kd383 ((zi488 : Int32).toNatClampNeg)
          refine p_iald (v := zi494) hx hb hK hw hW kd383 (by decide) rfl (hW.len kd383 (n := 40) rfl (by decide)) (vp_b bd490 (by decide) (by decide)) eq493 dX12_isAhead_32 ?_
          refine lv_aload_n hx hb dX12_isAhead_33 rfl (lv_at hl 1 rfl) ?_
          have eq495 : hp481 qa900 49 = .ref qa392 := Eq.trans (Fr.at (cq := 13049) F483 kd900 (cd_o (by decide)) (by decide)) eq461
          refine p_get (ci := 12) (v := .ref qa392) (C := RX12) (T := TX12) (N := 69) hx hb hT iw_X12 hown hK hw hW kd900 (by decide) rfl rfl 49 (by decide) eq495 (hT _ tb_1423) (fun _ h9 => h9) dX12_isAhead_34 ?_
          refine lv_iconst (v := 4) hx hb dX12_isAhead_37 (by decide) ?_
          refine lv_iload_n hx hb dX12_isAhead_38 rfl (lv_at hl 3 rfl) ?_
          refine lv_iadd hx hb dX12_isAhead_39 (lv_topi (fun zi496 ea497 => ?_))
          have bd498 : (4 : Int) ≤ zi496.toInt ∧ zi496.toInt ≤ 11 := b_iadd ea497 bc_4 bd902 (by decide) (by decide) (by decide) (by decide)
          have qe499 : zi496.toInt = (4 : Int32).toInt + (zi902 : Int32).toInt := e_iadd ea497 bc_4 bd902 (by decide) (by decide)
          have qe500 : zi496.toInt = 4 + zi902.toInt := by have ha : (4 : Int32).toInt = 4 := (by decide); rw [ha] at qe499; exact qe499
          obtain ⟨zi502, eq501⟩ := rd_92000 ok482 kd393 ((zi496 : Int32).toNatClampNeg)
          refine p_iald (v := zi502) hx hb hK hw hW kd393 (by decide) rfl (hW.len kd393 (n := 40) rfl (by decide)) (vp_b bd498 (by decide) (by decide)) eq501 dX12_isAhead_40 ?_
          have eq504 : hp481 qa900 55 = .int 4 := Eq.trans (Fr.at (cq := 13055) F483 kd900 (cd_o (by decide)) (by decide)) eq470
          have eq505 : hp481 qa900 28 = .ref qa20 := Eq.trans (Fr.at (cq := 13028) F483 kd900 (cd_o (by decide)) (by decide)) eq471
          have eq506 : hp481 qa900 18 = .int zi23 := Eq.trans (Fr.at (cq := 13018) F483 kd900 (cd_o (by decide)) (by decide)) eq472
          have eq507 : hp481 qa20 (zi23 : Int32).toNatClampNeg = .int zi26 := Eq.trans (Fr.at (cq := 74000) F483 kd21 (cd_a (by decide)) (by decide)) eq473
          have eq508 : hp481 qa900 56 = .ref qa5 := Eq.trans (Fr.at (cq := 13056) F483 kd900 (cd_o (by decide)) (by decide)) eq474
          have eq509 : hp481 qa5 (0 : Int32).toNatClampNeg = .int zi8 := Eq.trans (Fr.at (cq := 95000) F483 kd6 (cd_a (by decide)) (by decide)) eq475
          have eq510 : hp481 qa5 (1 : Int32).toNatClampNeg = .int zi11 := Eq.trans (Fr.at (cq := 95000) F483 kd6 (cd_a (by decide)) (by decide)) eq476
          have eq511 : hp481 qa5 (2 : Int32).toNatClampNeg = .int zi14 := Eq.trans (Fr.at (cq := 95000) F483 kd6 (cd_a (by decide)) (by decide)) eq477
          have eq512 : hp481 qa5 (3 : Int32).toNatClampNeg = .int zi17 := Eq.trans (Fr.at (cq := 95000) F483 kd6 (cd_a (by decide)) (by decide)) eq478
          refine lv_icmp_le (tgt := 46) hx hb dX12_isAhead_41 (by decide) (fun cn503 => ?_) (fun cn503 => ?_)
          · skip
            have tf513 : zi494.toInt ≤ zi502.toInt := (fa_le _ _).mp cn503
            refine lv_iinc (v := 4) (lv' := [(3, .int 4), (0, .ref qa900), (1, .int zi901), (2, .int zi902)]) hx hb dX12_isAhead_46 hl (k := 0) rfl (by decide) (by decide) rfl (fun ls hl => ?_)
            refine lv_goto (tgt := 6) hx hb dX12_isAhead_49 (by decide) ?_
            refine lv_iload_n hx hb dX12_isAhead_6 rfl (lv_at hl 0 rfl) ?_
            refine lv_aload_n hx hb dX12_isAhead_7 rfl (lv_at hl 1 rfl) ?_
            refine p_get (ci := 12) (v := .int 4) (C := RX12) (T := TX12) (N := 69) hx hb hT iw_X12 hown hK hw hW kd900 (by decide) rfl rfl 55 (by decide) eq504 (hT _ tb_1429) (fun _ h9 => h9) dX12_isAhead_8 ?_
            refine lv_icmp_ge (tgt := 52) hx hb dX12_isAhead_11 (by decide) (fun _ => ?_) (fun c => absurd (d_le bc_4 bc_4 (by decide)) c)
            refine lv_aload_n hx hb dX12_isAhead_52 rfl (lv_at hl 1 rfl) ?_
            refine p_get (ci := 12) (v := .ref qa382) (C := RX12) (T := TX12) (N := 69) hx hb hT iw_X12 hown hK hw hW kd900 (by decide) rfl rfl 50 (by decide) eq487 (hT _ tb_1424) (fun _ h9 => h9) dX12_isAhead_53 ?_
            refine lv_iconst (v := 4) hx hb dX12_isAhead_56 (by decide) ?_
            refine lv_iload_n hx hb dX12_isAhead_57 rfl (lv_at hl 2 rfl) ?_
            refine lv_iadd hx hb dX12_isAhead_58 (lv_topi (fun zi514 ea515 => ?_))
            have bd516 : (4 : Int) ≤ zi514.toInt ∧ zi514.toInt ≤ 11 := b_iadd ea515 bc_4 bd901 (by decide) (by decide) (by decide) (by decide)
            have qe517 : zi514.toInt = (4 : Int32).toInt + (zi901 : Int32).toInt := e_iadd ea515 bc_4 bd901 (by decide) (by decide)
            have qe518 : zi514.toInt = 4 + zi901.toInt := by have ha : (4 : Int32).toInt = 4 := (by decide); rw [ha] at qe517; exact qe517
            obtain ⟨zi520, eq519⟩ := rd_93000 ok482 kd383 ((zi514 : Int32).toNatClampNeg)
            refine p_iald (v := zi520) hx hb hK hw hW kd383 (by decide) rfl (hW.len kd383 (n := 40) rfl (by decide)) (vp_b bd516 (by decide) (by decide)) eq519 dX12_isAhead_59 ?_
            refine lv_aload_n hx hb dX12_isAhead_60 rfl (lv_at hl 1 rfl) ?_
            refine p_get (ci := 12) (v := .ref qa392) (C := RX12) (T := TX12) (N := 69) hx hb hT iw_X12 hown hK hw hW kd900 (by decide) rfl rfl 49 (by decide) eq495 (hT _ tb_1423) (fun _ h9 => h9) dX12_isAhead_61 ?_
            refine lv_iconst (v := 4) hx hb dX12_isAhead_64 (by decide) ?_
            refine lv_iload_n hx hb dX12_isAhead_65 rfl (lv_at hl 2 rfl) ?_
            refine lv_iadd hx hb dX12_isAhead_66 (lv_topi (fun zi521 ea522 => ?_))
            have bd523 : (4 : Int) ≤ zi521.toInt ∧ zi521.toInt ≤ 11 := b_iadd ea522 bc_4 bd901 (by decide) (by decide) (by decide) (by decide)
            have qe524 : zi521.toInt = (4 : Int32).toInt + (zi901 : Int32).toInt := e_iadd ea522 bc_4 bd901 (by decide) (by decide)
            have qe525 : zi521.toInt = 4 + zi901.toInt := by have ha : (4 : Int32).toInt = 4 := (by decide); rw [ha] at qe524; exact qe524
            obtain ⟨zi527, eq526⟩ := rd_92000 ok482 kd393 ((zi521 : Int32).toNatClampNeg)
            refine p_iald (v := zi527) hx hb hK hw hW kd393 (by decide) rfl (hW.len kd393 (n := 40) rfl (by decide)) (vp_b bd523 (by decide) (by decide)) eq526 dX12_isAhead_67 ?_
            refine lv_icmp_le (tgt := 75) hx hb dX12_isAhead_68 (by decide) (fun cn528 => ?_) (fun cn528 => ?_)
            · skip
              have tf529 : zi520.toInt ≤ zi527.toInt := (fa_le _ _).mp cn528
              refine lv_iconst (v := 0) hx hb dX12_isAhead_75 (by decide) ?_
              rw [hQ]
              exact kz_i hx hb hr hlocks hS (nz_n bc_0 (by decide) (by decide)) hp481 hw ⟨ok482, (Fr.tr (Fr.tr (Fr.tr (Fr.tr (Fr.tr (Fr.rf) F368 (by decide)) F377 (by decide)) F415 (by decide)) F449 (by decide)) F483 (by decide)), (b_wid2 bc_0 (by decide) (by decide))⟩ (Nat.le_of_ble_eq_true rfl) (Nat.le_of_ble_eq_true rfl) dX12_isAhead_76
            · skip
              have tf530 : zi527.toInt < zi520.toInt := (fa_lt _ _).mp (Int32.not_le.mp cn528)
              have bd531 : (-2147483648 : Int) ≤ zi527.toInt ∧ zi527.toInt ≤ 2147483646 := r_lt_x (Int32.not_le.mp cn528) (b_all zi527) (b_all zi520) (by decide) (by decide)
              have bd532 : (-2147483647 : Int) ≤ zi520.toInt ∧ zi520.toInt ≤ 2147483647 := r_lt_y (Int32.not_le.mp cn528) (b_all zi527) (b_all zi520) (by decide) (by decide)
              refine lv_iconst (v := 1) hx hb dX12_isAhead_71 (by decide) ?_
              refine lv_goto (tgt := 76) hx hb dX12_isAhead_72 (by decide) ?_
              rw [hQ]
              exact kz_i hx hb hr hlocks hS (nz_n bc_1 (by decide) (by decide)) hp481 hw ⟨ok482, (Fr.tr (Fr.tr (Fr.tr (Fr.tr (Fr.tr (Fr.rf) F368 (by decide)) F377 (by decide)) F415 (by decide)) F449 (by decide)) F483 (by decide)), (b_wid2 bc_1 (by decide) (by decide))⟩ (Nat.le_of_ble_eq_true rfl) (Nat.le_of_ble_eq_true rfl) dX12_isAhead_76
          · skip
            have tf533 : zi502.toInt < zi494.toInt := (fa_lt _ _).mp (Int32.not_le.mp cn503)
            have bd534 : (-2147483648 : Int) ≤ zi502.toInt ∧ zi502.toInt ≤ 2147483646 := r_lt_x (Int32.not_le.mp cn503) (b_all zi502) (b_all zi494) (by decide) (by decide)
            have bd535 : (-2147483647 : Int) ≤ zi494.toInt ∧ zi494.toInt ≤ 2147483647 := r_lt_y (Int32.not_le.mp cn503) (b_all zi502) (b_all zi494) (by decide) (by decide)
            refine lv_iconst (v := 0) hx hb dX12_isAhead_44 (by decide) ?_
            rw [hQ]
            exact kz_i hx hb hr hlocks hS (nz_n bc_0 (by decide) (by decide)) hp481 hw ⟨ok482, (Fr.tr (Fr.tr (Fr.tr (Fr.tr (Fr.tr (Fr.rf) F368 (by decide)) F377 (by decide)) F415 (by decide)) F449 (by decide)) F483 (by decide)), (b_wid2 bc_0 (by decide) (by decide))⟩ (Nat.le_of_ble_eq_true rfl) (Nat.le_of_ble_eq_true rfl) dX12_isAhead_45
        · skip
          have tf536 : zi468.toInt < zi460.toInt := (fa_lt _ _).mp (Int32.not_le.mp cn469)
          have bd537 : (-2147483648 : Int) ≤ zi468.toInt ∧ zi468.toInt ≤ 2147483646 := r_lt_x (Int32.not_le.mp cn469) (b_all zi468) (b_all zi460) (by decide) (by decide)
          have bd538 : (-2147483647 : Int) ≤ zi460.toInt ∧ zi460.toInt ≤ 2147483647 := r_lt_y (Int32.not_le.mp cn469) (b_all zi468) (b_all zi460) (by decide) (by decide)
          refine lv_iconst (v := 0) hx hb dX12_isAhead_44 (by decide) ?_
          rw [hQ]
          exact kz_i hx hb hr hlocks hS (nz_n bc_0 (by decide) (by decide)) hp447 hw ⟨ok448, (Fr.tr (Fr.tr (Fr.tr (Fr.tr (Fr.rf) F368 (by decide)) F377 (by decide)) F415 (by decide)) F449 (by decide)), (b_wid2 bc_0 (by decide) (by decide))⟩ (Nat.le_of_ble_eq_true rfl) (Nat.le_of_ble_eq_true rfl) dX12_isAhead_45
      · skip
        have tf539 : zi434.toInt < zi426.toInt := (fa_lt _ _).mp (Int32.not_le.mp cn435)
        have bd540 : (-2147483648 : Int) ≤ zi434.toInt ∧ zi434.toInt ≤ 2147483646 := r_lt_x (Int32.not_le.mp cn435) (b_all zi434) (b_all zi426) (by decide) (by decide)
        have bd541 : (-2147483647 : Int) ≤ zi426.toInt ∧ zi426.toInt ≤ 2147483647 := r_lt_y (Int32.not_le.mp cn435) (b_all zi434) (b_all zi426) (by decide) (by decide)
        refine lv_iconst (v := 0) hx hb dX12_isAhead_44 (by decide) ?_
        rw [hQ]
        exact kz_i hx hb hr hlocks hS (nz_n bc_0 (by decide) (by decide)) hp413 hw ⟨ok414, (Fr.tr (Fr.tr (Fr.tr (Fr.rf) F368 (by decide)) F377 (by decide)) F415 (by decide)), (b_wid2 bc_0 (by decide) (by decide))⟩ (Nat.le_of_ble_eq_true rfl) (Nat.le_of_ble_eq_true rfl) dX12_isAhead_45
    · skip
      have tf542 : zi400.toInt < zi390.toInt := (fa_lt _ _).mp (Int32.not_le.mp cn401)
      have bd543 : (-2147483648 : Int) ≤ zi400.toInt ∧ zi400.toInt ≤ 2147483646 := r_lt_x (Int32.not_le.mp cn401) (b_all zi400) (b_all zi390) (by decide) (by decide)
      have bd544 : (-2147483647 : Int) ≤ zi390.toInt ∧ zi390.toInt ≤ 2147483647 := r_lt_y (Int32.not_le.mp cn401) (b_all zi400) (b_all zi390) (by decide) (by decide)
      refine lv_iconst (v := 0) hx hb dX12_isAhead_44 (by decide) ?_
      rw [hQ]
      exact kz_i hx hb hr hlocks hS (nz_n bc_0 (by decide) (by decide)) hp375 hw ⟨ok376, (Fr.tr (Fr.tr (Fr.rf) F368 (by decide)) F377 (by decide)), (b_wid2 bc_0 (by decide) (by decide))⟩ (Nat.le_of_ble_eq_true rfl) (Nat.le_of_ble_eq_true rfl) dX12_isAhead_45
  have nn545 : zi2.toInt ≠ 1 := fun e => cn29 (Int32.toInt_inj.mp (e.trans (by decide)))
  have nn546 : zi2.toInt ≠ 2 := fun e => cn30 (Int32.toInt_inj.mp (e.trans (by decide)))
  have nn547 : zi2.toInt ≠ 3 := fun e => cn31 (Int32.toInt_inj.mp (e.trans (by decide)))
  have nn548 : zi2.toInt ≠ 4 := fun e => cn32 (Int32.toInt_inj.mp (e.trans (by decide)))
  exact False.elim (by have := bd28; omega)

set_option maxRecDepth 100000 in
set_option maxHeartbeats 4000000 in
theorem cX12_findsAhead_0 (l : Launch) (G : va_G) (cy : Nat → ClassId) (ev : Ew) (K ln : Nat → Nat) (Ls : List Nat) (hW : SW K ln Ls) (sz : Nat) (hp0 : Nat → Nat → Value) (ok0 : Ok K hp0) (qa900 : Nat) (zi901 : Int32) (zi902 : Int32) (kd900 : K qa900 = 13) (bd901 : ((0 : Int) ≤ zi901.toInt ∧ zi901.toInt ≤ 7)) (bd902 : ((0 : Int) ≤ zi902.toInt ∧ zi902.toInt ≤ 7)) (pdLW : LW hp0 qa900) : Met l yX12_findsAhead (WS yX12_findsAhead cX12_findsAhead 4 (some .boolean)) { frames := 5, cells := 0, slots := 0, locals := 126 } (PB2 [.ref qa900, .int zi901, .int zi902] sz G cy ev (va_pl Ls (cellOf cy K ln hp0))) (QBi (S := (Nat → Nat → Value)) (fun (r : Int32) (u : (Nat → Nat → Value)) => Ok K u ∧ Fr [13048, 13051, 13055, 90000, 91000, 93000, 95000] K hp0 u ∧ ((0 : Int) ≤ r.toInt ∧ r.toInt ≤ 1) ∧ (∃ z : Int32, u qa900 55 = .int z ∧ ((1 : Int) ≤ z.toInt ∧ z.toInt ≤ 5)) ∧ (r = 0 → ∃ z : Int32, u qa900 55 = .int z ∧ ((5 : Int) ≤ z.toInt ∧ z.toInt ≤ 5)) ∧ (r = 1 → ∃ z : Int32, u qa900 55 = .int z ∧ ((1 : Int) ≤ z.toInt ∧ z.toInt ≤ 4)) ∧ (r = 1 → (gi u qa900 55) ≤ 0 ∨ (0 ≤ (ga u qa900 56 0) ∧ (ga u qa900 56 0) ≤ (ge u qa900 28 18) - 1)) ∧ (r = 1 → (gi u qa900 55) ≤ 1 ∨ (0 ≤ (ga u qa900 56 1) ∧ (ga u qa900 56 1) ≤ (ge u qa900 28 18) - 1)) ∧ (r = 1 → (gi u qa900 55) ≤ 2 ∨ (0 ≤ (ga u qa900 56 2) ∧ (ga u qa900 56 2) ≤ (ge u qa900 28 18) - 1)) ∧ (r = 1 → (gi u qa900 55) ≤ 3 ∨ (0 ≤ (ga u qa900 56 3) ∧ (ga u qa900 56 3) ≤ (ge u qa900 28 18) - 1)) ∧ (r = 1 → 1 ≤ (gi u qa900 55)) ∧ (r = 1 → (gi u qa900 55) ≤ 4)) G (fun u => va_pl Ls (cellOf cy K ln u)) (va_A (va_pl Ls (cellOf cy K ln hp0)) sz)) 0 0 (va_A (va_pl Ls (cellOf cy K ln hp0)) sz) := by
  refine met_of2 (y := yX12_findsAhead) (L := 4) (av := [.ref qa900, .int zi901, .int zi902]) (Qc := fun A => QBi (S := (Nat → Nat → Value)) (fun (r : Int32) (u : (Nat → Nat → Value)) => Ok K u ∧ Fr [13048, 13051, 13055, 90000, 91000, 93000, 95000] K hp0 u ∧ ((0 : Int) ≤ r.toInt ∧ r.toInt ≤ 1) ∧ (∃ z : Int32, u qa900 55 = .int z ∧ ((1 : Int) ≤ z.toInt ∧ z.toInt ≤ 5)) ∧ (r = 0 → ∃ z : Int32, u qa900 55 = .int z ∧ ((5 : Int) ≤ z.toInt ∧ z.toInt ≤ 5)) ∧ (r = 1 → ∃ z : Int32, u qa900 55 = .int z ∧ ((1 : Int) ≤ z.toInt ∧ z.toInt ≤ 4)) ∧ (r = 1 → (gi u qa900 55) ≤ 0 ∨ (0 ≤ (ga u qa900 56 0) ∧ (ga u qa900 56 0) ≤ (ge u qa900 28 18) - 1)) ∧ (r = 1 → (gi u qa900 55) ≤ 1 ∨ (0 ≤ (ga u qa900 56 1) ∧ (ga u qa900 56 1) ≤ (ge u qa900 28 18) - 1)) ∧ (r = 1 → (gi u qa900 55) ≤ 2 ∨ (0 ≤ (ga u qa900 56 2) ∧ (ga u qa900 56 2) ≤ (ge u qa900 28 18) - 1)) ∧ (r = 1 → (gi u qa900 55) ≤ 3 ∨ (0 ≤ (ga u qa900 56 3) ∧ (ga u qa900 56 3) ≤ (ge u qa900 28 18) - 1)) ∧ (r = 1 → 1 ≤ (gi u qa900 55)) ∧ (r = 1 → (gi u qa900 55) ≤ 4)) G (fun u => va_pl Ls (cellOf cy K ln u)) A) (plainFor_of_name (by decide)) (Nat.le_of_ble_eq_true rfl) ?_
  intro p e s m below meth c hsz hx hb hr hml hown hT hlocks hin hK A hA hE hw hS ls hl
  have hw : PW G cy K ln Ls A hp0 s.heap := hw
  have hown : s.vm.findClass "LieClockModel" = some m.cls := hown
  have hl : lv_has ls 4 [(0, .ref qa900), (1, .int zi901), (2, .int zi902)] := hl
  obtain ⟨Q, hQ⟩ : ∃ Q : State → Prop, Q = MQ below (QBi (S := (Nat → Nat → Value)) (fun (r : Int32) (u : (Nat → Nat → Value)) => Ok K u ∧ Fr [13048, 13051, 13055, 90000, 91000, 93000, 95000] K hp0 u ∧ ((0 : Int) ≤ r.toInt ∧ r.toInt ≤ 1) ∧ (∃ z : Int32, u qa900 55 = .int z ∧ ((1 : Int) ≤ z.toInt ∧ z.toInt ≤ 5)) ∧ (r = 0 → ∃ z : Int32, u qa900 55 = .int z ∧ ((5 : Int) ≤ z.toInt ∧ z.toInt ≤ 5)) ∧ (r = 1 → ∃ z : Int32, u qa900 55 = .int z ∧ ((1 : Int) ≤ z.toInt ∧ z.toInt ≤ 4)) ∧ (r = 1 → (gi u qa900 55) ≤ 0 ∨ (0 ≤ (ga u qa900 56 0) ∧ (ga u qa900 56 0) ≤ (ge u qa900 28 18) - 1)) ∧ (r = 1 → (gi u qa900 55) ≤ 1 ∨ (0 ≤ (ga u qa900 56 1) ∧ (ga u qa900 56 1) ≤ (ge u qa900 28 18) - 1)) ∧ (r = 1 → (gi u qa900 55) ≤ 2 ∨ (0 ≤ (ga u qa900 56 2) ∧ (ga u qa900 56 2) ≤ (ge u qa900 28 18) - 1)) ∧ (r = 1 → (gi u qa900 55) ≤ 3 ∨ (0 ≤ (ga u qa900 56 3) ∧ (ga u qa900 56 3) ≤ (ge u qa900 28 18) - 1)) ∧ (r = 1 → 1 ≤ (gi u qa900 55)) ∧ (r = 1 → (gi u qa900 55) ≤ 4)) G (fun u => va_pl Ls (cellOf cy K ln u)) A) ([.ref qa900, .int zi901, .int zi902] : List Value).toArray s 0 0 A := ⟨_, rfl⟩
  rw [← hQ]
  obtain ⟨zi2, eq1, bd3⟩ := rd_13055 ok0 kd900
  obtain ⟨qa5, eq4, kd6⟩ := rd_13056 ok0 kd900
  obtain ⟨zi8, eq7, bd9⟩ := rd_95000 ok0 kd6 ((0 : Int32).toNatClampNeg)
  obtain ⟨zi11, eq10, bd12⟩ := rd_95000 ok0 kd6 ((1 : Int32).toNatClampNeg)
  obtain ⟨zi14, eq13, bd15⟩ := rd_95000 ok0 kd6 ((2 : Int32).toNatClampNeg)
  obtain ⟨zi17, eq16, bd18⟩ := rd_95000 ok0 kd6 ((3 : Int32).toNatClampNeg)
  obtain ⟨qa20, eq19, kd21⟩ := rd_13028 ok0 kd900
  obtain ⟨zi23, eq22, bd24⟩ := rd_13018 ok0 kd900
  obtain ⟨zi26, eq25, bd27⟩ := rd_74000 ok0 kd21 ((zi23 : Int32).toNatClampNeg)
  refine lv_aload_n hx hb dX12_findsAhead_0 rfl (lv_at hl 0 rfl) ?_
  refine lv_iconst (v := 1) hx hb dX12_findsAhead_1 (by decide) ?_
  refine p_put (ci := 12) (v := .int 1) (ty := .int) (C := RX12) (T := TX12) (N := 69) hx hb hT iw_X12 tyX12 tyX12_ok nmX12 hown hK hw hS hW kd900 (by decide) rfl rfl 55 (by decide) (hT _ tb_1429) (fun _ h9 => h9) rfl (by decide +kernel) rfl rfl dX12_findsAhead_2 (fun hp28 eh29 H locs hw hS => ?_)
  have ok30 := wr_13055 bc_1 (by decide) (by decide) ok0 kd900 eh29
  refine lv_aload_n hx hb dX12_findsAhead_5 rfl (lv_at hl 0 rfl) ?_
  refine p_get (ci := 12) (v := .int 1) (C := RX12) (T := TX12) (N := 69) hx hb hT iw_X12 hown hK hw hW kd900 (by decide) rfl rfl 55 (by decide) (hp_self eh29) (hT _ tb_1429) (fun _ h9 => h9) dX12_findsAhead_6 ?_
  refine lv_iconst (v := 5) hx hb dX12_findsAhead_9 (by decide) ?_
  refine lv_icmp_ge (tgt := 90) hx hb dX12_findsAhead_10 (by decide) (fun c => absurd c (d_nle bc_5 bc_1 (by decide))) (fun _ => ?_)
  refine lv_iconst (v := 0) hx hb dX12_findsAhead_13 (by decide) ?_
  refine lv_istore_n (lv' := [(3, .int 0), (0, .ref qa900), (1, .int zi901), (2, .int zi902)]) hx hb dX12_findsAhead_14 rfl hl (by decide) rfl (fun ls hl => ?_)
  refine lv_iload_n hx hb dX12_findsAhead_15 rfl (lv_at hl 0 rfl) ?_
  refine lv_aload_n hx hb dX12_findsAhead_16 rfl (lv_at hl 1 rfl) ?_
  refine p_get (ci := 12) (v := .int 1) (C := RX12) (T := TX12) (N := 69) hx hb hT iw_X12 hown hK hw hW kd900 (by decide) rfl rfl 55 (by decide) (hp_self eh29) (hT _ tb_1429) (fun _ h9 => h9) dX12_findsAhead_17 ?_
  refine lv_icmp_ge (tgt := 36) hx hb dX12_findsAhead_20 (by decide) (fun c => absurd c (d_nle bc_1 bc_0 (by decide))) (fun _ => ?_)
  refine lv_aload_n hx hb dX12_findsAhead_23 rfl (lv_at hl 1 rfl) ?_
  have eq31 : hp28 qa900 56 = .ref qa5 := Eq.trans (up_at eh29 (Or.inr (by decide))) eq4
  refine p_get (ci := 12) (v := .ref qa5) (C := RX12) (T := TX12) (N := 69) hx hb hT iw_X12 hown hK hw hW kd900 (by decide) rfl rfl 56 (by decide) eq31 (hT _ tb_1430) (fun _ h9 => h9) dX12_findsAhead_24 ?_
  refine lv_iload_n hx hb dX12_findsAhead_27 rfl (lv_at hl 0 rfl) ?_
  refine lv_iconst (v := 0) hx hb dX12_findsAhead_28 (by decide) ?_
  refine p_iast (x := 0) hx hb hK hw hS hW kd6 (by decide) rfl (hW.len kd6 (n := 6) rfl (by decide)) (vp_b bc_0 (by decide) (by decide)) dX12_findsAhead_29 (fun hp32 eh33 H locs hw hS => ?_)
  have ok34 := wr_95000 bc_0 (by decide) (by decide) ok30 kd6 eh33
  refine lv_iinc (v := 1) (lv' := [(3, .int 1), (0, .ref qa900), (1, .int zi901), (2, .int zi902)]) hx hb dX12_findsAhead_30 hl (k := 0) rfl (by decide) (by decide) rfl (fun ls hl => ?_)
  refine lv_goto (tgt := 15) hx hb dX12_findsAhead_33 (by decide) ?_
  refine lv_iload_n hx hb dX12_findsAhead_15 rfl (lv_at hl 0 rfl) ?_
  refine lv_aload_n hx hb dX12_findsAhead_16 rfl (lv_at hl 1 rfl) ?_
  have eq35 : hp32 qa900 55 = .int 1 := Eq.trans (up_at eh33 (Or.inl (kd_ne kd900 kd6 (by decide)))) (hp_self eh29)
  refine p_get (ci := 12) (v := .int 1) (C := RX12) (T := TX12) (N := 69) hx hb hT iw_X12 hown hK hw hW kd900 (by decide) rfl rfl 55 (by decide) eq35 (hT _ tb_1429) (fun _ h9 => h9) dX12_findsAhead_17 ?_
  refine lv_icmp_ge (tgt := 36) hx hb dX12_findsAhead_20 (by decide) (fun _ => ?_) (fun c => absurd (d_le bc_1 bc_1 (by decide)) c)
  refine lv_aload_n hx hb dX12_findsAhead_36 rfl (lv_at hl 1 rfl) ?_
  have eq36 : hp32 qa900 28 = .ref qa20 := Eq.trans (up_at eh33 (Or.inl (kd_ne kd900 kd6 (by decide)))) (Eq.trans (up_at eh29 (Or.inr (by decide))) eq19)
  refine p_get (ci := 12) (v := .ref qa20) (C := RX12) (T := TX12) (N := 69) hx hb hT iw_X12 hown hK hw hW kd900 (by decide) rfl rfl 28 (by decide) eq36 (hT _ tb_1402) (fun _ h9 => h9) dX12_findsAhead_37 ?_
  refine lv_aload_n hx hb dX12_findsAhead_40 rfl (lv_at hl 1 rfl) ?_
  have eq37 : hp32 qa900 18 = .int zi23 := Eq.trans (up_at eh33 (Or.inl (kd_ne kd900 kd6 (by decide)))) (Eq.trans (up_at eh29 (Or.inr (by decide))) eq22)
  refine p_get (ci := 12) (v := .int zi23) (C := RX12) (T := TX12) (N := 69) hx hb hT iw_X12 hown hK hw hW kd900 (by decide) rfl rfl 18 (by decide) eq37 (hT _ tb_1392) (fun _ h9 => h9) dX12_findsAhead_41 ?_
  have eq38 : hp32 qa20 (zi23 : Int32).toNatClampNeg = .int zi26 := Eq.trans (up_at eh33 (Or.inl (kd_ne kd21 kd6 (by decide)))) (Eq.trans (up_at eh29 (Or.inl (kd_ne kd21 kd900 (by decide)))) eq25)
  refine p_iald (v := zi26) hx hb hK hw hW kd21 (by decide) rfl (hW.len kd21 (n := 2) rfl (by decide)) (vp_b bd24 (by decide) (by decide)) eq38 dX12_findsAhead_44 ?_
  have eq40 : hp32 qa900 56 = .ref qa5 := Eq.trans (up_at eh33 (Or.inl (kd_ne kd900 kd6 (by decide)))) eq31
  have eq41 : hp32 qa5 (1 : Int32).toNatClampNeg = .int zi11 := Eq.trans (up_at eh33 (Or.inr (by decide))) (Eq.trans (up_at eh29 (Or.inl (kd_ne kd6 kd900 (by decide)))) eq10)
  have eq42 : hp32 qa5 (2 : Int32).toNatClampNeg = .int zi14 := Eq.trans (up_at eh33 (Or.inr (by decide))) (Eq.trans (up_at eh29 (Or.inl (kd_ne kd6 kd900 (by decide)))) eq13)
  have eq43 : hp32 qa5 (3 : Int32).toNatClampNeg = .int zi17 := Eq.trans (up_at eh33 (Or.inr (by decide))) (Eq.trans (up_at eh29 (Or.inl (kd_ne kd6 kd900 (by decide)))) eq16)
  refine lv_if_le (tgt := 52) hx hb dX12_findsAhead_45 (by decide) (fun cn39 => ?_) (fun cn39 => ?_)
  · skip
    have bd44 : (0 : Int) ≤ zi26.toInt ∧ zi26.toInt ≤ 0 := r_le_x cn39 bd27 bc_0 (by decide) (by decide)
    refine lv_iconst (v := 0) hx hb dX12_findsAhead_52 (by decide) ?_
    refine lv_istore_n (lv' := [(3, .int 0), (0, .ref qa900), (1, .int zi901), (2, .int zi902)]) hx hb dX12_findsAhead_53 rfl hl (by decide) rfl (fun ls hl => ?_)
    refine lv_iload_n hx hb dX12_findsAhead_54 rfl (lv_at hl 0 rfl) ?_
    refine lv_if_eq (tgt := 77) hx hb dX12_findsAhead_55 (by decide) (fun _ => ?_) (fun c => absurd (d_eq bc_0 bc_0) c)
    refine lv_aload_n hx hb dX12_findsAhead_77 rfl (lv_at hl 1 rfl) ?_
    refine lv_dup hx hb dX12_findsAhead_78 rfl ?_
    refine p_get (ci := 12) (v := .int 1) (C := RX12) (T := TX12) (N := 69) hx hb hT iw_X12 hown hK hw hW kd900 (by decide) rfl rfl 55 (by decide) eq35 (hT _ tb_1429) (fun _ h9 => h9) dX12_findsAhead_79 ?_
    refine lv_iconst (v := 1) hx hb dX12_findsAhead_82 (by decide) ?_
    refine kx_iadd (v := 2) hx hb dX12_findsAhead_83 (by decide) ?_
    refine p_put (ci := 12) (v := .int 2) (ty := .int) (C := RX12) (T := TX12) (N := 69) hx hb hT iw_X12 tyX12 tyX12_ok nmX12 hown hK hw hS hW kd900 (by decide) rfl rfl 55 (by decide) (hT _ tb_1429) (fun _ h9 => h9) rfl (by decide +kernel) rfl rfl dX12_findsAhead_84 (fun hp45 eh46 H locs hw hS => ?_)
    have ok47 := wr_13055 bc_2 (by decide) (by decide) ok34 kd900 eh46
    refine lv_goto (tgt := 5) hx hb dX12_findsAhead_87 (by decide) ?_
    refine lv_aload_n hx hb dX12_findsAhead_5 rfl (lv_at hl 1 rfl) ?_
    refine p_get (ci := 12) (v := .int 2) (C := RX12) (T := TX12) (N := 69) hx hb hT iw_X12 hown hK hw hW kd900 (by decide) rfl rfl 55 (by decide) (hp_self eh46) (hT _ tb_1429) (fun _ h9 => h9) dX12_findsAhead_6 ?_
    refine lv_iconst (v := 5) hx hb dX12_findsAhead_9 (by decide) ?_
    refine lv_icmp_ge (tgt := 90) hx hb dX12_findsAhead_10 (by decide) (fun c => absurd c (d_nle bc_5 bc_2 (by decide))) (fun _ => ?_)
    refine lv_iconst (v := 0) hx hb dX12_findsAhead_13 (by decide) ?_
    refine lv_istore_n (lv' := [(3, .int 0), (0, .ref qa900), (1, .int zi901), (2, .int zi902)]) hx hb dX12_findsAhead_14 rfl hl (by decide) rfl (fun ls hl => ?_)
    refine lv_iload_n hx hb dX12_findsAhead_15 rfl (lv_at hl 0 rfl) ?_
    refine lv_aload_n hx hb dX12_findsAhead_16 rfl (lv_at hl 1 rfl) ?_
    refine p_get (ci := 12) (v := .int 2) (C := RX12) (T := TX12) (N := 69) hx hb hT iw_X12 hown hK hw hW kd900 (by decide) rfl rfl 55 (by decide) (hp_self eh46) (hT _ tb_1429) (fun _ h9 => h9) dX12_findsAhead_17 ?_
    refine lv_icmp_ge (tgt := 36) hx hb dX12_findsAhead_20 (by decide) (fun c => absurd c (d_nle bc_2 bc_0 (by decide))) (fun _ => ?_)
    refine lv_aload_n hx hb dX12_findsAhead_23 rfl (lv_at hl 1 rfl) ?_
    have eq48 : hp45 qa900 56 = .ref qa5 := Eq.trans (up_at eh46 (Or.inr (by decide))) eq40
    refine p_get (ci := 12) (v := .ref qa5) (C := RX12) (T := TX12) (N := 69) hx hb hT iw_X12 hown hK hw hW kd900 (by decide) rfl rfl 56 (by decide) eq48 (hT _ tb_1430) (fun _ h9 => h9) dX12_findsAhead_24 ?_
    refine lv_iload_n hx hb dX12_findsAhead_27 rfl (lv_at hl 0 rfl) ?_
    refine lv_iconst (v := 0) hx hb dX12_findsAhead_28 (by decide) ?_
    refine p_iast (x := 0) hx hb hK hw hS hW kd6 (by decide) rfl (hW.len kd6 (n := 6) rfl (by decide)) (vp_b bc_0 (by decide) (by decide)) dX12_findsAhead_29 (fun hp49 eh50 H locs hw hS => ?_)
    have ok51 := wr_95000 bc_0 (by decide) (by decide) ok47 kd6 eh50
    refine lv_iinc (v := 1) (lv' := [(3, .int 1), (0, .ref qa900), (1, .int zi901), (2, .int zi902)]) hx hb dX12_findsAhead_30 hl (k := 0) rfl (by decide) (by decide) rfl (fun ls hl => ?_)
    refine lv_goto (tgt := 15) hx hb dX12_findsAhead_33 (by decide) ?_
    refine lv_iload_n hx hb dX12_findsAhead_15 rfl (lv_at hl 0 rfl) ?_
    refine lv_aload_n hx hb dX12_findsAhead_16 rfl (lv_at hl 1 rfl) ?_
    have eq52 : hp49 qa900 55 = .int 2 := Eq.trans (up_at eh50 (Or.inl (kd_ne kd900 kd6 (by decide)))) (hp_self eh46)
    refine p_get (ci := 12) (v := .int 2) (C := RX12) (T := TX12) (N := 69) hx hb hT iw_X12 hown hK hw hW kd900 (by decide) rfl rfl 55 (by decide) eq52 (hT _ tb_1429) (fun _ h9 => h9) dX12_findsAhead_17 ?_
    refine lv_icmp_ge (tgt := 36) hx hb dX12_findsAhead_20 (by decide) (fun c => absurd c (d_nle bc_2 bc_1 (by decide))) (fun _ => ?_)
    refine lv_aload_n hx hb dX12_findsAhead_23 rfl (lv_at hl 1 rfl) ?_
    have eq53 : hp49 qa900 56 = .ref qa5 := Eq.trans (up_at eh50 (Or.inl (kd_ne kd900 kd6 (by decide)))) eq48
    refine p_get (ci := 12) (v := .ref qa5) (C := RX12) (T := TX12) (N := 69) hx hb hT iw_X12 hown hK hw hW kd900 (by decide) rfl rfl 56 (by decide) eq53 (hT _ tb_1430) (fun _ h9 => h9) dX12_findsAhead_24 ?_
    refine lv_iload_n hx hb dX12_findsAhead_27 rfl (lv_at hl 0 rfl) ?_
    refine lv_iconst (v := 0) hx hb dX12_findsAhead_28 (by decide) ?_
    refine p_iast (x := 0) hx hb hK hw hS hW kd6 (by decide) rfl (hW.len kd6 (n := 6) rfl (by decide)) (vp_b bc_1 (by decide) (by decide)) dX12_findsAhead_29 (fun hp54 eh55 H locs hw hS => ?_)
    have ok56 := wr_95000 bc_0 (by decide) (by decide) ok51 kd6 eh55
    refine lv_iinc (v := 2) (lv' := [(3, .int 2), (0, .ref qa900), (1, .int zi901), (2, .int zi902)]) hx hb dX12_findsAhead_30 hl (k := 0) rfl (by decide) (by decide) rfl (fun ls hl => ?_)
    refine lv_goto (tgt := 15) hx hb dX12_findsAhead_33 (by decide) ?_
    refine lv_iload_n hx hb dX12_findsAhead_15 rfl (lv_at hl 0 rfl) ?_
    refine lv_aload_n hx hb dX12_findsAhead_16 rfl (lv_at hl 1 rfl) ?_
    have eq57 : hp54 qa900 55 = .int 2 := Eq.trans (up_at eh55 (Or.inl (kd_ne kd900 kd6 (by decide)))) eq52
    refine p_get (ci := 12) (v := .int 2) (C := RX12) (T := TX12) (N := 69) hx hb hT iw_X12 hown hK hw hW kd900 (by decide) rfl rfl 55 (by decide) eq57 (hT _ tb_1429) (fun _ h9 => h9) dX12_findsAhead_17 ?_
    refine lv_icmp_ge (tgt := 36) hx hb dX12_findsAhead_20 (by decide) (fun _ => ?_) (fun c => absurd (d_le bc_2 bc_2 (by decide)) c)
    refine lv_aload_n hx hb dX12_findsAhead_36 rfl (lv_at hl 1 rfl) ?_
    have eq58 : hp54 qa900 28 = .ref qa20 := Eq.trans (up_at eh55 (Or.inl (kd_ne kd900 kd6 (by decide)))) (Eq.trans (up_at eh50 (Or.inl (kd_ne kd900 kd6 (by decide)))) (Eq.trans (up_at eh46 (Or.inr (by decide))) eq36))
    refine p_get (ci := 12) (v := .ref qa20) (C := RX12) (T := TX12) (N := 69) hx hb hT iw_X12 hown hK hw hW kd900 (by decide) rfl rfl 28 (by decide) eq58 (hT _ tb_1402) (fun _ h9 => h9) dX12_findsAhead_37 ?_
    refine lv_aload_n hx hb dX12_findsAhead_40 rfl (lv_at hl 1 rfl) ?_
    have eq59 : hp54 qa900 18 = .int zi23 := Eq.trans (up_at eh55 (Or.inl (kd_ne kd900 kd6 (by decide)))) (Eq.trans (up_at eh50 (Or.inl (kd_ne kd900 kd6 (by decide)))) (Eq.trans (up_at eh46 (Or.inr (by decide))) eq37))
    refine p_get (ci := 12) (v := .int zi23) (C := RX12) (T := TX12) (N := 69) hx hb hT iw_X12 hown hK hw hW kd900 (by decide) rfl rfl 18 (by decide) eq59 (hT _ tb_1392) (fun _ h9 => h9) dX12_findsAhead_41 ?_
    have eq60 : hp54 qa20 (zi23 : Int32).toNatClampNeg = .int zi26 := Eq.trans (up_at eh55 (Or.inl (kd_ne kd21 kd6 (by decide)))) (Eq.trans (up_at eh50 (Or.inl (kd_ne kd21 kd6 (by decide)))) (Eq.trans (up_at eh46 (Or.inl (kd_ne kd21 kd900 (by decide)))) eq38))
    refine p_iald (v := zi26) hx hb hK hw hW kd21 (by decide) rfl (hW.len kd21 (n := 2) rfl (by decide)) (vp_b bd24 (by decide) (by decide)) eq60 dX12_findsAhead_44 ?_
    refine lv_if_le (tgt := 52) hx hb dX12_findsAhead_45 (by decide) (fun _ => ?_) (fun c => absurd (d_le bd44 bc_0 (by decide)) c)
    refine lv_iconst (v := 0) hx hb dX12_findsAhead_52 (by decide) ?_
    refine lv_istore_n (lv' := [(3, .int 0), (0, .ref qa900), (1, .int zi901), (2, .int zi902)]) hx hb dX12_findsAhead_53 rfl hl (by decide) rfl (fun ls hl => ?_)
    have eq61 : hp54 qa900 56 = .ref qa5 := Eq.trans (up_at eh55 (Or.inl (kd_ne kd900 kd6 (by decide)))) eq53
    have eq62 : hp54 qa5 (0 : Int32).toNatClampNeg = .int 0 := Eq.trans (up_at eh55 (Or.inr (by decide))) (hp_self eh50)
    have eq63 : hp54 qa5 (2 : Int32).toNatClampNeg = .int zi14 := Eq.trans (up_at eh55 (Or.inr (by decide))) (Eq.trans (up_at eh50 (Or.inr (by decide))) (Eq.trans (up_at eh46 (Or.inl (kd_ne kd6 kd900 (by decide)))) eq42))
    have eq64 : hp54 qa5 (3 : Int32).toNatClampNeg = .int zi17 := Eq.trans (up_at eh55 (Or.inr (by decide))) (Eq.trans (up_at eh50 (Or.inr (by decide))) (Eq.trans (up_at eh46 (Or.inl (kd_ne kd6 kd900 (by decide)))) eq43))
    refine lv_iload_n hx hb dX12_findsAhead_54 rfl (lv_at hl 0 rfl) ?_
    refine lv_if_eq (tgt := 77) hx hb dX12_findsAhead_55 (by decide) (fun _ => ?_) (fun c => absurd (d_eq bc_0 bc_0) c)
    refine lv_aload_n hx hb dX12_findsAhead_77 rfl (lv_at hl 1 rfl) ?_
    refine lv_dup hx hb dX12_findsAhead_78 rfl ?_
    refine p_get (ci := 12) (v := .int 2) (C := RX12) (T := TX12) (N := 69) hx hb hT iw_X12 hown hK hw hW kd900 (by decide) rfl rfl 55 (by decide) eq57 (hT _ tb_1429) (fun _ h9 => h9) dX12_findsAhead_79 ?_
    refine lv_iconst (v := 1) hx hb dX12_findsAhead_82 (by decide) ?_
    refine kx_iadd (v := 3) hx hb dX12_findsAhead_83 (by decide) ?_
    refine p_put (ci := 12) (v := .int 3) (ty := .int) (C := RX12) (T := TX12) (N := 69) hx hb hT iw_X12 tyX12 tyX12_ok nmX12 hown hK hw hS hW kd900 (by decide) rfl rfl 55 (by decide) (hT _ tb_1429) (fun _ h9 => h9) rfl (by decide +kernel) rfl rfl dX12_findsAhead_84 (fun hp65 eh66 H locs hw hS => ?_)
    have ok67 := wr_13055 bc_3 (by decide) (by decide) ok56 kd900 eh66
    refine lv_goto (tgt := 5) hx hb dX12_findsAhead_87 (by decide) ?_
    refine lv_aload_n hx hb dX12_findsAhead_5 rfl (lv_at hl 1 rfl) ?_
    refine p_get (ci := 12) (v := .int 3) (C := RX12) (T := TX12) (N := 69) hx hb hT iw_X12 hown hK hw hW kd900 (by decide) rfl rfl 55 (by decide) (hp_self eh66) (hT _ tb_1429) (fun _ h9 => h9) dX12_findsAhead_6 ?_
    refine lv_iconst (v := 5) hx hb dX12_findsAhead_9 (by decide) ?_
    refine lv_icmp_ge (tgt := 90) hx hb dX12_findsAhead_10 (by decide) (fun c => absurd c (d_nle bc_5 bc_3 (by decide))) (fun _ => ?_)
    refine lv_iconst (v := 0) hx hb dX12_findsAhead_13 (by decide) ?_
    refine lv_istore_n (lv' := [(3, .int 0), (0, .ref qa900), (1, .int zi901), (2, .int zi902)]) hx hb dX12_findsAhead_14 rfl hl (by decide) rfl (fun ls hl => ?_)
    refine lv_iload_n hx hb dX12_findsAhead_15 rfl (lv_at hl 0 rfl) ?_
    refine lv_aload_n hx hb dX12_findsAhead_16 rfl (lv_at hl 1 rfl) ?_
    refine p_get (ci := 12) (v := .int 3) (C := RX12) (T := TX12) (N := 69) hx hb hT iw_X12 hown hK hw hW kd900 (by decide) rfl rfl 55 (by decide) (hp_self eh66) (hT _ tb_1429) (fun _ h9 => h9) dX12_findsAhead_17 ?_
    refine lv_icmp_ge (tgt := 36) hx hb dX12_findsAhead_20 (by decide) (fun c => absurd c (d_nle bc_3 bc_0 (by decide))) (fun _ => ?_)
    refine lv_aload_n hx hb dX12_findsAhead_23 rfl (lv_at hl 1 rfl) ?_
    have eq68 : hp65 qa900 56 = .ref qa5 := Eq.trans (up_at eh66 (Or.inr (by decide))) eq61
    refine p_get (ci := 12) (v := .ref qa5) (C := RX12) (T := TX12) (N := 69) hx hb hT iw_X12 hown hK hw hW kd900 (by decide) rfl rfl 56 (by decide) eq68 (hT _ tb_1430) (fun _ h9 => h9) dX12_findsAhead_24 ?_
    refine lv_iload_n hx hb dX12_findsAhead_27 rfl (lv_at hl 0 rfl) ?_
    refine lv_iconst (v := 0) hx hb dX12_findsAhead_28 (by decide) ?_
    refine p_iast (x := 0) hx hb hK hw hS hW kd6 (by decide) rfl (hW.len kd6 (n := 6) rfl (by decide)) (vp_b bc_0 (by decide) (by decide)) dX12_findsAhead_29 (fun hp69 eh70 H locs hw hS => ?_)
    have ok71 := wr_95000 bc_0 (by decide) (by decide) ok67 kd6 eh70
    refine lv_iinc (v := 1) (lv' := [(3, .int 1), (0, .ref qa900), (1, .int zi901), (2, .int zi902)]) hx hb dX12_findsAhead_30 hl (k := 0) rfl (by decide) (by decide) rfl (fun ls hl => ?_)
    refine lv_goto (tgt := 15) hx hb dX12_findsAhead_33 (by decide) ?_
    refine lv_iload_n hx hb dX12_findsAhead_15 rfl (lv_at hl 0 rfl) ?_
    refine lv_aload_n hx hb dX12_findsAhead_16 rfl (lv_at hl 1 rfl) ?_
    have eq72 : hp69 qa900 55 = .int 3 := Eq.trans (up_at eh70 (Or.inl (kd_ne kd900 kd6 (by decide)))) (hp_self eh66)
    refine p_get (ci := 12) (v := .int 3) (C := RX12) (T := TX12) (N := 69) hx hb hT iw_X12 hown hK hw hW kd900 (by decide) rfl rfl 55 (by decide) eq72 (hT _ tb_1429) (fun _ h9 => h9) dX12_findsAhead_17 ?_
    refine lv_icmp_ge (tgt := 36) hx hb dX12_findsAhead_20 (by decide) (fun c => absurd c (d_nle bc_3 bc_1 (by decide))) (fun _ => ?_)
    refine lv_aload_n hx hb dX12_findsAhead_23 rfl (lv_at hl 1 rfl) ?_
    have eq73 : hp69 qa900 56 = .ref qa5 := Eq.trans (up_at eh70 (Or.inl (kd_ne kd900 kd6 (by decide)))) eq68
    refine p_get (ci := 12) (v := .ref qa5) (C := RX12) (T := TX12) (N := 69) hx hb hT iw_X12 hown hK hw hW kd900 (by decide) rfl rfl 56 (by decide) eq73 (hT _ tb_1430) (fun _ h9 => h9) dX12_findsAhead_24 ?_
    refine lv_iload_n hx hb dX12_findsAhead_27 rfl (lv_at hl 0 rfl) ?_
    refine lv_iconst (v := 0) hx hb dX12_findsAhead_28 (by decide) ?_
    refine p_iast (x := 0) hx hb hK hw hS hW kd6 (by decide) rfl (hW.len kd6 (n := 6) rfl (by decide)) (vp_b bc_1 (by decide) (by decide)) dX12_findsAhead_29 (fun hp74 eh75 H locs hw hS => ?_)
    have ok76 := wr_95000 bc_0 (by decide) (by decide) ok71 kd6 eh75
    refine lv_iinc (v := 2) (lv' := [(3, .int 2), (0, .ref qa900), (1, .int zi901), (2, .int zi902)]) hx hb dX12_findsAhead_30 hl (k := 0) rfl (by decide) (by decide) rfl (fun ls hl => ?_)
    refine lv_goto (tgt := 15) hx hb dX12_findsAhead_33 (by decide) ?_
    refine lv_iload_n hx hb dX12_findsAhead_15 rfl (lv_at hl 0 rfl) ?_
    refine lv_aload_n hx hb dX12_findsAhead_16 rfl (lv_at hl 1 rfl) ?_
    have eq77 : hp74 qa900 55 = .int 3 := Eq.trans (up_at eh75 (Or.inl (kd_ne kd900 kd6 (by decide)))) eq72
    refine p_get (ci := 12) (v := .int 3) (C := RX12) (T := TX12) (N := 69) hx hb hT iw_X12 hown hK hw hW kd900 (by decide) rfl rfl 55 (by decide) eq77 (hT _ tb_1429) (fun _ h9 => h9) dX12_findsAhead_17 ?_
    refine lv_icmp_ge (tgt := 36) hx hb dX12_findsAhead_20 (by decide) (fun c => absurd c (d_nle bc_3 bc_2 (by decide))) (fun _ => ?_)
    refine lv_aload_n hx hb dX12_findsAhead_23 rfl (lv_at hl 1 rfl) ?_
    have eq78 : hp74 qa900 56 = .ref qa5 := Eq.trans (up_at eh75 (Or.inl (kd_ne kd900 kd6 (by decide)))) eq73
    refine p_get (ci := 12) (v := .ref qa5) (C := RX12) (T := TX12) (N := 69) hx hb hT iw_X12 hown hK hw hW kd900 (by decide) rfl rfl 56 (by decide) eq78 (hT _ tb_1430) (fun _ h9 => h9) dX12_findsAhead_24 ?_
    refine lv_iload_n hx hb dX12_findsAhead_27 rfl (lv_at hl 0 rfl) ?_
    refine lv_iconst (v := 0) hx hb dX12_findsAhead_28 (by decide) ?_
    refine p_iast (x := 0) hx hb hK hw hS hW kd6 (by decide) rfl (hW.len kd6 (n := 6) rfl (by decide)) (vp_b bc_2 (by decide) (by decide)) dX12_findsAhead_29 (fun hp79 eh80 H locs hw hS => ?_)
    have ok81 := wr_95000 bc_0 (by decide) (by decide) ok76 kd6 eh80
    refine lv_iinc (v := 3) (lv' := [(3, .int 3), (0, .ref qa900), (1, .int zi901), (2, .int zi902)]) hx hb dX12_findsAhead_30 hl (k := 0) rfl (by decide) (by decide) rfl (fun ls hl => ?_)
    refine lv_goto (tgt := 15) hx hb dX12_findsAhead_33 (by decide) ?_
    refine lv_iload_n hx hb dX12_findsAhead_15 rfl (lv_at hl 0 rfl) ?_
    refine lv_aload_n hx hb dX12_findsAhead_16 rfl (lv_at hl 1 rfl) ?_
    have eq82 : hp79 qa900 55 = .int 3 := Eq.trans (up_at eh80 (Or.inl (kd_ne kd900 kd6 (by decide)))) eq77
    refine p_get (ci := 12) (v := .int 3) (C := RX12) (T := TX12) (N := 69) hx hb hT iw_X12 hown hK hw hW kd900 (by decide) rfl rfl 55 (by decide) eq82 (hT _ tb_1429) (fun _ h9 => h9) dX12_findsAhead_17 ?_
    refine lv_icmp_ge (tgt := 36) hx hb dX12_findsAhead_20 (by decide) (fun _ => ?_) (fun c => absurd (d_le bc_3 bc_3 (by decide)) c)
    refine lv_aload_n hx hb dX12_findsAhead_36 rfl (lv_at hl 1 rfl) ?_
    have eq83 : hp79 qa900 28 = .ref qa20 := Eq.trans (up_at eh80 (Or.inl (kd_ne kd900 kd6 (by decide)))) (Eq.trans (up_at eh75 (Or.inl (kd_ne kd900 kd6 (by decide)))) (Eq.trans (up_at eh70 (Or.inl (kd_ne kd900 kd6 (by decide)))) (Eq.trans (up_at eh66 (Or.inr (by decide))) eq58)))
    refine p_get (ci := 12) (v := .ref qa20) (C := RX12) (T := TX12) (N := 69) hx hb hT iw_X12 hown hK hw hW kd900 (by decide) rfl rfl 28 (by decide) eq83 (hT _ tb_1402) (fun _ h9 => h9) dX12_findsAhead_37 ?_
    refine lv_aload_n hx hb dX12_findsAhead_40 rfl (lv_at hl 1 rfl) ?_
    have eq84 : hp79 qa900 18 = .int zi23 := Eq.trans (up_at eh80 (Or.inl (kd_ne kd900 kd6 (by decide)))) (Eq.trans (up_at eh75 (Or.inl (kd_ne kd900 kd6 (by decide)))) (Eq.trans (up_at eh70 (Or.inl (kd_ne kd900 kd6 (by decide)))) (Eq.trans (up_at eh66 (Or.inr (by decide))) eq59)))
    refine p_get (ci := 12) (v := .int zi23) (C := RX12) (T := TX12) (N := 69) hx hb hT iw_X12 hown hK hw hW kd900 (by decide) rfl rfl 18 (by decide) eq84 (hT _ tb_1392) (fun _ h9 => h9) dX12_findsAhead_41 ?_
    have eq85 : hp79 qa20 (zi23 : Int32).toNatClampNeg = .int zi26 := Eq.trans (up_at eh80 (Or.inl (kd_ne kd21 kd6 (by decide)))) (Eq.trans (up_at eh75 (Or.inl (kd_ne kd21 kd6 (by decide)))) (Eq.trans (up_at eh70 (Or.inl (kd_ne kd21 kd6 (by decide)))) (Eq.trans (up_at eh66 (Or.inl (kd_ne kd21 kd900 (by decide)))) eq60)))
    refine p_iald (v := zi26) hx hb hK hw hW kd21 (by decide) rfl (hW.len kd21 (n := 2) rfl (by decide)) (vp_b bd24 (by decide) (by decide)) eq85 dX12_findsAhead_44 ?_
    refine lv_if_le (tgt := 52) hx hb dX12_findsAhead_45 (by decide) (fun _ => ?_) (fun c => absurd (d_le bd44 bc_0 (by decide)) c)
    refine lv_iconst (v := 0) hx hb dX12_findsAhead_52 (by decide) ?_
    refine lv_istore_n (lv' := [(3, .int 0), (0, .ref qa900), (1, .int zi901), (2, .int zi902)]) hx hb dX12_findsAhead_53 rfl hl (by decide) rfl (fun ls hl => ?_)
    have eq86 : hp79 qa900 56 = .ref qa5 := Eq.trans (up_at eh80 (Or.inl (kd_ne kd900 kd6 (by decide)))) eq78
    have eq87 : hp79 qa5 (0 : Int32).toNatClampNeg = .int 0 := Eq.trans (up_at eh80 (Or.inr (by decide))) (Eq.trans (up_at eh75 (Or.inr (by decide))) (hp_self eh70))
    have eq88 : hp79 qa5 (1 : Int32).toNatClampNeg = .int 0 := Eq.trans (up_at eh80 (Or.inr (by decide))) (hp_self eh75)
    have eq89 : hp79 qa5 (3 : Int32).toNatClampNeg = .int zi17 := Eq.trans (up_at eh80 (Or.inr (by decide))) (Eq.trans (up_at eh75 (Or.inr (by decide))) (Eq.trans (up_at eh70 (Or.inr (by decide))) (Eq.trans (up_at eh66 (Or.inl (kd_ne kd6 kd900 (by decide)))) eq64)))
    refine lv_iload_n hx hb dX12_findsAhead_54 rfl (lv_at hl 0 rfl) ?_
    refine lv_if_eq (tgt := 77) hx hb dX12_findsAhead_55 (by decide) (fun _ => ?_) (fun c => absurd (d_eq bc_0 bc_0) c)
    refine lv_aload_n hx hb dX12_findsAhead_77 rfl (lv_at hl 1 rfl) ?_
    refine lv_dup hx hb dX12_findsAhead_78 rfl ?_
    refine p_get (ci := 12) (v := .int 3) (C := RX12) (T := TX12) (N := 69) hx hb hT iw_X12 hown hK hw hW kd900 (by decide) rfl rfl 55 (by decide) eq82 (hT _ tb_1429) (fun _ h9 => h9) dX12_findsAhead_79 ?_
    refine lv_iconst (v := 1) hx hb dX12_findsAhead_82 (by decide) ?_
    refine kx_iadd (v := 4) hx hb dX12_findsAhead_83 (by decide) ?_
    refine p_put (ci := 12) (v := .int 4) (ty := .int) (C := RX12) (T := TX12) (N := 69) hx hb hT iw_X12 tyX12 tyX12_ok nmX12 hown hK hw hS hW kd900 (by decide) rfl rfl 55 (by decide) (hT _ tb_1429) (fun _ h9 => h9) rfl (by decide +kernel) rfl rfl dX12_findsAhead_84 (fun hp90 eh91 H locs hw hS => ?_)
    have ok92 := wr_13055 bc_4 (by decide) (by decide) ok81 kd900 eh91
    refine lv_goto (tgt := 5) hx hb dX12_findsAhead_87 (by decide) ?_
    refine lv_aload_n hx hb dX12_findsAhead_5 rfl (lv_at hl 1 rfl) ?_
    refine p_get (ci := 12) (v := .int 4) (C := RX12) (T := TX12) (N := 69) hx hb hT iw_X12 hown hK hw hW kd900 (by decide) rfl rfl 55 (by decide) (hp_self eh91) (hT _ tb_1429) (fun _ h9 => h9) dX12_findsAhead_6 ?_
    refine lv_iconst (v := 5) hx hb dX12_findsAhead_9 (by decide) ?_
    refine lv_icmp_ge (tgt := 90) hx hb dX12_findsAhead_10 (by decide) (fun c => absurd c (d_nle bc_5 bc_4 (by decide))) (fun _ => ?_)
    refine lv_iconst (v := 0) hx hb dX12_findsAhead_13 (by decide) ?_
    refine lv_istore_n (lv' := [(3, .int 0), (0, .ref qa900), (1, .int zi901), (2, .int zi902)]) hx hb dX12_findsAhead_14 rfl hl (by decide) rfl (fun ls hl => ?_)
    refine lv_iload_n hx hb dX12_findsAhead_15 rfl (lv_at hl 0 rfl) ?_
    refine lv_aload_n hx hb dX12_findsAhead_16 rfl (lv_at hl 1 rfl) ?_
    refine p_get (ci := 12) (v := .int 4) (C := RX12) (T := TX12) (N := 69) hx hb hT iw_X12 hown hK hw hW kd900 (by decide) rfl rfl 55 (by decide) (hp_self eh91) (hT _ tb_1429) (fun _ h9 => h9) dX12_findsAhead_17 ?_
    refine lv_icmp_ge (tgt := 36) hx hb dX12_findsAhead_20 (by decide) (fun c => absurd c (d_nle bc_4 bc_0 (by decide))) (fun _ => ?_)
    refine lv_aload_n hx hb dX12_findsAhead_23 rfl (lv_at hl 1 rfl) ?_
    have eq93 : hp90 qa900 56 = .ref qa5 := Eq.trans (up_at eh91 (Or.inr (by decide))) eq86
    refine p_get (ci := 12) (v := .ref qa5) (C := RX12) (T := TX12) (N := 69) hx hb hT iw_X12 hown hK hw hW kd900 (by decide) rfl rfl 56 (by decide) eq93 (hT _ tb_1430) (fun _ h9 => h9) dX12_findsAhead_24 ?_
    refine lv_iload_n hx hb dX12_findsAhead_27 rfl (lv_at hl 0 rfl) ?_
    refine lv_iconst (v := 0) hx hb dX12_findsAhead_28 (by decide) ?_
    refine p_iast (x := 0) hx hb hK hw hS hW kd6 (by decide) rfl (hW.len kd6 (n := 6) rfl (by decide)) (vp_b bc_0 (by decide) (by decide)) dX12_findsAhead_29 (fun hp94 eh95 H locs hw hS => ?_)
    have ok96 := wr_95000 bc_0 (by decide) (by decide) ok92 kd6 eh95
    refine lv_iinc (v := 1) (lv' := [(3, .int 1), (0, .ref qa900), (1, .int zi901), (2, .int zi902)]) hx hb dX12_findsAhead_30 hl (k := 0) rfl (by decide) (by decide) rfl (fun ls hl => ?_)
    refine lv_goto (tgt := 15) hx hb dX12_findsAhead_33 (by decide) ?_
    refine lv_iload_n hx hb dX12_findsAhead_15 rfl (lv_at hl 0 rfl) ?_
    refine lv_aload_n hx hb dX12_findsAhead_16 rfl (lv_at hl 1 rfl) ?_
    have eq97 : hp94 qa900 55 = .int 4 := Eq.trans (up_at eh95 (Or.inl (kd_ne kd900 kd6 (by decide)))) (hp_self eh91)
    refine p_get (ci := 12) (v := .int 4) (C := RX12) (T := TX12) (N := 69) hx hb hT iw_X12 hown hK hw hW kd900 (by decide) rfl rfl 55 (by decide) eq97 (hT _ tb_1429) (fun _ h9 => h9) dX12_findsAhead_17 ?_
    refine lv_icmp_ge (tgt := 36) hx hb dX12_findsAhead_20 (by decide) (fun c => absurd c (d_nle bc_4 bc_1 (by decide))) (fun _ => ?_)
    refine lv_aload_n hx hb dX12_findsAhead_23 rfl (lv_at hl 1 rfl) ?_
    have eq98 : hp94 qa900 56 = .ref qa5 := Eq.trans (up_at eh95 (Or.inl (kd_ne kd900 kd6 (by decide)))) eq93
    refine p_get (ci := 12) (v := .ref qa5) (C := RX12) (T := TX12) (N := 69) hx hb hT iw_X12 hown hK hw hW kd900 (by decide) rfl rfl 56 (by decide) eq98 (hT _ tb_1430) (fun _ h9 => h9) dX12_findsAhead_24 ?_
    refine lv_iload_n hx hb dX12_findsAhead_27 rfl (lv_at hl 0 rfl) ?_
    refine lv_iconst (v := 0) hx hb dX12_findsAhead_28 (by decide) ?_
    refine p_iast (x := 0) hx hb hK hw hS hW kd6 (by decide) rfl (hW.len kd6 (n := 6) rfl (by decide)) (vp_b bc_1 (by decide) (by decide)) dX12_findsAhead_29 (fun hp99 eh100 H locs hw hS => ?_)
    have ok101 := wr_95000 bc_0 (by decide) (by decide) ok96 kd6 eh100
    refine lv_iinc (v := 2) (lv' := [(3, .int 2), (0, .ref qa900), (1, .int zi901), (2, .int zi902)]) hx hb dX12_findsAhead_30 hl (k := 0) rfl (by decide) (by decide) rfl (fun ls hl => ?_)
    refine lv_goto (tgt := 15) hx hb dX12_findsAhead_33 (by decide) ?_
    refine lv_iload_n hx hb dX12_findsAhead_15 rfl (lv_at hl 0 rfl) ?_
    refine lv_aload_n hx hb dX12_findsAhead_16 rfl (lv_at hl 1 rfl) ?_
    have eq102 : hp99 qa900 55 = .int 4 := Eq.trans (up_at eh100 (Or.inl (kd_ne kd900 kd6 (by decide)))) eq97
    refine p_get (ci := 12) (v := .int 4) (C := RX12) (T := TX12) (N := 69) hx hb hT iw_X12 hown hK hw hW kd900 (by decide) rfl rfl 55 (by decide) eq102 (hT _ tb_1429) (fun _ h9 => h9) dX12_findsAhead_17 ?_
    refine lv_icmp_ge (tgt := 36) hx hb dX12_findsAhead_20 (by decide) (fun c => absurd c (d_nle bc_4 bc_2 (by decide))) (fun _ => ?_)
    refine lv_aload_n hx hb dX12_findsAhead_23 rfl (lv_at hl 1 rfl) ?_
    have eq103 : hp99 qa900 56 = .ref qa5 := Eq.trans (up_at eh100 (Or.inl (kd_ne kd900 kd6 (by decide)))) eq98
    refine p_get (ci := 12) (v := .ref qa5) (C := RX12) (T := TX12) (N := 69) hx hb hT iw_X12 hown hK hw hW kd900 (by decide) rfl rfl 56 (by decide) eq103 (hT _ tb_1430) (fun _ h9 => h9) dX12_findsAhead_24 ?_
    refine lv_iload_n hx hb dX12_findsAhead_27 rfl (lv_at hl 0 rfl) ?_
    refine lv_iconst (v := 0) hx hb dX12_findsAhead_28 (by decide) ?_
    refine p_iast (x := 0) hx hb hK hw hS hW kd6 (by decide) rfl (hW.len kd6 (n := 6) rfl (by decide)) (vp_b bc_2 (by decide) (by decide)) dX12_findsAhead_29 (fun hp104 eh105 H locs hw hS => ?_)
    have ok106 := wr_95000 bc_0 (by decide) (by decide) ok101 kd6 eh105
    refine lv_iinc (v := 3) (lv' := [(3, .int 3), (0, .ref qa900), (1, .int zi901), (2, .int zi902)]) hx hb dX12_findsAhead_30 hl (k := 0) rfl (by decide) (by decide) rfl (fun ls hl => ?_)
    refine lv_goto (tgt := 15) hx hb dX12_findsAhead_33 (by decide) ?_
    refine lv_iload_n hx hb dX12_findsAhead_15 rfl (lv_at hl 0 rfl) ?_
    refine lv_aload_n hx hb dX12_findsAhead_16 rfl (lv_at hl 1 rfl) ?_
    have eq107 : hp104 qa900 55 = .int 4 := Eq.trans (up_at eh105 (Or.inl (kd_ne kd900 kd6 (by decide)))) eq102
    refine p_get (ci := 12) (v := .int 4) (C := RX12) (T := TX12) (N := 69) hx hb hT iw_X12 hown hK hw hW kd900 (by decide) rfl rfl 55 (by decide) eq107 (hT _ tb_1429) (fun _ h9 => h9) dX12_findsAhead_17 ?_
    refine lv_icmp_ge (tgt := 36) hx hb dX12_findsAhead_20 (by decide) (fun c => absurd c (d_nle bc_4 bc_3 (by decide))) (fun _ => ?_)
    refine lv_aload_n hx hb dX12_findsAhead_23 rfl (lv_at hl 1 rfl) ?_
    have eq108 : hp104 qa900 56 = .ref qa5 := Eq.trans (up_at eh105 (Or.inl (kd_ne kd900 kd6 (by decide)))) eq103
    refine p_get (ci := 12) (v := .ref qa5) (C := RX12) (T := TX12) (N := 69) hx hb hT iw_X12 hown hK hw hW kd900 (by decide) rfl rfl 56 (by decide) eq108 (hT _ tb_1430) (fun _ h9 => h9) dX12_findsAhead_24 ?_
    refine lv_iload_n hx hb dX12_findsAhead_27 rfl (lv_at hl 0 rfl) ?_
    refine lv_iconst (v := 0) hx hb dX12_findsAhead_28 (by decide) ?_
    refine p_iast (x := 0) hx hb hK hw hS hW kd6 (by decide) rfl (hW.len kd6 (n := 6) rfl (by decide)) (vp_b bc_3 (by decide) (by decide)) dX12_findsAhead_29 (fun hp109 eh110 H locs hw hS => ?_)
    have ok111 := wr_95000 bc_0 (by decide) (by decide) ok106 kd6 eh110
    refine lv_iinc (v := 4) (lv' := [(3, .int 4), (0, .ref qa900), (1, .int zi901), (2, .int zi902)]) hx hb dX12_findsAhead_30 hl (k := 0) rfl (by decide) (by decide) rfl (fun ls hl => ?_)
    refine lv_goto (tgt := 15) hx hb dX12_findsAhead_33 (by decide) ?_
    refine lv_iload_n hx hb dX12_findsAhead_15 rfl (lv_at hl 0 rfl) ?_
    refine lv_aload_n hx hb dX12_findsAhead_16 rfl (lv_at hl 1 rfl) ?_
    have eq112 : hp109 qa900 55 = .int 4 := Eq.trans (up_at eh110 (Or.inl (kd_ne kd900 kd6 (by decide)))) eq107
    refine p_get (ci := 12) (v := .int 4) (C := RX12) (T := TX12) (N := 69) hx hb hT iw_X12 hown hK hw hW kd900 (by decide) rfl rfl 55 (by decide) eq112 (hT _ tb_1429) (fun _ h9 => h9) dX12_findsAhead_17 ?_
    refine lv_icmp_ge (tgt := 36) hx hb dX12_findsAhead_20 (by decide) (fun _ => ?_) (fun c => absurd (d_le bc_4 bc_4 (by decide)) c)
    refine lv_aload_n hx hb dX12_findsAhead_36 rfl (lv_at hl 1 rfl) ?_
    have eq113 : hp109 qa900 28 = .ref qa20 := Eq.trans (up_at eh110 (Or.inl (kd_ne kd900 kd6 (by decide)))) (Eq.trans (up_at eh105 (Or.inl (kd_ne kd900 kd6 (by decide)))) (Eq.trans (up_at eh100 (Or.inl (kd_ne kd900 kd6 (by decide)))) (Eq.trans (up_at eh95 (Or.inl (kd_ne kd900 kd6 (by decide)))) (Eq.trans (up_at eh91 (Or.inr (by decide))) eq83))))
    refine p_get (ci := 12) (v := .ref qa20) (C := RX12) (T := TX12) (N := 69) hx hb hT iw_X12 hown hK hw hW kd900 (by decide) rfl rfl 28 (by decide) eq113 (hT _ tb_1402) (fun _ h9 => h9) dX12_findsAhead_37 ?_
    refine lv_aload_n hx hb dX12_findsAhead_40 rfl (lv_at hl 1 rfl) ?_
    have eq114 : hp109 qa900 18 = .int zi23 := Eq.trans (up_at eh110 (Or.inl (kd_ne kd900 kd6 (by decide)))) (Eq.trans (up_at eh105 (Or.inl (kd_ne kd900 kd6 (by decide)))) (Eq.trans (up_at eh100 (Or.inl (kd_ne kd900 kd6 (by decide)))) (Eq.trans (up_at eh95 (Or.inl (kd_ne kd900 kd6 (by decide)))) (Eq.trans (up_at eh91 (Or.inr (by decide))) eq84))))
    refine p_get (ci := 12) (v := .int zi23) (C := RX12) (T := TX12) (N := 69) hx hb hT iw_X12 hown hK hw hW kd900 (by decide) rfl rfl 18 (by decide) eq114 (hT _ tb_1392) (fun _ h9 => h9) dX12_findsAhead_41 ?_
    have eq115 : hp109 qa20 (zi23 : Int32).toNatClampNeg = .int zi26 := Eq.trans (up_at eh110 (Or.inl (kd_ne kd21 kd6 (by decide)))) (Eq.trans (up_at eh105 (Or.inl (kd_ne kd21 kd6 (by decide)))) (Eq.trans (up_at eh100 (Or.inl (kd_ne kd21 kd6 (by decide)))) (Eq.trans (up_at eh95 (Or.inl (kd_ne kd21 kd6 (by decide)))) (Eq.trans (up_at eh91 (Or.inl (kd_ne kd21 kd900 (by decide)))) eq85))))
    refine p_iald (v := zi26) hx hb hK hw hW kd21 (by decide) rfl (hW.len kd21 (n := 2) rfl (by decide)) (vp_b bd24 (by decide) (by decide)) eq115 dX12_findsAhead_44 ?_
    refine lv_if_le (tgt := 52) hx hb dX12_findsAhead_45 (by decide) (fun _ => ?_) (fun c => absurd (d_le bd44 bc_0 (by decide)) c)
    refine lv_iconst (v := 0) hx hb dX12_findsAhead_52 (by decide) ?_
    refine lv_istore_n (lv' := [(3, .int 0), (0, .ref qa900), (1, .int zi901), (2, .int zi902)]) hx hb dX12_findsAhead_53 rfl hl (by decide) rfl (fun ls hl => ?_)
    have eq116 : hp109 qa900 56 = .ref qa5 := Eq.trans (up_at eh110 (Or.inl (kd_ne kd900 kd6 (by decide)))) eq108
    have eq117 : hp109 qa5 (0 : Int32).toNatClampNeg = .int 0 := Eq.trans (up_at eh110 (Or.inr (by decide))) (Eq.trans (up_at eh105 (Or.inr (by decide))) (Eq.trans (up_at eh100 (Or.inr (by decide))) (hp_self eh95)))
    have eq118 : hp109 qa5 (1 : Int32).toNatClampNeg = .int 0 := Eq.trans (up_at eh110 (Or.inr (by decide))) (Eq.trans (up_at eh105 (Or.inr (by decide))) (hp_self eh100))
    have eq119 : hp109 qa5 (2 : Int32).toNatClampNeg = .int 0 := Eq.trans (up_at eh110 (Or.inr (by decide))) (hp_self eh105)
    refine lv_iload_n hx hb dX12_findsAhead_54 rfl (lv_at hl 0 rfl) ?_
    refine lv_if_eq (tgt := 77) hx hb dX12_findsAhead_55 (by decide) (fun _ => ?_) (fun c => absurd (d_eq bc_0 bc_0) c)
    refine lv_aload_n hx hb dX12_findsAhead_77 rfl (lv_at hl 1 rfl) ?_
    refine lv_dup hx hb dX12_findsAhead_78 rfl ?_
    refine p_get (ci := 12) (v := .int 4) (C := RX12) (T := TX12) (N := 69) hx hb hT iw_X12 hown hK hw hW kd900 (by decide) rfl rfl 55 (by decide) eq112 (hT _ tb_1429) (fun _ h9 => h9) dX12_findsAhead_79 ?_
    refine lv_iconst (v := 1) hx hb dX12_findsAhead_82 (by decide) ?_
    refine kx_iadd (v := 5) hx hb dX12_findsAhead_83 (by decide) ?_
    refine p_put (ci := 12) (v := .int 5) (ty := .int) (C := RX12) (T := TX12) (N := 69) hx hb hT iw_X12 tyX12 tyX12_ok nmX12 hown hK hw hS hW kd900 (by decide) rfl rfl 55 (by decide) (hT _ tb_1429) (fun _ h9 => h9) rfl (by decide +kernel) rfl rfl dX12_findsAhead_84 (fun hp120 eh121 H locs hw hS => ?_)
    have ok122 := wr_13055 bc_5 (by decide) (by decide) ok111 kd900 eh121
    refine lv_goto (tgt := 5) hx hb dX12_findsAhead_87 (by decide) ?_
    refine lv_aload_n hx hb dX12_findsAhead_5 rfl (lv_at hl 1 rfl) ?_
    refine p_get (ci := 12) (v := .int 5) (C := RX12) (T := TX12) (N := 69) hx hb hT iw_X12 hown hK hw hW kd900 (by decide) rfl rfl 55 (by decide) (hp_self eh121) (hT _ tb_1429) (fun _ h9 => h9) dX12_findsAhead_6 ?_
    refine lv_iconst (v := 5) hx hb dX12_findsAhead_9 (by decide) ?_
    refine lv_icmp_ge (tgt := 90) hx hb dX12_findsAhead_10 (by decide) (fun _ => ?_) (fun c => absurd (d_le bc_5 bc_5 (by decide)) c)
    refine lv_iconst (v := 0) hx hb dX12_findsAhead_90 (by decide) ?_
    rw [hQ]
    exact kz_i hx hb hr hlocks hS (nz_n bc_0 (by decide) (by decide)) hp120 hw ⟨ok122, (Fr.put (cq := 13055) (Fr.put (cq := 95000) (Fr.put (cq := 95000) (Fr.put (cq := 95000) (Fr.put (cq := 95000) (Fr.put (cq := 13055) (Fr.put (cq := 95000) (Fr.put (cq := 95000) (Fr.put (cq := 95000) (Fr.put (cq := 13055) (Fr.put (cq := 95000) (Fr.put (cq := 95000) (Fr.put (cq := 13055) (Fr.put (cq := 95000) (Fr.put (cq := 13055) (Fr.rf) eh29 kd900 (cd_o (by decide)) (by decide)) eh33 kd6 (cd_a (by decide)) (by decide)) eh46 kd900 (cd_o (by decide)) (by decide)) eh50 kd6 (cd_a (by decide)) (by decide)) eh55 kd6 (cd_a (by decide)) (by decide)) eh66 kd900 (cd_o (by decide)) (by decide)) eh70 kd6 (cd_a (by decide)) (by decide)) eh75 kd6 (cd_a (by decide)) (by decide)) eh80 kd6 (cd_a (by decide)) (by decide)) eh91 kd900 (cd_o (by decide)) (by decide)) eh95 kd6 (cd_a (by decide)) (by decide)) eh100 kd6 (cd_a (by decide)) (by decide)) eh105 kd6 (cd_a (by decide)) (by decide)) eh110 kd6 (cd_a (by decide)) (by decide)) eh121 kd900 (cd_o (by decide)) (by decide)), (b_wid2 bc_0 (by decide) (by decide)), ⟨_, (hp_self eh121), b_wid2 bc_5 (by decide) (by decide)⟩, (fun _ => ⟨_, (hp_self eh121), b_wid2 bc_5 (by decide) (by decide)⟩), (fun h => absurd h (by decide)), (fun h => absurd h (by decide)), (fun h => absurd h (by decide)), (fun h => absurd h (by decide)), (fun h => absurd h (by decide)), (fun h => absurd h (by decide)), (fun h => absurd h (by decide))⟩ (Nat.le_of_ble_eq_true rfl) (Nat.le_of_ble_eq_true rfl) dX12_findsAhead_91
  · skip
    have bd123 : (1 : Int) ≤ zi26.toInt ∧ zi26.toInt ≤ 16 := r_lt_y (Int32.not_le.mp cn39) bc_0 bd27 (by decide) (by decide)
    refine lv_iconst (v := 1) hx hb dX12_findsAhead_48 (by decide) ?_
    refine lv_goto (tgt := 53) hx hb dX12_findsAhead_49 (by decide) ?_
    refine lv_istore_n (lv' := [(3, .int 1), (0, .ref qa900), (1, .int zi901), (2, .int zi902)]) hx hb dX12_findsAhead_53 rfl hl (by decide) rfl (fun ls hl => ?_)
    have jn498 : ∀ (hp480 : Nat → Nat → Value) (zi484 : Int32) (zi486 : Int32) (zi488 : Int32) (zi490 : Int32) (H : Heap) (locs : List Loc) (ls : Array Slot), Ok K hp480 → Fr [13048, 13051, 90000, 91000, 93000, 95000] K hp32 hp480 → ((-1 : Int) ≤ zi484.toInt ∧ zi484.toInt ≤ 16) → hp480 qa5 (0 : Int32).toNatClampNeg = .int zi484 → ((-1 : Int) ≤ zi486.toInt ∧ zi486.toInt ≤ 16) → hp480 qa5 (1 : Int32).toNatClampNeg = .int zi486 → ((-1 : Int) ≤ zi488.toInt ∧ zi488.toInt ≤ 16) → hp480 qa5 (2 : Int32).toNatClampNeg = .int zi488 → ((-1 : Int) ≤ zi490.toInt ∧ zi490.toInt ≤ 16) → hp480 qa5 (3 : Int32).toNatClampNeg = .int zi490 → lv_has ls 4 [(0, .ref qa900), (1, .int zi901), (2, .int zi902)] → PW G cy K ln Ls A hp480 H → va_S A s.heap H locs → W p l e ({ frames := 5, cells := 0, slots := 0, locals := 126 } : Room) s m ([.ref qa900, .int zi901, .int zi902] : List Value).toArray below meth c H locs 0 0 Q (F0 m 77 ls []) := by
      intro hp480 zi484 zi486 zi488 zi490 H locs ls ok482 F481 bd491 eq483 bd492 eq485 bd493 eq487 bd494 eq489 hl hw hS
      refine lv_aload_n hx hb dX12_findsAhead_77 rfl (lv_at hl 0 rfl) ?_
      refine lv_dup hx hb dX12_findsAhead_78 rfl ?_
      have eq499 : hp480 qa900 55 = .int 1 := Eq.trans (Fr.at (cq := 13055) F481 kd900 (cd_o (by decide)) (by decide)) eq35
      refine p_get (ci := 12) (v := .int 1) (C := RX12) (T := TX12) (N := 69) hx hb hT iw_X12 hown hK hw hW kd900 (by decide) rfl rfl 55 (by decide) eq499 (hT _ tb_1429) (fun _ h9 => h9) dX12_findsAhead_79 ?_
      refine lv_iconst (v := 1) hx hb dX12_findsAhead_82 (by decide) ?_
      refine kx_iadd (v := 2) hx hb dX12_findsAhead_83 (by decide) ?_
      refine p_put (ci := 12) (v := .int 2) (ty := .int) (C := RX12) (T := TX12) (N := 69) hx hb hT iw_X12 tyX12 tyX12_ok nmX12 hown hK hw hS hW kd900 (by decide) rfl rfl 55 (by decide) (hT _ tb_1429) (fun _ h9 => h9) rfl (by decide +kernel) rfl rfl dX12_findsAhead_84 (fun hp500 eh501 H locs hw hS => ?_)
      have ok502 := wr_13055 bc_2 (by decide) (by decide) ok482 kd900 eh501
      refine lv_goto (tgt := 5) hx hb dX12_findsAhead_87 (by decide) ?_
      refine lv_aload_n hx hb dX12_findsAhead_5 rfl (lv_at hl 0 rfl) ?_
      refine p_get (ci := 12) (v := .int 2) (C := RX12) (T := TX12) (N := 69) hx hb hT iw_X12 hown hK hw hW kd900 (by decide) rfl rfl 55 (by decide) (hp_self eh501) (hT _ tb_1429) (fun _ h9 => h9) dX12_findsAhead_6 ?_
      refine lv_iconst (v := 5) hx hb dX12_findsAhead_9 (by decide) ?_
      refine lv_icmp_ge (tgt := 90) hx hb dX12_findsAhead_10 (by decide) (fun c => absurd c (d_nle bc_5 bc_2 (by decide))) (fun _ => ?_)
      refine lv_iconst (v := 0) hx hb dX12_findsAhead_13 (by decide) ?_
      refine lv_istore_n (lv' := [(3, .int 0), (0, .ref qa900), (1, .int zi901), (2, .int zi902)]) hx hb dX12_findsAhead_14 rfl hl (by decide) rfl (fun ls hl => ?_)
      refine lv_iload_n hx hb dX12_findsAhead_15 rfl (lv_at hl 0 rfl) ?_
      refine lv_aload_n hx hb dX12_findsAhead_16 rfl (lv_at hl 1 rfl) ?_
      refine p_get (ci := 12) (v := .int 2) (C := RX12) (T := TX12) (N := 69) hx hb hT iw_X12 hown hK hw hW kd900 (by decide) rfl rfl 55 (by decide) (hp_self eh501) (hT _ tb_1429) (fun _ h9 => h9) dX12_findsAhead_17 ?_
      refine lv_icmp_ge (tgt := 36) hx hb dX12_findsAhead_20 (by decide) (fun c => absurd c (d_nle bc_2 bc_0 (by decide))) (fun _ => ?_)
      refine lv_aload_n hx hb dX12_findsAhead_23 rfl (lv_at hl 1 rfl) ?_
      have eq503 : hp500 qa900 56 = .ref qa5 := Eq.trans (up_at eh501 (Or.inr (by decide))) (Eq.trans (Fr.at (cq := 13056) F481 kd900 (cd_o (by decide)) (by decide)) eq40)
      refine p_get (ci := 12) (v := .ref qa5) (C := RX12) (T := TX12) (N := 69) hx hb hT iw_X12 hown hK hw hW kd900 (by decide) rfl rfl 56 (by decide) eq503 (hT _ tb_1430) (fun _ h9 => h9) dX12_findsAhead_24 ?_
      refine lv_iload_n hx hb dX12_findsAhead_27 rfl (lv_at hl 0 rfl) ?_
      refine lv_iconst (v := 0) hx hb dX12_findsAhead_28 (by decide) ?_
      refine p_iast (x := 0) hx hb hK hw hS hW kd6 (by decide) rfl (hW.len kd6 (n := 6) rfl (by decide)) (vp_b bc_0 (by decide) (by decide)) dX12_findsAhead_29 (fun hp504 eh505 H locs hw hS => ?_)
      have ok506 := wr_95000 bc_0 (by decide) (by decide) ok502 kd6 eh505
      refine lv_iinc (v := 1) (lv' := [(3, .int 1), (0, .ref qa900), (1, .int zi901), (2, .int zi902)]) hx hb dX12_findsAhead_30 hl (k := 0) rfl (by decide) (by decide) rfl (fun ls hl => ?_)
      refine lv_goto (tgt := 15) hx hb dX12_findsAhead_33 (by decide) ?_
      refine lv_iload_n hx hb dX12_findsAhead_15 rfl (lv_at hl 0 rfl) ?_
      refine lv_aload_n hx hb dX12_findsAhead_16 rfl (lv_at hl 1 rfl) ?_
      have eq507 : hp504 qa900 55 = .int 2 := Eq.trans (up_at eh505 (Or.inl (kd_ne kd900 kd6 (by decide)))) (hp_self eh501)
      refine p_get (ci := 12) (v := .int 2) (C := RX12) (T := TX12) (N := 69) hx hb hT iw_X12 hown hK hw hW kd900 (by decide) rfl rfl 55 (by decide) eq507 (hT _ tb_1429) (fun _ h9 => h9) dX12_findsAhead_17 ?_
      refine lv_icmp_ge (tgt := 36) hx hb dX12_findsAhead_20 (by decide) (fun c => absurd c (d_nle bc_2 bc_1 (by decide))) (fun _ => ?_)
      refine lv_aload_n hx hb dX12_findsAhead_23 rfl (lv_at hl 1 rfl) ?_
      have eq508 : hp504 qa900 56 = .ref qa5 := Eq.trans (up_at eh505 (Or.inl (kd_ne kd900 kd6 (by decide)))) eq503
      refine p_get (ci := 12) (v := .ref qa5) (C := RX12) (T := TX12) (N := 69) hx hb hT iw_X12 hown hK hw hW kd900 (by decide) rfl rfl 56 (by decide) eq508 (hT _ tb_1430) (fun _ h9 => h9) dX12_findsAhead_24 ?_
      refine lv_iload_n hx hb dX12_findsAhead_27 rfl (lv_at hl 0 rfl) ?_
      refine lv_iconst (v := 0) hx hb dX12_findsAhead_28 (by decide) ?_
      refine p_iast (x := 0) hx hb hK hw hS hW kd6 (by decide) rfl (hW.len kd6 (n := 6) rfl (by decide)) (vp_b bc_1 (by decide) (by decide)) dX12_findsAhead_29 (fun hp509 eh510 H locs hw hS => ?_)
      have ok511 := wr_95000 bc_0 (by decide) (by decide) ok506 kd6 eh510
      refine lv_iinc (v := 2) (lv' := [(3, .int 2), (0, .ref qa900), (1, .int zi901), (2, .int zi902)]) hx hb dX12_findsAhead_30 hl (k := 0) rfl (by decide) (by decide) rfl (fun ls hl => ?_)
      refine lv_goto (tgt := 15) hx hb dX12_findsAhead_33 (by decide) ?_
      refine lv_iload_n hx hb dX12_findsAhead_15 rfl (lv_at hl 0 rfl) ?_
      refine lv_aload_n hx hb dX12_findsAhead_16 rfl (lv_at hl 1 rfl) ?_
      have eq512 : hp509 qa900 55 = .int 2 := Eq.trans (up_at eh510 (Or.inl (kd_ne kd900 kd6 (by decide)))) eq507
      refine p_get (ci := 12) (v := .int 2) (C := RX12) (T := TX12) (N := 69) hx hb hT iw_X12 hown hK hw hW kd900 (by decide) rfl rfl 55 (by decide) eq512 (hT _ tb_1429) (fun _ h9 => h9) dX12_findsAhead_17 ?_
      refine lv_icmp_ge (tgt := 36) hx hb dX12_findsAhead_20 (by decide) (fun _ => ?_) (fun c => absurd (d_le bc_2 bc_2 (by decide)) c)
      refine lv_aload_n hx hb dX12_findsAhead_36 rfl (lv_at hl 1 rfl) ?_
      have eq513 : hp509 qa900 28 = .ref qa20 := Eq.trans (up_at eh510 (Or.inl (kd_ne kd900 kd6 (by decide)))) (Eq.trans (up_at eh505 (Or.inl (kd_ne kd900 kd6 (by decide)))) (Eq.trans (up_at eh501 (Or.inr (by decide))) (Eq.trans (Fr.at (cq := 13028) F481 kd900 (cd_o (by decide)) (by decide)) eq36)))
      refine p_get (ci := 12) (v := .ref qa20) (C := RX12) (T := TX12) (N := 69) hx hb hT iw_X12 hown hK hw hW kd900 (by decide) rfl rfl 28 (by decide) eq513 (hT _ tb_1402) (fun _ h9 => h9) dX12_findsAhead_37 ?_
      refine lv_aload_n hx hb dX12_findsAhead_40 rfl (lv_at hl 1 rfl) ?_
      have eq514 : hp509 qa900 18 = .int zi23 := Eq.trans (up_at eh510 (Or.inl (kd_ne kd900 kd6 (by decide)))) (Eq.trans (up_at eh505 (Or.inl (kd_ne kd900 kd6 (by decide)))) (Eq.trans (up_at eh501 (Or.inr (by decide))) (Eq.trans (Fr.at (cq := 13018) F481 kd900 (cd_o (by decide)) (by decide)) eq37)))
      refine p_get (ci := 12) (v := .int zi23) (C := RX12) (T := TX12) (N := 69) hx hb hT iw_X12 hown hK hw hW kd900 (by decide) rfl rfl 18 (by decide) eq514 (hT _ tb_1392) (fun _ h9 => h9) dX12_findsAhead_41 ?_
      have eq515 : hp509 qa20 (zi23 : Int32).toNatClampNeg = .int zi26 := Eq.trans (up_at eh510 (Or.inl (kd_ne kd21 kd6 (by decide)))) (Eq.trans (up_at eh505 (Or.inl (kd_ne kd21 kd6 (by decide)))) (Eq.trans (up_at eh501 (Or.inl (kd_ne kd21 kd900 (by decide)))) (Eq.trans (Fr.at (cq := 74000) F481 kd21 (cd_a (by decide)) (by decide)) eq38)))
      refine p_iald (v := zi26) hx hb hK hw hW kd21 (by decide) rfl (hW.len kd21 (n := 2) rfl (by decide)) (vp_b bd24 (by decide) (by decide)) eq515 dX12_findsAhead_44 ?_
      refine lv_if_le (tgt := 52) hx hb dX12_findsAhead_45 (by decide) (fun c => absurd c (d_nle bd123 bc_0 (by decide))) (fun _ => ?_)
      refine lv_iconst (v := 1) hx hb dX12_findsAhead_48 (by decide) ?_
      refine lv_goto (tgt := 53) hx hb dX12_findsAhead_49 (by decide) ?_
      refine lv_istore_n (lv' := [(3, .int 1), (0, .ref qa900), (1, .int zi901), (2, .int zi902)]) hx hb dX12_findsAhead_53 rfl hl (by decide) rfl (fun ls hl => ?_)
      have eq516 : hp509 qa900 56 = .ref qa5 := Eq.trans (up_at eh510 (Or.inl (kd_ne kd900 kd6 (by decide)))) eq508
      have eq517 : hp509 qa5 (0 : Int32).toNatClampNeg = .int 0 := Eq.trans (up_at eh510 (Or.inr (by decide))) (hp_self eh505)
      have eq518 : hp509 qa5 (2 : Int32).toNatClampNeg = .int zi488 := Eq.trans (up_at eh510 (Or.inr (by decide))) (Eq.trans (up_at eh505 (Or.inr (by decide))) (Eq.trans (up_at eh501 (Or.inl (kd_ne kd6 kd900 (by decide)))) eq487))
      have eq519 : hp509 qa5 (3 : Int32).toNatClampNeg = .int zi490 := Eq.trans (up_at eh510 (Or.inr (by decide))) (Eq.trans (up_at eh505 (Or.inr (by decide))) (Eq.trans (up_at eh501 (Or.inl (kd_ne kd6 kd900 (by decide)))) eq489))
      have jn894 : ∀ (hp876 : Nat → Nat → Value) (zi880 : Int32) (zi882 : Int32) (zi884 : Int32) (zi886 : Int32) (H : Heap) (locs : List Loc) (ls : Array Slot), Ok K hp876 → Fr [13048, 13051, 90000, 91000, 93000, 95000] K hp509 hp876 → ((-1 : Int) ≤ zi880.toInt ∧ zi880.toInt ≤ 16) → hp876 qa5 (0 : Int32).toNatClampNeg = .int zi880 → ((-1 : Int) ≤ zi882.toInt ∧ zi882.toInt ≤ 16) → hp876 qa5 (1 : Int32).toNatClampNeg = .int zi882 → ((-1 : Int) ≤ zi884.toInt ∧ zi884.toInt ≤ 16) → hp876 qa5 (2 : Int32).toNatClampNeg = .int zi884 → ((-1 : Int) ≤ zi886.toInt ∧ zi886.toInt ≤ 16) → hp876 qa5 (3 : Int32).toNatClampNeg = .int zi886 → lv_has ls 4 [(0, .ref qa900), (1, .int zi901), (2, .int zi902)] → PW G cy K ln Ls A hp876 H → va_S A s.heap H locs → W p l e ({ frames := 5, cells := 0, slots := 0, locals := 126 } : Room) s m ([.ref qa900, .int zi901, .int zi902] : List Value).toArray below meth c H locs 0 0 Q (F0 m 77 ls []) := by
        intro hp876 zi880 zi882 zi884 zi886 H locs ls ok878 F877 bd887 eq879 bd888 eq881 bd889 eq883 bd890 eq885 hl hw hS
        refine lv_aload_n hx hb dX12_findsAhead_77 rfl (lv_at hl 0 rfl) ?_
        refine lv_dup hx hb dX12_findsAhead_78 rfl ?_
        have eq895 : hp876 qa900 55 = .int 2 := Eq.trans (Fr.at (cq := 13055) F877 kd900 (cd_o (by decide)) (by decide)) eq512
        refine p_get (ci := 12) (v := .int 2) (C := RX12) (T := TX12) (N := 69) hx hb hT iw_X12 hown hK hw hW kd900 (by decide) rfl rfl 55 (by decide) eq895 (hT _ tb_1429) (fun _ h9 => h9) dX12_findsAhead_79 ?_
        refine lv_iconst (v := 1) hx hb dX12_findsAhead_82 (by decide) ?_
        refine kx_iadd (v := 3) hx hb dX12_findsAhead_83 (by decide) ?_
        refine p_put (ci := 12) (v := .int 3) (ty := .int) (C := RX12) (T := TX12) (N := 69) hx hb hT iw_X12 tyX12 tyX12_ok nmX12 hown hK hw hS hW kd900 (by decide) rfl rfl 55 (by decide) (hT _ tb_1429) (fun _ h9 => h9) rfl (by decide +kernel) rfl rfl dX12_findsAhead_84 (fun hp896 eh897 H locs hw hS => ?_)
        have ok898 := wr_13055 bc_3 (by decide) (by decide) ok878 kd900 eh897
        refine lv_goto (tgt := 5) hx hb dX12_findsAhead_87 (by decide) ?_
        refine lv_aload_n hx hb dX12_findsAhead_5 rfl (lv_at hl 0 rfl) ?_
        refine p_get (ci := 12) (v := .int 3) (C := RX12) (T := TX12) (N := 69) hx hb hT iw_X12 hown hK hw hW kd900 (by decide) rfl rfl 55 (by decide) (hp_self eh897) (hT _ tb_1429) (fun _ h9 => h9) dX12_findsAhead_6 ?_
        refine lv_iconst (v := 5) hx hb dX12_findsAhead_9 (by decide) ?_
        refine lv_icmp_ge (tgt := 90) hx hb dX12_findsAhead_10 (by decide) (fun c => absurd c (d_nle bc_5 bc_3 (by decide))) (fun _ => ?_)
        refine lv_iconst (v := 0) hx hb dX12_findsAhead_13 (by decide) ?_
        refine lv_istore_n (lv' := [(3, .int 0), (0, .ref qa900), (1, .int zi901), (2, .int zi902)]) hx hb dX12_findsAhead_14 rfl hl (by decide) rfl (fun ls hl => ?_)
        refine lv_iload_n hx hb dX12_findsAhead_15 rfl (lv_at hl 0 rfl) ?_
        refine lv_aload_n hx hb dX12_findsAhead_16 rfl (lv_at hl 1 rfl) ?_
        refine p_get (ci := 12) (v := .int 3) (C := RX12) (T := TX12) (N := 69) hx hb hT iw_X12 hown hK hw hW kd900 (by decide) rfl rfl 55 (by decide) (hp_self eh897) (hT _ tb_1429) (fun _ h9 => h9) dX12_findsAhead_17 ?_
        refine lv_icmp_ge (tgt := 36) hx hb dX12_findsAhead_20 (by decide) (fun c => absurd c (d_nle bc_3 bc_0 (by decide))) (fun _ => ?_)
        refine lv_aload_n hx hb dX12_findsAhead_23 rfl (lv_at hl 1 rfl) ?_
        have eq899 : hp896 qa900 56 = .ref qa5 := Eq.trans (up_at eh897 (Or.inr (by decide))) (Eq.trans (Fr.at (cq := 13056) F877 kd900 (cd_o (by decide)) (by decide)) eq516)
        refine p_get (ci := 12) (v := .ref qa5) (C := RX12) (T := TX12) (N := 69) hx hb hT iw_X12 hown hK hw hW kd900 (by decide) rfl rfl 56 (by decide) eq899 (hT _ tb_1430) (fun _ h9 => h9) dX12_findsAhead_24 ?_
        refine lv_iload_n hx hb dX12_findsAhead_27 rfl (lv_at hl 0 rfl) ?_
        refine lv_iconst (v := 0) hx hb dX12_findsAhead_28 (by decide) ?_
        refine p_iast (x := 0) hx hb hK hw hS hW kd6 (by decide) rfl (hW.len kd6 (n := 6) rfl (by decide)) (vp_b bc_0 (by decide) (by decide)) dX12_findsAhead_29 (fun hp900 eh901 H locs hw hS => ?_)
        have ok902 := wr_95000 bc_0 (by decide) (by decide) ok898 kd6 eh901
        refine lv_iinc (v := 1) (lv' := [(3, .int 1), (0, .ref qa900), (1, .int zi901), (2, .int zi902)]) hx hb dX12_findsAhead_30 hl (k := 0) rfl (by decide) (by decide) rfl (fun ls hl => ?_)
        refine lv_goto (tgt := 15) hx hb dX12_findsAhead_33 (by decide) ?_
        refine lv_iload_n hx hb dX12_findsAhead_15 rfl (lv_at hl 0 rfl) ?_
        refine lv_aload_n hx hb dX12_findsAhead_16 rfl (lv_at hl 1 rfl) ?_
        have eq903 : hp900 qa900 55 = .int 3 := Eq.trans (up_at eh901 (Or.inl (kd_ne kd900 kd6 (by decide)))) (hp_self eh897)
        refine p_get (ci := 12) (v := .int 3) (C := RX12) (T := TX12) (N := 69) hx hb hT iw_X12 hown hK hw hW kd900 (by decide) rfl rfl 55 (by decide) eq903 (hT _ tb_1429) (fun _ h9 => h9) dX12_findsAhead_17 ?_
        refine lv_icmp_ge (tgt := 36) hx hb dX12_findsAhead_20 (by decide) (fun c => absurd c (d_nle bc_3 bc_1 (by decide))) (fun _ => ?_)
        refine lv_aload_n hx hb dX12_findsAhead_23 rfl (lv_at hl 1 rfl) ?_
        have eq904 : hp900 qa900 56 = .ref qa5 := Eq.trans (up_at eh901 (Or.inl (kd_ne kd900 kd6 (by decide)))) eq899
        refine p_get (ci := 12) (v := .ref qa5) (C := RX12) (T := TX12) (N := 69) hx hb hT iw_X12 hown hK hw hW kd900 (by decide) rfl rfl 56 (by decide) eq904 (hT _ tb_1430) (fun _ h9 => h9) dX12_findsAhead_24 ?_
        refine lv_iload_n hx hb dX12_findsAhead_27 rfl (lv_at hl 0 rfl) ?_
        refine lv_iconst (v := 0) hx hb dX12_findsAhead_28 (by decide) ?_
        refine p_iast (x := 0) hx hb hK hw hS hW kd6 (by decide) rfl (hW.len kd6 (n := 6) rfl (by decide)) (vp_b bc_1 (by decide) (by decide)) dX12_findsAhead_29 (fun hp905 eh906 H locs hw hS => ?_)
        have ok907 := wr_95000 bc_0 (by decide) (by decide) ok902 kd6 eh906
        refine lv_iinc (v := 2) (lv' := [(3, .int 2), (0, .ref qa900), (1, .int zi901), (2, .int zi902)]) hx hb dX12_findsAhead_30 hl (k := 0) rfl (by decide) (by decide) rfl (fun ls hl => ?_)
        refine lv_goto (tgt := 15) hx hb dX12_findsAhead_33 (by decide) ?_
        refine lv_iload_n hx hb dX12_findsAhead_15 rfl (lv_at hl 0 rfl) ?_
        refine lv_aload_n hx hb dX12_findsAhead_16 rfl (lv_at hl 1 rfl) ?_
        have eq908 : hp905 qa900 55 = .int 3 := Eq.trans (up_at eh906 (Or.inl (kd_ne kd900 kd6 (by decide)))) eq903
        refine p_get (ci := 12) (v := .int 3) (C := RX12) (T := TX12) (N := 69) hx hb hT iw_X12 hown hK hw hW kd900 (by decide) rfl rfl 55 (by decide) eq908 (hT _ tb_1429) (fun _ h9 => h9) dX12_findsAhead_17 ?_
        refine lv_icmp_ge (tgt := 36) hx hb dX12_findsAhead_20 (by decide) (fun c => absurd c (d_nle bc_3 bc_2 (by decide))) (fun _ => ?_)
        refine lv_aload_n hx hb dX12_findsAhead_23 rfl (lv_at hl 1 rfl) ?_
        have eq909 : hp905 qa900 56 = .ref qa5 := Eq.trans (up_at eh906 (Or.inl (kd_ne kd900 kd6 (by decide)))) eq904
        refine p_get (ci := 12) (v := .ref qa5) (C := RX12) (T := TX12) (N := 69) hx hb hT iw_X12 hown hK hw hW kd900 (by decide) rfl rfl 56 (by decide) eq909 (hT _ tb_1430) (fun _ h9 => h9) dX12_findsAhead_24 ?_
        refine lv_iload_n hx hb dX12_findsAhead_27 rfl (lv_at hl 0 rfl) ?_
        refine lv_iconst (v := 0) hx hb dX12_findsAhead_28 (by decide) ?_
        refine p_iast (x := 0) hx hb hK hw hS hW kd6 (by decide) rfl (hW.len kd6 (n := 6) rfl (by decide)) (vp_b bc_2 (by decide) (by decide)) dX12_findsAhead_29 (fun hp910 eh911 H locs hw hS => ?_)
        have ok912 := wr_95000 bc_0 (by decide) (by decide) ok907 kd6 eh911
        refine lv_iinc (v := 3) (lv' := [(3, .int 3), (0, .ref qa900), (1, .int zi901), (2, .int zi902)]) hx hb dX12_findsAhead_30 hl (k := 0) rfl (by decide) (by decide) rfl (fun ls hl => ?_)
        refine lv_goto (tgt := 15) hx hb dX12_findsAhead_33 (by decide) ?_
        refine lv_iload_n hx hb dX12_findsAhead_15 rfl (lv_at hl 0 rfl) ?_
        refine lv_aload_n hx hb dX12_findsAhead_16 rfl (lv_at hl 1 rfl) ?_
        have eq913 : hp910 qa900 55 = .int 3 := Eq.trans (up_at eh911 (Or.inl (kd_ne kd900 kd6 (by decide)))) eq908
        refine p_get (ci := 12) (v := .int 3) (C := RX12) (T := TX12) (N := 69) hx hb hT iw_X12 hown hK hw hW kd900 (by decide) rfl rfl 55 (by decide) eq913 (hT _ tb_1429) (fun _ h9 => h9) dX12_findsAhead_17 ?_
        refine lv_icmp_ge (tgt := 36) hx hb dX12_findsAhead_20 (by decide) (fun _ => ?_) (fun c => absurd (d_le bc_3 bc_3 (by decide)) c)
        refine lv_aload_n hx hb dX12_findsAhead_36 rfl (lv_at hl 1 rfl) ?_
        have eq914 : hp910 qa900 28 = .ref qa20 := Eq.trans (up_at eh911 (Or.inl (kd_ne kd900 kd6 (by decide)))) (Eq.trans (up_at eh906 (Or.inl (kd_ne kd900 kd6 (by decide)))) (Eq.trans (up_at eh901 (Or.inl (kd_ne kd900 kd6 (by decide)))) (Eq.trans (up_at eh897 (Or.inr (by decide))) (Eq.trans (Fr.at (cq := 13028) F877 kd900 (cd_o (by decide)) (by decide)) eq513))))
        refine p_get (ci := 12) (v := .ref qa20) (C := RX12) (T := TX12) (N := 69) hx hb hT iw_X12 hown hK hw hW kd900 (by decide) rfl rfl 28 (by decide) eq914 (hT _ tb_1402) (fun _ h9 => h9) dX12_findsAhead_37 ?_
        refine lv_aload_n hx hb dX12_findsAhead_40 rfl (lv_at hl 1 rfl) ?_
        have eq915 : hp910 qa900 18 = .int zi23 := Eq.trans (up_at eh911 (Or.inl (kd_ne kd900 kd6 (by decide)))) (Eq.trans (up_at eh906 (Or.inl (kd_ne kd900 kd6 (by decide)))) (Eq.trans (up_at eh901 (Or.inl (kd_ne kd900 kd6 (by decide)))) (Eq.trans (up_at eh897 (Or.inr (by decide))) (Eq.trans (Fr.at (cq := 13018) F877 kd900 (cd_o (by decide)) (by decide)) eq514))))
        refine p_get (ci := 12) (v := .int zi23) (C := RX12) (T := TX12) (N := 69) hx hb hT iw_X12 hown hK hw hW kd900 (by decide) rfl rfl 18 (by decide) eq915 (hT _ tb_1392) (fun _ h9 => h9) dX12_findsAhead_41 ?_
        have eq916 : hp910 qa20 (zi23 : Int32).toNatClampNeg = .int zi26 := Eq.trans (up_at eh911 (Or.inl (kd_ne kd21 kd6 (by decide)))) (Eq.trans (up_at eh906 (Or.inl (kd_ne kd21 kd6 (by decide)))) (Eq.trans (up_at eh901 (Or.inl (kd_ne kd21 kd6 (by decide)))) (Eq.trans (up_at eh897 (Or.inl (kd_ne kd21 kd900 (by decide)))) (Eq.trans (Fr.at (cq := 74000) F877 kd21 (cd_a (by decide)) (by decide)) eq515))))
        refine p_iald (v := zi26) hx hb hK hw hW kd21 (by decide) rfl (hW.len kd21 (n := 2) rfl (by decide)) (vp_b bd24 (by decide) (by decide)) eq916 dX12_findsAhead_44 ?_
        refine lv_if_le (tgt := 52) hx hb dX12_findsAhead_45 (by decide) (fun c => absurd c (d_nle bd123 bc_0 (by decide))) (fun _ => ?_)
        refine lv_iconst (v := 1) hx hb dX12_findsAhead_48 (by decide) ?_
        refine lv_goto (tgt := 53) hx hb dX12_findsAhead_49 (by decide) ?_
        refine lv_istore_n (lv' := [(3, .int 1), (0, .ref qa900), (1, .int zi901), (2, .int zi902)]) hx hb dX12_findsAhead_53 rfl hl (by decide) rfl (fun ls hl => ?_)
        have eq917 : hp910 qa900 56 = .ref qa5 := Eq.trans (up_at eh911 (Or.inl (kd_ne kd900 kd6 (by decide)))) eq909
        have eq918 : hp910 qa5 (0 : Int32).toNatClampNeg = .int 0 := Eq.trans (up_at eh911 (Or.inr (by decide))) (Eq.trans (up_at eh906 (Or.inr (by decide))) (hp_self eh901))
        have eq919 : hp910 qa5 (1 : Int32).toNatClampNeg = .int 0 := Eq.trans (up_at eh911 (Or.inr (by decide))) (hp_self eh906)
        have eq920 : hp910 qa5 (3 : Int32).toNatClampNeg = .int zi886 := Eq.trans (up_at eh911 (Or.inr (by decide))) (Eq.trans (up_at eh906 (Or.inr (by decide))) (Eq.trans (up_at eh901 (Or.inr (by decide))) (Eq.trans (up_at eh897 (Or.inl (kd_ne kd6 kd900 (by decide)))) eq885)))
        have jn1295 : ∀ (hp1277 : Nat → Nat → Value) (zi1281 : Int32) (zi1283 : Int32) (zi1285 : Int32) (zi1287 : Int32) (H : Heap) (locs : List Loc) (ls : Array Slot), Ok K hp1277 → Fr [13048, 13051, 90000, 91000, 93000, 95000] K hp910 hp1277 → ((-1 : Int) ≤ zi1281.toInt ∧ zi1281.toInt ≤ 16) → hp1277 qa5 (0 : Int32).toNatClampNeg = .int zi1281 → ((-1 : Int) ≤ zi1283.toInt ∧ zi1283.toInt ≤ 16) → hp1277 qa5 (1 : Int32).toNatClampNeg = .int zi1283 → ((-1 : Int) ≤ zi1285.toInt ∧ zi1285.toInt ≤ 16) → hp1277 qa5 (2 : Int32).toNatClampNeg = .int zi1285 → ((-1 : Int) ≤ zi1287.toInt ∧ zi1287.toInt ≤ 16) → hp1277 qa5 (3 : Int32).toNatClampNeg = .int zi1287 → lv_has ls 4 [(0, .ref qa900), (1, .int zi901), (2, .int zi902)] → PW G cy K ln Ls A hp1277 H → va_S A s.heap H locs → W p l e ({ frames := 5, cells := 0, slots := 0, locals := 126 } : Room) s m ([.ref qa900, .int zi901, .int zi902] : List Value).toArray below meth c H locs 0 0 Q (F0 m 77 ls []) := by
          intro hp1277 zi1281 zi1283 zi1285 zi1287 H locs ls ok1279 F1278 bd1288 eq1280 bd1289 eq1282 bd1290 eq1284 bd1291 eq1286 hl hw hS
          refine lv_aload_n hx hb dX12_findsAhead_77 rfl (lv_at hl 0 rfl) ?_
          refine lv_dup hx hb dX12_findsAhead_78 rfl ?_
          have eq1296 : hp1277 qa900 55 = .int 3 := Eq.trans (Fr.at (cq := 13055) F1278 kd900 (cd_o (by decide)) (by decide)) eq913
          refine p_get (ci := 12) (v := .int 3) (C := RX12) (T := TX12) (N := 69) hx hb hT iw_X12 hown hK hw hW kd900 (by decide) rfl rfl 55 (by decide) eq1296 (hT _ tb_1429) (fun _ h9 => h9) dX12_findsAhead_79 ?_
          refine lv_iconst (v := 1) hx hb dX12_findsAhead_82 (by decide) ?_
          refine kx_iadd (v := 4) hx hb dX12_findsAhead_83 (by decide) ?_
          refine p_put (ci := 12) (v := .int 4) (ty := .int) (C := RX12) (T := TX12) (N := 69) hx hb hT iw_X12 tyX12 tyX12_ok nmX12 hown hK hw hS hW kd900 (by decide) rfl rfl 55 (by decide) (hT _ tb_1429) (fun _ h9 => h9) rfl (by decide +kernel) rfl rfl dX12_findsAhead_84 (fun hp1297 eh1298 H locs hw hS => ?_)
          have ok1299 := wr_13055 bc_4 (by decide) (by decide) ok1279 kd900 eh1298
          refine lv_goto (tgt := 5) hx hb dX12_findsAhead_87 (by decide) ?_
          refine lv_aload_n hx hb dX12_findsAhead_5 rfl (lv_at hl 0 rfl) ?_
          refine p_get (ci := 12) (v := .int 4) (C := RX12) (T := TX12) (N := 69) hx hb hT iw_X12 hown hK hw hW kd900 (by decide) rfl rfl 55 (by decide) (hp_self eh1298) (hT _ tb_1429) (fun _ h9 => h9) dX12_findsAhead_6 ?_
          refine lv_iconst (v := 5) hx hb dX12_findsAhead_9 (by decide) ?_
          refine lv_icmp_ge (tgt := 90) hx hb dX12_findsAhead_10 (by decide) (fun c => absurd c (d_nle bc_5 bc_4 (by decide))) (fun _ => ?_)
          refine lv_iconst (v := 0) hx hb dX12_findsAhead_13 (by decide) ?_
          refine lv_istore_n (lv' := [(3, .int 0), (0, .ref qa900), (1, .int zi901), (2, .int zi902)]) hx hb dX12_findsAhead_14 rfl hl (by decide) rfl (fun ls hl => ?_)
          refine lv_iload_n hx hb dX12_findsAhead_15 rfl (lv_at hl 0 rfl) ?_
          refine lv_aload_n hx hb dX12_findsAhead_16 rfl (lv_at hl 1 rfl) ?_
          refine p_get (ci := 12) (v := .int 4) (C := RX12) (T := TX12) (N := 69) hx hb hT iw_X12 hown hK hw hW kd900 (by decide) rfl rfl 55 (by decide) (hp_self eh1298) (hT _ tb_1429) (fun _ h9 => h9) dX12_findsAhead_17 ?_
          refine lv_icmp_ge (tgt := 36) hx hb dX12_findsAhead_20 (by decide) (fun c => absurd c (d_nle bc_4 bc_0 (by decide))) (fun _ => ?_)
          refine lv_aload_n hx hb dX12_findsAhead_23 rfl (lv_at hl 1 rfl) ?_
          have eq1300 : hp1297 qa900 56 = .ref qa5 := Eq.trans (up_at eh1298 (Or.inr (by decide))) (Eq.trans (Fr.at (cq := 13056) F1278 kd900 (cd_o (by decide)) (by decide)) eq917)
          refine p_get (ci := 12) (v := .ref qa5) (C := RX12) (T := TX12) (N := 69) hx hb hT iw_X12 hown hK hw hW kd900 (by decide) rfl rfl 56 (by decide) eq1300 (hT _ tb_1430) (fun _ h9 => h9) dX12_findsAhead_24 ?_
          refine lv_iload_n hx hb dX12_findsAhead_27 rfl (lv_at hl 0 rfl) ?_
          refine lv_iconst (v := 0) hx hb dX12_findsAhead_28 (by decide) ?_
          refine p_iast (x := 0) hx hb hK hw hS hW kd6 (by decide) rfl (hW.len kd6 (n := 6) rfl (by decide)) (vp_b bc_0 (by decide) (by decide)) dX12_findsAhead_29 (fun hp1301 eh1302 H locs hw hS => ?_)
          have ok1303 := wr_95000 bc_0 (by decide) (by decide) ok1299 kd6 eh1302
          refine lv_iinc (v := 1) (lv' := [(3, .int 1), (0, .ref qa900), (1, .int zi901), (2, .int zi902)]) hx hb dX12_findsAhead_30 hl (k := 0) rfl (by decide) (by decide) rfl (fun ls hl => ?_)
          refine lv_goto (tgt := 15) hx hb dX12_findsAhead_33 (by decide) ?_
          refine lv_iload_n hx hb dX12_findsAhead_15 rfl (lv_at hl 0 rfl) ?_
          refine lv_aload_n hx hb dX12_findsAhead_16 rfl (lv_at hl 1 rfl) ?_
          have eq1304 : hp1301 qa900 55 = .int 4 := Eq.trans (up_at eh1302 (Or.inl (kd_ne kd900 kd6 (by decide)))) (hp_self eh1298)
          refine p_get (ci := 12) (v := .int 4) (C := RX12) (T := TX12) (N := 69) hx hb hT iw_X12 hown hK hw hW kd900 (by decide) rfl rfl 55 (by decide) eq1304 (hT _ tb_1429) (fun _ h9 => h9) dX12_findsAhead_17 ?_
          refine lv_icmp_ge (tgt := 36) hx hb dX12_findsAhead_20 (by decide) (fun c => absurd c (d_nle bc_4 bc_1 (by decide))) (fun _ => ?_)
          refine lv_aload_n hx hb dX12_findsAhead_23 rfl (lv_at hl 1 rfl) ?_
          have eq1305 : hp1301 qa900 56 = .ref qa5 := Eq.trans (up_at eh1302 (Or.inl (kd_ne kd900 kd6 (by decide)))) eq1300
          refine p_get (ci := 12) (v := .ref qa5) (C := RX12) (T := TX12) (N := 69) hx hb hT iw_X12 hown hK hw hW kd900 (by decide) rfl rfl 56 (by decide) eq1305 (hT _ tb_1430) (fun _ h9 => h9) dX12_findsAhead_24 ?_
          refine lv_iload_n hx hb dX12_findsAhead_27 rfl (lv_at hl 0 rfl) ?_
          refine lv_iconst (v := 0) hx hb dX12_findsAhead_28 (by decide) ?_
          refine p_iast (x := 0) hx hb hK hw hS hW kd6 (by decide) rfl (hW.len kd6 (n := 6) rfl (by decide)) (vp_b bc_1 (by decide) (by decide)) dX12_findsAhead_29 (fun hp1306 eh1307 H locs hw hS => ?_)
          have ok1308 := wr_95000 bc_0 (by decide) (by decide) ok1303 kd6 eh1307
          refine lv_iinc (v := 2) (lv' := [(3, .int 2), (0, .ref qa900), (1, .int zi901), (2, .int zi902)]) hx hb dX12_findsAhead_30 hl (k := 0) rfl (by decide) (by decide) rfl (fun ls hl => ?_)
          refine lv_goto (tgt := 15) hx hb dX12_findsAhead_33 (by decide) ?_
          refine lv_iload_n hx hb dX12_findsAhead_15 rfl (lv_at hl 0 rfl) ?_
          refine lv_aload_n hx hb dX12_findsAhead_16 rfl (lv_at hl 1 rfl) ?_
          have eq1309 : hp1306 qa900 55 = .int 4 := Eq.trans (up_at eh1307 (Or.inl (kd_ne kd900 kd6 (by decide)))) eq1304
          refine p_get (ci := 12) (v := .int 4) (C := RX12) (T := TX12) (N := 69) hx hb hT iw_X12 hown hK hw hW kd900 (by decide) rfl rfl 55 (by decide) eq1309 (hT _ tb_1429) (fun _ h9 => h9) dX12_findsAhead_17 ?_
          refine lv_icmp_ge (tgt := 36) hx hb dX12_findsAhead_20 (by decide) (fun c => absurd c (d_nle bc_4 bc_2 (by decide))) (fun _ => ?_)
          refine lv_aload_n hx hb dX12_findsAhead_23 rfl (lv_at hl 1 rfl) ?_
          have eq1310 : hp1306 qa900 56 = .ref qa5 := Eq.trans (up_at eh1307 (Or.inl (kd_ne kd900 kd6 (by decide)))) eq1305
          refine p_get (ci := 12) (v := .ref qa5) (C := RX12) (T := TX12) (N := 69) hx hb hT iw_X12 hown hK hw hW kd900 (by decide) rfl rfl 56 (by decide) eq1310 (hT _ tb_1430) (fun _ h9 => h9) dX12_findsAhead_24 ?_
          refine lv_iload_n hx hb dX12_findsAhead_27 rfl (lv_at hl 0 rfl) ?_
          refine lv_iconst (v := 0) hx hb dX12_findsAhead_28 (by decide) ?_
          refine p_iast (x := 0) hx hb hK hw hS hW kd6 (by decide) rfl (hW.len kd6 (n := 6) rfl (by decide)) (vp_b bc_2 (by decide) (by decide)) dX12_findsAhead_29 (fun hp1311 eh1312 H locs hw hS => ?_)
          have ok1313 := wr_95000 bc_0 (by decide) (by decide) ok1308 kd6 eh1312
          refine lv_iinc (v := 3) (lv' := [(3, .int 3), (0, .ref qa900), (1, .int zi901), (2, .int zi902)]) hx hb dX12_findsAhead_30 hl (k := 0) rfl (by decide) (by decide) rfl (fun ls hl => ?_)
          refine lv_goto (tgt := 15) hx hb dX12_findsAhead_33 (by decide) ?_
          refine lv_iload_n hx hb dX12_findsAhead_15 rfl (lv_at hl 0 rfl) ?_
          refine lv_aload_n hx hb dX12_findsAhead_16 rfl (lv_at hl 1 rfl) ?_
          have eq1314 : hp1311 qa900 55 = .int 4 := Eq.trans (up_at eh1312 (Or.inl (kd_ne kd900 kd6 (by decide)))) eq1309
          refine p_get (ci := 12) (v := .int 4) (C := RX12) (T := TX12) (N := 69) hx hb hT iw_X12 hown hK hw hW kd900 (by decide) rfl rfl 55 (by decide) eq1314 (hT _ tb_1429) (fun _ h9 => h9) dX12_findsAhead_17 ?_
          refine lv_icmp_ge (tgt := 36) hx hb dX12_findsAhead_20 (by decide) (fun c => absurd c (d_nle bc_4 bc_3 (by decide))) (fun _ => ?_)
          refine lv_aload_n hx hb dX12_findsAhead_23 rfl (lv_at hl 1 rfl) ?_
          have eq1315 : hp1311 qa900 56 = .ref qa5 := Eq.trans (up_at eh1312 (Or.inl (kd_ne kd900 kd6 (by decide)))) eq1310
          refine p_get (ci := 12) (v := .ref qa5) (C := RX12) (T := TX12) (N := 69) hx hb hT iw_X12 hown hK hw hW kd900 (by decide) rfl rfl 56 (by decide) eq1315 (hT _ tb_1430) (fun _ h9 => h9) dX12_findsAhead_24 ?_
          refine lv_iload_n hx hb dX12_findsAhead_27 rfl (lv_at hl 0 rfl) ?_
          refine lv_iconst (v := 0) hx hb dX12_findsAhead_28 (by decide) ?_
          refine p_iast (x := 0) hx hb hK hw hS hW kd6 (by decide) rfl (hW.len kd6 (n := 6) rfl (by decide)) (vp_b bc_3 (by decide) (by decide)) dX12_findsAhead_29 (fun hp1316 eh1317 H locs hw hS => ?_)
          have ok1318 := wr_95000 bc_0 (by decide) (by decide) ok1313 kd6 eh1317
          refine lv_iinc (v := 4) (lv' := [(3, .int 4), (0, .ref qa900), (1, .int zi901), (2, .int zi902)]) hx hb dX12_findsAhead_30 hl (k := 0) rfl (by decide) (by decide) rfl (fun ls hl => ?_)
          refine lv_goto (tgt := 15) hx hb dX12_findsAhead_33 (by decide) ?_
          refine lv_iload_n hx hb dX12_findsAhead_15 rfl (lv_at hl 0 rfl) ?_
          refine lv_aload_n hx hb dX12_findsAhead_16 rfl (lv_at hl 1 rfl) ?_
          have eq1319 : hp1316 qa900 55 = .int 4 := Eq.trans (up_at eh1317 (Or.inl (kd_ne kd900 kd6 (by decide)))) eq1314
          refine p_get (ci := 12) (v := .int 4) (C := RX12) (T := TX12) (N := 69) hx hb hT iw_X12 hown hK hw hW kd900 (by decide) rfl rfl 55 (by decide) eq1319 (hT _ tb_1429) (fun _ h9 => h9) dX12_findsAhead_17 ?_
          refine lv_icmp_ge (tgt := 36) hx hb dX12_findsAhead_20 (by decide) (fun _ => ?_) (fun c => absurd (d_le bc_4 bc_4 (by decide)) c)
          refine lv_aload_n hx hb dX12_findsAhead_36 rfl (lv_at hl 1 rfl) ?_
          have eq1320 : hp1316 qa900 28 = .ref qa20 := Eq.trans (up_at eh1317 (Or.inl (kd_ne kd900 kd6 (by decide)))) (Eq.trans (up_at eh1312 (Or.inl (kd_ne kd900 kd6 (by decide)))) (Eq.trans (up_at eh1307 (Or.inl (kd_ne kd900 kd6 (by decide)))) (Eq.trans (up_at eh1302 (Or.inl (kd_ne kd900 kd6 (by decide)))) (Eq.trans (up_at eh1298 (Or.inr (by decide))) (Eq.trans (Fr.at (cq := 13028) F1278 kd900 (cd_o (by decide)) (by decide)) eq914)))))
          refine p_get (ci := 12) (v := .ref qa20) (C := RX12) (T := TX12) (N := 69) hx hb hT iw_X12 hown hK hw hW kd900 (by decide) rfl rfl 28 (by decide) eq1320 (hT _ tb_1402) (fun _ h9 => h9) dX12_findsAhead_37 ?_
          refine lv_aload_n hx hb dX12_findsAhead_40 rfl (lv_at hl 1 rfl) ?_
          have eq1321 : hp1316 qa900 18 = .int zi23 := Eq.trans (up_at eh1317 (Or.inl (kd_ne kd900 kd6 (by decide)))) (Eq.trans (up_at eh1312 (Or.inl (kd_ne kd900 kd6 (by decide)))) (Eq.trans (up_at eh1307 (Or.inl (kd_ne kd900 kd6 (by decide)))) (Eq.trans (up_at eh1302 (Or.inl (kd_ne kd900 kd6 (by decide)))) (Eq.trans (up_at eh1298 (Or.inr (by decide))) (Eq.trans (Fr.at (cq := 13018) F1278 kd900 (cd_o (by decide)) (by decide)) eq915)))))
          refine p_get (ci := 12) (v := .int zi23) (C := RX12) (T := TX12) (N := 69) hx hb hT iw_X12 hown hK hw hW kd900 (by decide) rfl rfl 18 (by decide) eq1321 (hT _ tb_1392) (fun _ h9 => h9) dX12_findsAhead_41 ?_
          have eq1322 : hp1316 qa20 (zi23 : Int32).toNatClampNeg = .int zi26 := Eq.trans (up_at eh1317 (Or.inl (kd_ne kd21 kd6 (by decide)))) (Eq.trans (up_at eh1312 (Or.inl (kd_ne kd21 kd6 (by decide)))) (Eq.trans (up_at eh1307 (Or.inl (kd_ne kd21 kd6 (by decide)))) (Eq.trans (up_at eh1302 (Or.inl (kd_ne kd21 kd6 (by decide)))) (Eq.trans (up_at eh1298 (Or.inl (kd_ne kd21 kd900 (by decide)))) (Eq.trans (Fr.at (cq := 74000) F1278 kd21 (cd_a (by decide)) (by decide)) eq916)))))
          refine p_iald (v := zi26) hx hb hK hw hW kd21 (by decide) rfl (hW.len kd21 (n := 2) rfl (by decide)) (vp_b bd24 (by decide) (by decide)) eq1322 dX12_findsAhead_44 ?_
          refine lv_if_le (tgt := 52) hx hb dX12_findsAhead_45 (by decide) (fun c => absurd c (d_nle bd123 bc_0 (by decide))) (fun _ => ?_)
          refine lv_iconst (v := 1) hx hb dX12_findsAhead_48 (by decide) ?_
          refine lv_goto (tgt := 53) hx hb dX12_findsAhead_49 (by decide) ?_
          refine lv_istore_n (lv' := [(3, .int 1), (0, .ref qa900), (1, .int zi901), (2, .int zi902)]) hx hb dX12_findsAhead_53 rfl hl (by decide) rfl (fun ls hl => ?_)
          have eq1323 : hp1316 qa900 56 = .ref qa5 := Eq.trans (up_at eh1317 (Or.inl (kd_ne kd900 kd6 (by decide)))) eq1315
          have eq1324 : hp1316 qa5 (0 : Int32).toNatClampNeg = .int 0 := Eq.trans (up_at eh1317 (Or.inr (by decide))) (Eq.trans (up_at eh1312 (Or.inr (by decide))) (Eq.trans (up_at eh1307 (Or.inr (by decide))) (hp_self eh1302)))
          have eq1325 : hp1316 qa5 (1 : Int32).toNatClampNeg = .int 0 := Eq.trans (up_at eh1317 (Or.inr (by decide))) (Eq.trans (up_at eh1312 (Or.inr (by decide))) (hp_self eh1307))
          have eq1326 : hp1316 qa5 (2 : Int32).toNatClampNeg = .int 0 := Eq.trans (up_at eh1317 (Or.inr (by decide))) (hp_self eh1312)
          have jn1701 : ∀ (hp1683 : Nat → Nat → Value) (zi1687 : Int32) (zi1689 : Int32) (zi1691 : Int32) (zi1693 : Int32) (H : Heap) (locs : List Loc) (ls : Array Slot), Ok K hp1683 → Fr [13048, 13051, 90000, 91000, 93000, 95000] K hp1316 hp1683 → ((-1 : Int) ≤ zi1687.toInt ∧ zi1687.toInt ≤ 16) → hp1683 qa5 (0 : Int32).toNatClampNeg = .int zi1687 → ((-1 : Int) ≤ zi1689.toInt ∧ zi1689.toInt ≤ 16) → hp1683 qa5 (1 : Int32).toNatClampNeg = .int zi1689 → ((-1 : Int) ≤ zi1691.toInt ∧ zi1691.toInt ≤ 16) → hp1683 qa5 (2 : Int32).toNatClampNeg = .int zi1691 → ((-1 : Int) ≤ zi1693.toInt ∧ zi1693.toInt ≤ 16) → hp1683 qa5 (3 : Int32).toNatClampNeg = .int zi1693 → lv_has ls 4 [(0, .ref qa900), (1, .int zi901), (2, .int zi902)] → PW G cy K ln Ls A hp1683 H → va_S A s.heap H locs → W p l e ({ frames := 5, cells := 0, slots := 0, locals := 126 } : Room) s m ([.ref qa900, .int zi901, .int zi902] : List Value).toArray below meth c H locs 0 0 Q (F0 m 77 ls []) := by
            intro hp1683 zi1687 zi1689 zi1691 zi1693 H locs ls ok1685 F1684 bd1694 eq1686 bd1695 eq1688 bd1696 eq1690 bd1697 eq1692 hl hw hS
            refine lv_aload_n hx hb dX12_findsAhead_77 rfl (lv_at hl 0 rfl) ?_
            refine lv_dup hx hb dX12_findsAhead_78 rfl ?_
            have eq1702 : hp1683 qa900 55 = .int 4 := Eq.trans (Fr.at (cq := 13055) F1684 kd900 (cd_o (by decide)) (by decide)) eq1319
            refine p_get (ci := 12) (v := .int 4) (C := RX12) (T := TX12) (N := 69) hx hb hT iw_X12 hown hK hw hW kd900 (by decide) rfl rfl 55 (by decide) eq1702 (hT _ tb_1429) (fun _ h9 => h9) dX12_findsAhead_79 ?_
            refine lv_iconst (v := 1) hx hb dX12_findsAhead_82 (by decide) ?_
            refine kx_iadd (v := 5) hx hb dX12_findsAhead_83 (by decide) ?_
            refine p_put (ci := 12) (v := .int 5) (ty := .int) (C := RX12) (T := TX12) (N := 69) hx hb hT iw_X12 tyX12 tyX12_ok nmX12 hown hK hw hS hW kd900 (by decide) rfl rfl 55 (by decide) (hT _ tb_1429) (fun _ h9 => h9) rfl (by decide +kernel) rfl rfl dX12_findsAhead_84 (fun hp1703 eh1704 H locs hw hS => ?_)
            have ok1705 := wr_13055 bc_5 (by decide) (by decide) ok1685 kd900 eh1704
            refine lv_goto (tgt := 5) hx hb dX12_findsAhead_87 (by decide) ?_
            refine lv_aload_n hx hb dX12_findsAhead_5 rfl (lv_at hl 0 rfl) ?_
            refine p_get (ci := 12) (v := .int 5) (C := RX12) (T := TX12) (N := 69) hx hb hT iw_X12 hown hK hw hW kd900 (by decide) rfl rfl 55 (by decide) (hp_self eh1704) (hT _ tb_1429) (fun _ h9 => h9) dX12_findsAhead_6 ?_
            refine lv_iconst (v := 5) hx hb dX12_findsAhead_9 (by decide) ?_
            refine lv_icmp_ge (tgt := 90) hx hb dX12_findsAhead_10 (by decide) (fun _ => ?_) (fun c => absurd (d_le bc_5 bc_5 (by decide)) c)
            refine lv_iconst (v := 0) hx hb dX12_findsAhead_90 (by decide) ?_
            rw [hQ]
            exact kz_i hx hb hr hlocks hS (nz_n bc_0 (by decide) (by decide)) hp1703 hw ⟨ok1705, (Fr.put (cq := 13055) (Fr.tr (Fr.put (cq := 95000) (Fr.put (cq := 95000) (Fr.put (cq := 95000) (Fr.put (cq := 95000) (Fr.put (cq := 13055) (Fr.tr (Fr.put (cq := 95000) (Fr.put (cq := 95000) (Fr.put (cq := 95000) (Fr.put (cq := 13055) (Fr.tr (Fr.put (cq := 95000) (Fr.put (cq := 95000) (Fr.put (cq := 13055) (Fr.tr (Fr.put (cq := 95000) (Fr.put (cq := 13055) (Fr.rf) eh29 kd900 (cd_o (by decide)) (by decide)) eh33 kd6 (cd_a (by decide)) (by decide)) F481 (by decide)) eh501 kd900 (cd_o (by decide)) (by decide)) eh505 kd6 (cd_a (by decide)) (by decide)) eh510 kd6 (cd_a (by decide)) (by decide)) F877 (by decide)) eh897 kd900 (cd_o (by decide)) (by decide)) eh901 kd6 (cd_a (by decide)) (by decide)) eh906 kd6 (cd_a (by decide)) (by decide)) eh911 kd6 (cd_a (by decide)) (by decide)) F1278 (by decide)) eh1298 kd900 (cd_o (by decide)) (by decide)) eh1302 kd6 (cd_a (by decide)) (by decide)) eh1307 kd6 (cd_a (by decide)) (by decide)) eh1312 kd6 (cd_a (by decide)) (by decide)) eh1317 kd6 (cd_a (by decide)) (by decide)) F1684 (by decide)) eh1704 kd900 (cd_o (by decide)) (by decide)), (b_wid2 bc_0 (by decide) (by decide)), ⟨_, (hp_self eh1704), b_wid2 bc_5 (by decide) (by decide)⟩, (fun _ => ⟨_, (hp_self eh1704), b_wid2 bc_5 (by decide) (by decide)⟩), (fun h => absurd h (by decide)), (fun h => absurd h (by decide)), (fun h => absurd h (by decide)), (fun h => absurd h (by decide)), (fun h => absurd h (by decide)), (fun h => absurd h (by decide)), (fun h => absurd h (by decide))⟩ (Nat.le_of_ble_eq_true rfl) (Nat.le_of_ble_eq_true rfl) dX12_findsAhead_91
          have lp1708 : ∀ (n1706 : Nat) (hp1543 : Nat → Nat → Value) (zi1547 : Int32) (zi1549 : Int32) (zi1551 : Int32) (zi1553 : Int32) (H : Heap) (locs : List Loc) (ls : Array Slot), 140000 - (8000*zi1547.toInt + 400*zi1549.toInt + 20*zi1551.toInt + zi1553.toInt) < (n1706 : Int) → Ok K hp1543 → Fr [13048, 13051, 90000, 91000, 93000, 95000] K hp1316 hp1543 → ((-1 : Int) ≤ zi1547.toInt ∧ zi1547.toInt ≤ 16) → hp1543 qa5 (0 : Int32).toNatClampNeg = .int zi1547 → ((-1 : Int) ≤ zi1549.toInt ∧ zi1549.toInt ≤ 16) → hp1543 qa5 (1 : Int32).toNatClampNeg = .int zi1549 → ((-1 : Int) ≤ zi1551.toInt ∧ zi1551.toInt ≤ 16) → hp1543 qa5 (2 : Int32).toNatClampNeg = .int zi1551 → ((-1 : Int) ≤ zi1553.toInt ∧ zi1553.toInt ≤ 16) → hp1543 qa5 (3 : Int32).toNatClampNeg = .int zi1553 → ((4 : Int32).toInt ≤ 0 ∨ (0 ≤ zi1547.toInt ∧ zi1547.toInt ≤ zi26.toInt - 1)) → ((4 : Int32).toInt ≤ 1 ∨ (0 ≤ zi1549.toInt ∧ zi1549.toInt ≤ zi26.toInt - 1)) → ((4 : Int32).toInt ≤ 2 ∨ (0 ≤ zi1551.toInt ∧ zi1551.toInt ≤ zi26.toInt - 1)) → ((4 : Int32).toInt ≤ 3 ∨ (0 ≤ zi1553.toInt ∧ zi1553.toInt ≤ zi26.toInt - 1)) → lv_has ls 4 [(0, .ref qa900), (1, .int zi901), (2, .int zi902), (3, .int 1)] → PW G cy K ln Ls A hp1543 H → va_S A s.heap H locs → W p l e ({ frames := 5, cells := 0, slots := 0, locals := 126 } : Room) s m ([.ref qa900, .int zi901, .int zi902] : List Value).toArray below meth c H locs 0 0 Q (F0 m 54 ls []) := by
            intro n1706
            induction n1706 with
            | zero =>
              intro hp1543 zi1547 zi1549 zi1551 zi1553 H locs ls hm1709 ok1545 F1544 bd1558 eq1546 bd1559 eq1548 bd1560 eq1550 bd1561 eq1552 rq1554 rq1555 rq1556 rq1557 hl hw hS
              exact absurd hm1709 (by omega)
            | succ n1706 ih1707 =>
              intro hp1543 zi1547 zi1549 zi1551 zi1553 H locs ls hm1709 ok1545 F1544 bd1558 eq1546 bd1559 eq1548 bd1560 eq1550 bd1561 eq1552 rq1554 rq1555 rq1556 rq1557 hl hw hS
              refine lv_iload_n hx hb dX12_findsAhead_54 rfl (lv_at hl 3 rfl) ?_
              refine lv_if_eq (tgt := 77) hx hb dX12_findsAhead_55 (by decide) (fun c => absurd c (d_ne bc_1 bc_0 (by decide))) (fun _ => ?_)
              refine lv_aload_n hx hb dX12_findsAhead_58 rfl (lv_at hl 0 rfl) ?_
              refine lv_iload_n hx hb dX12_findsAhead_59 rfl (lv_at hl 1 rfl) ?_
              refine lv_iload_n hx hb dX12_findsAhead_60 rfl (lv_at hl 2 rfl) ?_
              have eq1715 : hp1543 qa900 55 = .int 4 := Eq.trans (Fr.at (cq := 13055) F1544 kd900 (cd_o (by decide)) (by decide)) eq1319
              have eq1716 : hp1543 qa900 56 = .ref qa5 := Eq.trans (Fr.at (cq := 13056) F1544 kd900 (cd_o (by decide)) (by decide)) eq1323
              have eq1717 : hp1543 qa900 28 = .ref qa20 := Eq.trans (Fr.at (cq := 13028) F1544 kd900 (cd_o (by decide)) (by decide)) eq1320
              have eq1718 : hp1543 qa900 18 = .int zi23 := Eq.trans (Fr.at (cq := 13018) F1544 kd900 (cd_o (by decide)) (by decide)) eq1321
              have eq1719 : hp1543 qa20 (zi23 : Int32).toNatClampNeg = .int zi26 := Eq.trans (Fr.at (cq := 74000) F1544 kd21 (cd_a (by decide)) (by decide)) eq1322
              have pd1720 : LW hp1543 qa900 := LW_fr ok0 kd900 (show Fr [13048, 13051, 13055, 90000, 91000, 93000, 95000] K hp0 hp1543 from (Fr.tr (Fr.put (cq := 95000) (Fr.put (cq := 95000) (Fr.put (cq := 95000) (Fr.put (cq := 95000) (Fr.put (cq := 13055) (Fr.tr (Fr.put (cq := 95000) (Fr.put (cq := 95000) (Fr.put (cq := 95000) (Fr.put (cq := 13055) (Fr.tr (Fr.put (cq := 95000) (Fr.put (cq := 95000) (Fr.put (cq := 13055) (Fr.tr (Fr.put (cq := 95000) (Fr.put (cq := 13055) (Fr.rf) eh29 kd900 (cd_o (by decide)) (by decide)) eh33 kd6 (cd_a (by decide)) (by decide)) F481 (by decide)) eh501 kd900 (cd_o (by decide)) (by decide)) eh505 kd6 (cd_a (by decide)) (by decide)) eh510 kd6 (cd_a (by decide)) (by decide)) F877 (by decide)) eh897 kd900 (cd_o (by decide)) (by decide)) eh901 kd6 (cd_a (by decide)) (by decide)) eh906 kd6 (cd_a (by decide)) (by decide)) eh911 kd6 (cd_a (by decide)) (by decide)) F1278 (by decide)) eh1298 kd900 (cd_o (by decide)) (by decide)) eh1302 kd6 (cd_a (by decide)) (by decide)) eh1307 kd6 (cd_a (by decide)) (by decide)) eh1312 kd6 (cd_a (by decide)) (by decide)) eh1317 kd6 (cd_a (by decide)) (by decide)) F1544 (by decide))) (by decide) pdLW
              refine kq_i hw hS hA (va_runV (As := [.int zi901, .int zi902]) (rest := []) ⟨hx, hb, hml, hown, hT⟩ (cX12_isAhead_0 l G cy ev K ln Ls hW _ hp1543 ok1545 qa900 zi901 zi902 kd900 (b_wid2 bd901 (by decide) (by decide)) (b_wid2 bd902 (by decide) (by decide)) (by simp only [gi_of eq1715, ga_of eq1716 eq1546, ge_of eq1717 eq1718 eq1719]; have := toi bc_4; omega) (by simp only [gi_of eq1715, ga_of eq1716 eq1548, ge_of eq1717 eq1718 eq1719]; have := toi bc_4; omega) (by simp only [gi_of eq1715, ga_of eq1716 eq1550, ge_of eq1717 eq1718 eq1719]; have := toi bc_4; omega) (by simp only [gi_of eq1715, ga_of eq1716 eq1552, ge_of eq1717 eq1718 eq1719]; have := toi bc_4; omega) (by simp only [gi_of eq1715]; have := toi bc_4; omega) (by simp only [gi_of eq1715]; have := toi bc_4; omega) pd1720) (cwV 2 hT (good_V tb_1863 tb_1860 tb_1862 tb_95 tb_122) rfl rfl rfl (by decide +kernel) ⟨Nat.le_of_ble_eq_true rfl, Nat.le_of_ble_eq_true rfl⟩) (pool_preV (ci := 12) hK hE hS hA hw hW kd900 (by decide) rfl) rfl rfl hl.1 rfl (lv_room (Nat.le_of_ble_eq_true rfl)) dX12_findsAhead_61 ⟨Nat.le_of_ble_eq_true rfl, Nat.le_of_ble_eq_true rfl⟩) (fun zi1725 hp1721 H locs hq1724 hw hS => ?_)
              obtain ⟨ok1722, F1723, bd1726⟩ := hq1724
              have hw : PW G cy K ln Ls A hp1721 H := hw
              have eq1728 : hp1721 qa900 55 = .int 4 := Eq.trans (Fr.at (cq := 13055) F1723 kd900 (cd_o (by decide)) (by decide)) eq1715
              have eq1729 : hp1721 qa900 28 = .ref qa20 := Eq.trans (Fr.at (cq := 13028) F1723 kd900 (cd_o (by decide)) (by decide)) eq1717
              have eq1730 : hp1721 qa900 18 = .int zi23 := Eq.trans (Fr.at (cq := 13018) F1723 kd900 (cd_o (by decide)) (by decide)) eq1718
              have eq1731 : hp1721 qa20 (zi23 : Int32).toNatClampNeg = .int zi26 := Eq.trans (Fr.at (cq := 74000) F1723 kd21 (cd_a (by decide)) (by decide)) eq1719
              have eq1732 : hp1721 qa900 56 = .ref qa5 := Eq.trans (Fr.at (cq := 13056) F1723 kd900 (cd_o (by decide)) (by decide)) eq1716
              have eq1733 : hp1721 qa5 (0 : Int32).toNatClampNeg = .int zi1547 := Eq.trans (Fr.at (cq := 95000) F1723 kd6 (cd_a (by decide)) (by decide)) eq1546
              have eq1734 : hp1721 qa5 (1 : Int32).toNatClampNeg = .int zi1549 := Eq.trans (Fr.at (cq := 95000) F1723 kd6 (cd_a (by decide)) (by decide)) eq1548
              have eq1735 : hp1721 qa5 (2 : Int32).toNatClampNeg = .int zi1551 := Eq.trans (Fr.at (cq := 95000) F1723 kd6 (cd_a (by decide)) (by decide)) eq1550
              have eq1736 : hp1721 qa5 (3 : Int32).toNatClampNeg = .int zi1553 := Eq.trans (Fr.at (cq := 95000) F1723 kd6 (cd_a (by decide)) (by decide)) eq1552
              refine lv_if_eq (tgt := 69) hx hb dX12_findsAhead_64 (by decide) (fun cn1727 => ?_) (fun cn1727 => ?_)
              · skip
                have bd1737 : (0 : Int) ≤ zi1725.toInt ∧ zi1725.toInt ≤ 0 := r_eq_x cn1727 bd1726 bc_0 (by decide) (by decide)
                refine lv_aload_n hx hb dX12_findsAhead_69 rfl (lv_at hl 0 rfl) ?_
                refine kq_i hw hS hA (va_runV (As := []) (rest := []) ⟨hx, hb, hml, hown, hT⟩ (cX12_nextRow_0 l G cy ev K ln Ls hW _ hp1721 ok1722 qa900 kd900 (by simp only [gi_of eq1728, ga_of eq1732 eq1733, ge_of eq1729 eq1730 eq1731]; have := toi bc_4; omega) (by simp only [gi_of eq1728, ga_of eq1732 eq1734, ge_of eq1729 eq1730 eq1731]; have := toi bc_4; omega) (by simp only [gi_of eq1728, ga_of eq1732 eq1735, ge_of eq1729 eq1730 eq1731]; have := toi bc_4; omega) (by simp only [gi_of eq1728, ga_of eq1732 eq1736, ge_of eq1729 eq1730 eq1731]; have := toi bc_4; omega) (by simp only [gi_of eq1728]; have := toi bc_4; omega) (by simp only [gi_of eq1728]; have := toi bc_4; omega)) (cwV 0 hT (good_V tb_1867 tb_1864 tb_1866 tb_96 tb_122) rfl rfl rfl (by decide +kernel) ⟨Nat.le_of_ble_eq_true rfl, Nat.le_of_ble_eq_true rfl⟩) (pool_preV (ci := 12) hK hE hS hA hw hW kd900 (by decide) rfl) rfl rfl hl.1 rfl (lv_room (Nat.le_of_ble_eq_true rfl)) dX12_findsAhead_70 ⟨Nat.le_of_ble_eq_true rfl, Nat.le_of_ble_eq_true rfl⟩) (fun zi1742 hp1738 H locs hq1741 hw hS => ?_)
                obtain ⟨ok1739, F1740, bd1743, rh1744, rh1745, rh1746, rh1747, rh1748⟩ := hq1741
                have hw : PW G cy K ln Ls A hp1738 H := hw
                have eq1750 : hp1738 qa900 55 = .int 4 := Eq.trans (Fr.at (cq := 13055) F1740 kd900 (cd_o (by decide)) (by decide)) eq1728
                have eq1751 : hp1738 qa900 28 = .ref qa20 := Eq.trans (Fr.at (cq := 13028) F1740 kd900 (cd_o (by decide)) (by decide)) eq1729
                have eq1752 : hp1738 qa900 18 = .int zi23 := Eq.trans (Fr.at (cq := 13018) F1740 kd900 (cd_o (by decide)) (by decide)) eq1730
                have eq1753 : hp1738 qa20 (zi23 : Int32).toNatClampNeg = .int zi26 := Eq.trans (Fr.at (cq := 74000) F1740 kd21 (cd_a (by decide)) (by decide)) eq1731
                have eq1754 : hp1738 qa900 56 = .ref qa5 := Eq.trans (Fr.at (cq := 13056) F1740 kd900 (cd_o (by decide)) (by decide)) eq1732
                obtain ⟨zi1756, eq1755, bd1757⟩ := rd_95000 ok1739 kd6 ((0 : Int32).toNatClampNeg)
                obtain ⟨zi1759, eq1758, bd1760⟩ := rd_95000 ok1739 kd6 ((1 : Int32).toNatClampNeg)
                obtain ⟨zi1762, eq1761, bd1763⟩ := rd_95000 ok1739 kd6 ((2 : Int32).toNatClampNeg)
                obtain ⟨zi1765, eq1764, bd1766⟩ := rd_95000 ok1739 kd6 ((3 : Int32).toNatClampNeg)
                rcases b01 bd1743 with cn1749 | cn1749
                · skip
                  subst cn1749
                  refine lv_istore_n (lv' := [(3, .int 0), (0, .ref qa900), (1, .int zi901), (2, .int zi902)]) hx hb dX12_findsAhead_73 rfl hl (by decide) rfl (fun ls hl => ?_)
                  refine lv_goto (tgt := 54) hx hb dX12_findsAhead_74 (by decide) ?_
                  refine lv_iload_n hx hb dX12_findsAhead_54 rfl (lv_at hl 0 rfl) ?_
                  refine lv_if_eq (tgt := 77) hx hb dX12_findsAhead_55 (by decide) (fun _ => ?_) (fun c => absurd (d_eq bc_0 bc_0) c)
                  exact jn1701 hp1738 zi1756 zi1759 zi1762 zi1765 _ _ ls ok1739 (Fr.tr (Fr.tr (Fr.tr (Fr.rf) F1544 (by decide)) F1723 (by decide)) F1740 (by decide)) (b_wid2 bd1757 (by decide) (by decide)) eq1755 (b_wid2 bd1760 (by decide) (by decide)) eq1758 (b_wid2 bd1763 (by decide) (by decide)) eq1761 (b_wid2 bd1766 (by decide) (by decide)) eq1764 (lv_sub hl [1, 2, 3] rfl) hw hS
                · skip
                  subst cn1749
                  have rh1767 := rh1744 rfl
                  simp only [ga_of eq1754 eq1755, ge_of eq1751 eq1752 eq1753, gi_of eq1750, toi bc_4] at rh1767
                  have rh1768 := rh1745 rfl
                  simp only [ga_of eq1754 eq1758, ge_of eq1751 eq1752 eq1753, gi_of eq1750, toi bc_4] at rh1768
                  have rh1769 := rh1746 rfl
                  simp only [ga_of eq1754 eq1761, ge_of eq1751 eq1752 eq1753, gi_of eq1750, toi bc_4] at rh1769
                  have rh1770 := rh1747 rfl
                  simp only [ga_of eq1754 eq1764, ge_of eq1751 eq1752 eq1753, gi_of eq1750, toi bc_4] at rh1770
                  have rh1771 := rh1748 rfl
                  simp only [ga_of eq1732 eq1733, ga_of eq1732 eq1734, ga_of eq1732 eq1735, ga_of eq1732 eq1736, ga_of eq1754 eq1755, ga_of eq1754 eq1758, ga_of eq1754 eq1761, ga_of eq1754 eq1764] at rh1771
                  refine lv_istore_n (lv' := [(3, .int 1), (0, .ref qa900), (1, .int zi901), (2, .int zi902)]) hx hb dX12_findsAhead_73 rfl hl (by decide) rfl (fun ls hl => ?_)
                  refine lv_goto (tgt := 54) hx hb dX12_findsAhead_74 (by decide) ?_
                  exact ih1707 hp1738 zi1756 zi1759 zi1762 zi1765 _ _ ls (by have := toi bc_1; have := hm1709; omega) ok1739 (Fr.tr (Fr.tr (Fr.tr (Fr.rf) F1544 (by decide)) F1723 (by decide)) F1740 (by decide)) (b_wid2 bd1757 (by decide) (by decide)) eq1755 (b_wid2 bd1760 (by decide) (by decide)) eq1758 (b_wid2 bd1763 (by decide) (by decide)) eq1761 (b_wid2 bd1766 (by decide) (by decide)) eq1764 (by have := toi bc_1; have := toi bc_4; omega) (by have := toi bc_1; have := toi bc_4; omega) (by have := toi bc_1; have := toi bc_4; omega) (by have := toi bc_1; have := toi bc_4; omega) (lv_sub hl [1, 2, 3, 0] rfl) hw hS
              · skip
                have tf1772 : (zi1725 : Int32).toInt ≠ (0 : Int32).toInt := fun e => cn1727 (Int32.toInt_inj.mp e)
                have := toi bc_0
                have bd1773 : (1 : Int) ≤ zi1725.toInt ∧ zi1725.toInt ≤ 1 := r_ne_lo cn1727 bd1726 (toi bc_0) (by decide) (by decide)
                refine lv_iconst (v := 1) hx hb dX12_findsAhead_67 (by decide) ?_
                rw [hQ]
                exact kz_i hx hb hr hlocks hS (nz_n bc_1 (by decide) (by decide)) hp1721 hw ⟨ok1722, (Fr.tr (Fr.tr (Fr.put (cq := 95000) (Fr.put (cq := 95000) (Fr.put (cq := 95000) (Fr.put (cq := 95000) (Fr.put (cq := 13055) (Fr.tr (Fr.put (cq := 95000) (Fr.put (cq := 95000) (Fr.put (cq := 95000) (Fr.put (cq := 13055) (Fr.tr (Fr.put (cq := 95000) (Fr.put (cq := 95000) (Fr.put (cq := 13055) (Fr.tr (Fr.put (cq := 95000) (Fr.put (cq := 13055) (Fr.rf) eh29 kd900 (cd_o (by decide)) (by decide)) eh33 kd6 (cd_a (by decide)) (by decide)) F481 (by decide)) eh501 kd900 (cd_o (by decide)) (by decide)) eh505 kd6 (cd_a (by decide)) (by decide)) eh510 kd6 (cd_a (by decide)) (by decide)) F877 (by decide)) eh897 kd900 (cd_o (by decide)) (by decide)) eh901 kd6 (cd_a (by decide)) (by decide)) eh906 kd6 (cd_a (by decide)) (by decide)) eh911 kd6 (cd_a (by decide)) (by decide)) F1278 (by decide)) eh1298 kd900 (cd_o (by decide)) (by decide)) eh1302 kd6 (cd_a (by decide)) (by decide)) eh1307 kd6 (cd_a (by decide)) (by decide)) eh1312 kd6 (cd_a (by decide)) (by decide)) eh1317 kd6 (cd_a (by decide)) (by decide)) F1544 (by decide)) F1723 (by decide)), (b_wid2 bc_1 (by decide) (by decide)), ⟨_, eq1728, b_wid2 bc_4 (by decide) (by decide)⟩, (fun h => absurd h (by decide)), (fun _ => ⟨_, eq1728, b_wid2 bc_4 (by decide) (by decide)⟩), (fun _ => by simp only [ga_of eq1732 eq1733, ge_of eq1729 eq1730 eq1731, gi_of eq1728]; have := toi bc_4; omega), (fun _ => by simp only [ga_of eq1732 eq1734, ge_of eq1729 eq1730 eq1731, gi_of eq1728]; have := toi bc_4; omega), (fun _ => by simp only [ga_of eq1732 eq1735, ge_of eq1729 eq1730 eq1731, gi_of eq1728]; have := toi bc_4; omega), (fun _ => by simp only [ga_of eq1732 eq1736, ge_of eq1729 eq1730 eq1731, gi_of eq1728]; have := toi bc_4; omega), (fun _ => by simp only [gi_of eq1728]; have := toi bc_4; omega), (fun _ => by simp only [gi_of eq1728]; have := toi bc_4; omega)⟩ (Nat.le_of_ble_eq_true rfl) (Nat.le_of_ble_eq_true rfl) dX12_findsAhead_68
          exact lp1708 _ hp1316 0 0 0 0 _ _ ls (lp_in _) ok1318 (Fr.rf) (b_wid2 bc_0 (by decide) (by decide)) eq1324 (b_wid2 bc_0 (by decide) (by decide)) eq1325 (b_wid2 bc_0 (by decide) (by decide)) eq1326 (b_wid2 bc_0 (by decide) (by decide)) (hp_self eh1317) (by have := toi bc_0; have := toi bc_1; have := toi bc_4; omega) (by have := toi bc_0; have := toi bc_1; have := toi bc_4; omega) (by have := toi bc_0; have := toi bc_1; have := toi bc_4; omega) (by have := toi bc_0; have := toi bc_1; have := toi bc_4; omega) (lv_sub hl [1, 2, 3, 0] rfl) hw hS
        have lp1776 : ∀ (n1774 : Nat) (hp1137 : Nat → Nat → Value) (zi1141 : Int32) (zi1143 : Int32) (zi1145 : Int32) (zi1147 : Int32) (H : Heap) (locs : List Loc) (ls : Array Slot), 140000 - (8000*zi1141.toInt + 400*zi1143.toInt + 20*zi1145.toInt + zi1147.toInt) < (n1774 : Int) → Ok K hp1137 → Fr [13048, 13051, 90000, 91000, 93000, 95000] K hp910 hp1137 → ((-1 : Int) ≤ zi1141.toInt ∧ zi1141.toInt ≤ 16) → hp1137 qa5 (0 : Int32).toNatClampNeg = .int zi1141 → ((-1 : Int) ≤ zi1143.toInt ∧ zi1143.toInt ≤ 16) → hp1137 qa5 (1 : Int32).toNatClampNeg = .int zi1143 → ((-1 : Int) ≤ zi1145.toInt ∧ zi1145.toInt ≤ 16) → hp1137 qa5 (2 : Int32).toNatClampNeg = .int zi1145 → ((-1 : Int) ≤ zi1147.toInt ∧ zi1147.toInt ≤ 16) → hp1137 qa5 (3 : Int32).toNatClampNeg = .int zi1147 → ((3 : Int32).toInt ≤ 0 ∨ (0 ≤ zi1141.toInt ∧ zi1141.toInt ≤ zi26.toInt - 1)) → ((3 : Int32).toInt ≤ 1 ∨ (0 ≤ zi1143.toInt ∧ zi1143.toInt ≤ zi26.toInt - 1)) → ((3 : Int32).toInt ≤ 2 ∨ (0 ≤ zi1145.toInt ∧ zi1145.toInt ≤ zi26.toInt - 1)) → ((3 : Int32).toInt ≤ 3 ∨ (0 ≤ zi1147.toInt ∧ zi1147.toInt ≤ zi26.toInt - 1)) → lv_has ls 4 [(0, .ref qa900), (1, .int zi901), (2, .int zi902), (3, .int 1)] → PW G cy K ln Ls A hp1137 H → va_S A s.heap H locs → W p l e ({ frames := 5, cells := 0, slots := 0, locals := 126 } : Room) s m ([.ref qa900, .int zi901, .int zi902] : List Value).toArray below meth c H locs 0 0 Q (F0 m 54 ls []) := by
          intro n1774
          induction n1774 with
          | zero =>
            intro hp1137 zi1141 zi1143 zi1145 zi1147 H locs ls hm1777 ok1139 F1138 bd1152 eq1140 bd1153 eq1142 bd1154 eq1144 bd1155 eq1146 rq1148 rq1149 rq1150 rq1151 hl hw hS
            exact absurd hm1777 (by omega)
          | succ n1774 ih1775 =>
            intro hp1137 zi1141 zi1143 zi1145 zi1147 H locs ls hm1777 ok1139 F1138 bd1152 eq1140 bd1153 eq1142 bd1154 eq1144 bd1155 eq1146 rq1148 rq1149 rq1150 rq1151 hl hw hS
            refine lv_iload_n hx hb dX12_findsAhead_54 rfl (lv_at hl 3 rfl) ?_
            refine lv_if_eq (tgt := 77) hx hb dX12_findsAhead_55 (by decide) (fun c => absurd c (d_ne bc_1 bc_0 (by decide))) (fun _ => ?_)
            refine lv_aload_n hx hb dX12_findsAhead_58 rfl (lv_at hl 0 rfl) ?_
            refine lv_iload_n hx hb dX12_findsAhead_59 rfl (lv_at hl 1 rfl) ?_
            refine lv_iload_n hx hb dX12_findsAhead_60 rfl (lv_at hl 2 rfl) ?_
            have eq1783 : hp1137 qa900 55 = .int 3 := Eq.trans (Fr.at (cq := 13055) F1138 kd900 (cd_o (by decide)) (by decide)) eq913
            have eq1784 : hp1137 qa900 56 = .ref qa5 := Eq.trans (Fr.at (cq := 13056) F1138 kd900 (cd_o (by decide)) (by decide)) eq917
            have eq1785 : hp1137 qa900 28 = .ref qa20 := Eq.trans (Fr.at (cq := 13028) F1138 kd900 (cd_o (by decide)) (by decide)) eq914
            have eq1786 : hp1137 qa900 18 = .int zi23 := Eq.trans (Fr.at (cq := 13018) F1138 kd900 (cd_o (by decide)) (by decide)) eq915
            have eq1787 : hp1137 qa20 (zi23 : Int32).toNatClampNeg = .int zi26 := Eq.trans (Fr.at (cq := 74000) F1138 kd21 (cd_a (by decide)) (by decide)) eq916
            have pd1788 : LW hp1137 qa900 := LW_fr ok0 kd900 (show Fr [13048, 13051, 13055, 90000, 91000, 93000, 95000] K hp0 hp1137 from (Fr.tr (Fr.put (cq := 95000) (Fr.put (cq := 95000) (Fr.put (cq := 95000) (Fr.put (cq := 13055) (Fr.tr (Fr.put (cq := 95000) (Fr.put (cq := 95000) (Fr.put (cq := 13055) (Fr.tr (Fr.put (cq := 95000) (Fr.put (cq := 13055) (Fr.rf) eh29 kd900 (cd_o (by decide)) (by decide)) eh33 kd6 (cd_a (by decide)) (by decide)) F481 (by decide)) eh501 kd900 (cd_o (by decide)) (by decide)) eh505 kd6 (cd_a (by decide)) (by decide)) eh510 kd6 (cd_a (by decide)) (by decide)) F877 (by decide)) eh897 kd900 (cd_o (by decide)) (by decide)) eh901 kd6 (cd_a (by decide)) (by decide)) eh906 kd6 (cd_a (by decide)) (by decide)) eh911 kd6 (cd_a (by decide)) (by decide)) F1138 (by decide))) (by decide) pdLW
            refine kq_i hw hS hA (va_runV (As := [.int zi901, .int zi902]) (rest := []) ⟨hx, hb, hml, hown, hT⟩ (cX12_isAhead_0 l G cy ev K ln Ls hW _ hp1137 ok1139 qa900 zi901 zi902 kd900 (b_wid2 bd901 (by decide) (by decide)) (b_wid2 bd902 (by decide) (by decide)) (by simp only [gi_of eq1783, ga_of eq1784 eq1140, ge_of eq1785 eq1786 eq1787]; have := toi bc_3; omega) (by simp only [gi_of eq1783, ga_of eq1784 eq1142, ge_of eq1785 eq1786 eq1787]; have := toi bc_3; omega) (by simp only [gi_of eq1783, ga_of eq1784 eq1144, ge_of eq1785 eq1786 eq1787]; have := toi bc_3; omega) (by simp only [gi_of eq1783, ga_of eq1784 eq1146, ge_of eq1785 eq1786 eq1787]; have := toi bc_3; omega) (by simp only [gi_of eq1783]; have := toi bc_3; omega) (by simp only [gi_of eq1783]; have := toi bc_3; omega) pd1788) (cwV 2 hT (good_V tb_1863 tb_1860 tb_1862 tb_95 tb_122) rfl rfl rfl (by decide +kernel) ⟨Nat.le_of_ble_eq_true rfl, Nat.le_of_ble_eq_true rfl⟩) (pool_preV (ci := 12) hK hE hS hA hw hW kd900 (by decide) rfl) rfl rfl hl.1 rfl (lv_room (Nat.le_of_ble_eq_true rfl)) dX12_findsAhead_61 ⟨Nat.le_of_ble_eq_true rfl, Nat.le_of_ble_eq_true rfl⟩) (fun zi1793 hp1789 H locs hq1792 hw hS => ?_)
            obtain ⟨ok1790, F1791, bd1794⟩ := hq1792
            have hw : PW G cy K ln Ls A hp1789 H := hw
            have eq1796 : hp1789 qa900 55 = .int 3 := Eq.trans (Fr.at (cq := 13055) F1791 kd900 (cd_o (by decide)) (by decide)) eq1783
            have eq1797 : hp1789 qa900 28 = .ref qa20 := Eq.trans (Fr.at (cq := 13028) F1791 kd900 (cd_o (by decide)) (by decide)) eq1785
            have eq1798 : hp1789 qa900 18 = .int zi23 := Eq.trans (Fr.at (cq := 13018) F1791 kd900 (cd_o (by decide)) (by decide)) eq1786
            have eq1799 : hp1789 qa20 (zi23 : Int32).toNatClampNeg = .int zi26 := Eq.trans (Fr.at (cq := 74000) F1791 kd21 (cd_a (by decide)) (by decide)) eq1787
            have eq1800 : hp1789 qa900 56 = .ref qa5 := Eq.trans (Fr.at (cq := 13056) F1791 kd900 (cd_o (by decide)) (by decide)) eq1784
            have eq1801 : hp1789 qa5 (0 : Int32).toNatClampNeg = .int zi1141 := Eq.trans (Fr.at (cq := 95000) F1791 kd6 (cd_a (by decide)) (by decide)) eq1140
            have eq1802 : hp1789 qa5 (1 : Int32).toNatClampNeg = .int zi1143 := Eq.trans (Fr.at (cq := 95000) F1791 kd6 (cd_a (by decide)) (by decide)) eq1142
            have eq1803 : hp1789 qa5 (2 : Int32).toNatClampNeg = .int zi1145 := Eq.trans (Fr.at (cq := 95000) F1791 kd6 (cd_a (by decide)) (by decide)) eq1144
            have eq1804 : hp1789 qa5 (3 : Int32).toNatClampNeg = .int zi1147 := Eq.trans (Fr.at (cq := 95000) F1791 kd6 (cd_a (by decide)) (by decide)) eq1146
            refine lv_if_eq (tgt := 69) hx hb dX12_findsAhead_64 (by decide) (fun cn1795 => ?_) (fun cn1795 => ?_)
            · skip
              have bd1805 : (0 : Int) ≤ zi1793.toInt ∧ zi1793.toInt ≤ 0 := r_eq_x cn1795 bd1794 bc_0 (by decide) (by decide)
              refine lv_aload_n hx hb dX12_findsAhead_69 rfl (lv_at hl 0 rfl) ?_
              refine kq_i hw hS hA (va_runV (As := []) (rest := []) ⟨hx, hb, hml, hown, hT⟩ (cX12_nextRow_0 l G cy ev K ln Ls hW _ hp1789 ok1790 qa900 kd900 (by simp only [gi_of eq1796, ga_of eq1800 eq1801, ge_of eq1797 eq1798 eq1799]; have := toi bc_3; omega) (by simp only [gi_of eq1796, ga_of eq1800 eq1802, ge_of eq1797 eq1798 eq1799]; have := toi bc_3; omega) (by simp only [gi_of eq1796, ga_of eq1800 eq1803, ge_of eq1797 eq1798 eq1799]; have := toi bc_3; omega) (by simp only [gi_of eq1796, ga_of eq1800 eq1804, ge_of eq1797 eq1798 eq1799]; have := toi bc_3; omega) (by simp only [gi_of eq1796]; have := toi bc_3; omega) (by simp only [gi_of eq1796]; have := toi bc_3; omega)) (cwV 0 hT (good_V tb_1867 tb_1864 tb_1866 tb_96 tb_122) rfl rfl rfl (by decide +kernel) ⟨Nat.le_of_ble_eq_true rfl, Nat.le_of_ble_eq_true rfl⟩) (pool_preV (ci := 12) hK hE hS hA hw hW kd900 (by decide) rfl) rfl rfl hl.1 rfl (lv_room (Nat.le_of_ble_eq_true rfl)) dX12_findsAhead_70 ⟨Nat.le_of_ble_eq_true rfl, Nat.le_of_ble_eq_true rfl⟩) (fun zi1810 hp1806 H locs hq1809 hw hS => ?_)
              obtain ⟨ok1807, F1808, bd1811, rh1812, rh1813, rh1814, rh1815, rh1816⟩ := hq1809
              have hw : PW G cy K ln Ls A hp1806 H := hw
              have eq1818 : hp1806 qa900 55 = .int 3 := Eq.trans (Fr.at (cq := 13055) F1808 kd900 (cd_o (by decide)) (by decide)) eq1796
              have eq1819 : hp1806 qa900 28 = .ref qa20 := Eq.trans (Fr.at (cq := 13028) F1808 kd900 (cd_o (by decide)) (by decide)) eq1797
              have eq1820 : hp1806 qa900 18 = .int zi23 := Eq.trans (Fr.at (cq := 13018) F1808 kd900 (cd_o (by decide)) (by decide)) eq1798
              have eq1821 : hp1806 qa20 (zi23 : Int32).toNatClampNeg = .int zi26 := Eq.trans (Fr.at (cq := 74000) F1808 kd21 (cd_a (by decide)) (by decide)) eq1799
              have eq1822 : hp1806 qa900 56 = .ref qa5 := Eq.trans (Fr.at (cq := 13056) F1808 kd900 (cd_o (by decide)) (by decide)) eq1800
              obtain ⟨zi1824, eq1823, bd1825⟩ := rd_95000 ok1807 kd6 ((0 : Int32).toNatClampNeg)
              obtain ⟨zi1827, eq1826, bd1828⟩ := rd_95000 ok1807 kd6 ((1 : Int32).toNatClampNeg)
              obtain ⟨zi1830, eq1829, bd1831⟩ := rd_95000 ok1807 kd6 ((2 : Int32).toNatClampNeg)
              obtain ⟨zi1833, eq1832, bd1834⟩ := rd_95000 ok1807 kd6 ((3 : Int32).toNatClampNeg)
              rcases b01 bd1811 with cn1817 | cn1817
              · skip
                subst cn1817
                refine lv_istore_n (lv' := [(3, .int 0), (0, .ref qa900), (1, .int zi901), (2, .int zi902)]) hx hb dX12_findsAhead_73 rfl hl (by decide) rfl (fun ls hl => ?_)
                refine lv_goto (tgt := 54) hx hb dX12_findsAhead_74 (by decide) ?_
                refine lv_iload_n hx hb dX12_findsAhead_54 rfl (lv_at hl 0 rfl) ?_
                refine lv_if_eq (tgt := 77) hx hb dX12_findsAhead_55 (by decide) (fun _ => ?_) (fun c => absurd (d_eq bc_0 bc_0) c)
                exact jn1295 hp1806 zi1824 zi1827 zi1830 zi1833 _ _ ls ok1807 (Fr.tr (Fr.tr (Fr.tr (Fr.rf) F1138 (by decide)) F1791 (by decide)) F1808 (by decide)) (b_wid2 bd1825 (by decide) (by decide)) eq1823 (b_wid2 bd1828 (by decide) (by decide)) eq1826 (b_wid2 bd1831 (by decide) (by decide)) eq1829 (b_wid2 bd1834 (by decide) (by decide)) eq1832 (lv_sub hl [1, 2, 3] rfl) hw hS
              · skip
                subst cn1817
                have rh1835 := rh1812 rfl
                simp only [ga_of eq1822 eq1823, ge_of eq1819 eq1820 eq1821, gi_of eq1818, toi bc_3] at rh1835
                have rh1836 := rh1813 rfl
                simp only [ga_of eq1822 eq1826, ge_of eq1819 eq1820 eq1821, gi_of eq1818, toi bc_3] at rh1836
                have rh1837 := rh1814 rfl
                simp only [ga_of eq1822 eq1829, ge_of eq1819 eq1820 eq1821, gi_of eq1818, toi bc_3] at rh1837
                have rh1838 := rh1815 rfl
                simp only [ga_of eq1822 eq1832, ge_of eq1819 eq1820 eq1821, gi_of eq1818, toi bc_3] at rh1838
                have rh1839 := rh1816 rfl
                simp only [ga_of eq1800 eq1801, ga_of eq1800 eq1802, ga_of eq1800 eq1803, ga_of eq1800 eq1804, ga_of eq1822 eq1823, ga_of eq1822 eq1826, ga_of eq1822 eq1829, ga_of eq1822 eq1832] at rh1839
                refine lv_istore_n (lv' := [(3, .int 1), (0, .ref qa900), (1, .int zi901), (2, .int zi902)]) hx hb dX12_findsAhead_73 rfl hl (by decide) rfl (fun ls hl => ?_)
                refine lv_goto (tgt := 54) hx hb dX12_findsAhead_74 (by decide) ?_
                exact ih1775 hp1806 zi1824 zi1827 zi1830 zi1833 _ _ ls (by have := toi bc_1; have := hm1777; omega) ok1807 (Fr.tr (Fr.tr (Fr.tr (Fr.rf) F1138 (by decide)) F1791 (by decide)) F1808 (by decide)) (b_wid2 bd1825 (by decide) (by decide)) eq1823 (b_wid2 bd1828 (by decide) (by decide)) eq1826 (b_wid2 bd1831 (by decide) (by decide)) eq1829 (b_wid2 bd1834 (by decide) (by decide)) eq1832 (by have := toi bc_1; have := toi bc_3; omega) (by have := toi bc_1; have := toi bc_3; omega) (by have := toi bc_1; have := toi bc_3; omega) (by have := toi bc_1; have := toi bc_3; omega) (lv_sub hl [1, 2, 3, 0] rfl) hw hS
            · skip
              have tf1840 : (zi1793 : Int32).toInt ≠ (0 : Int32).toInt := fun e => cn1795 (Int32.toInt_inj.mp e)
              have := toi bc_0
              have bd1841 : (1 : Int) ≤ zi1793.toInt ∧ zi1793.toInt ≤ 1 := r_ne_lo cn1795 bd1794 (toi bc_0) (by decide) (by decide)
              refine lv_iconst (v := 1) hx hb dX12_findsAhead_67 (by decide) ?_
              rw [hQ]
              exact kz_i hx hb hr hlocks hS (nz_n bc_1 (by decide) (by decide)) hp1789 hw ⟨ok1790, (Fr.tr (Fr.tr (Fr.put (cq := 95000) (Fr.put (cq := 95000) (Fr.put (cq := 95000) (Fr.put (cq := 13055) (Fr.tr (Fr.put (cq := 95000) (Fr.put (cq := 95000) (Fr.put (cq := 13055) (Fr.tr (Fr.put (cq := 95000) (Fr.put (cq := 13055) (Fr.rf) eh29 kd900 (cd_o (by decide)) (by decide)) eh33 kd6 (cd_a (by decide)) (by decide)) F481 (by decide)) eh501 kd900 (cd_o (by decide)) (by decide)) eh505 kd6 (cd_a (by decide)) (by decide)) eh510 kd6 (cd_a (by decide)) (by decide)) F877 (by decide)) eh897 kd900 (cd_o (by decide)) (by decide)) eh901 kd6 (cd_a (by decide)) (by decide)) eh906 kd6 (cd_a (by decide)) (by decide)) eh911 kd6 (cd_a (by decide)) (by decide)) F1138 (by decide)) F1791 (by decide)), (b_wid2 bc_1 (by decide) (by decide)), ⟨_, eq1796, b_wid2 bc_3 (by decide) (by decide)⟩, (fun h => absurd h (by decide)), (fun _ => ⟨_, eq1796, b_wid2 bc_3 (by decide) (by decide)⟩), (fun _ => by simp only [ga_of eq1800 eq1801, ge_of eq1797 eq1798 eq1799, gi_of eq1796]; have := toi bc_3; omega), (fun _ => by simp only [ga_of eq1800 eq1802, ge_of eq1797 eq1798 eq1799, gi_of eq1796]; have := toi bc_3; omega), (fun _ => by simp only [ga_of eq1800 eq1803, ge_of eq1797 eq1798 eq1799, gi_of eq1796]; have := toi bc_3; omega), (fun _ => by simp only [ga_of eq1800 eq1804, ge_of eq1797 eq1798 eq1799, gi_of eq1796]; have := toi bc_3; omega), (fun _ => by simp only [gi_of eq1796]; have := toi bc_3; omega), (fun _ => by simp only [gi_of eq1796]; have := toi bc_3; omega)⟩ (Nat.le_of_ble_eq_true rfl) (Nat.le_of_ble_eq_true rfl) dX12_findsAhead_68
        exact lp1776 _ hp910 0 0 0 zi886 _ _ ls (lp_in _) ok912 (Fr.rf) (b_wid2 bc_0 (by decide) (by decide)) eq918 (b_wid2 bc_0 (by decide) (by decide)) eq919 (b_wid2 bc_0 (by decide) (by decide)) (hp_self eh911) (b_wid2 bd890 (by decide) (by decide)) eq920 (by have := toi bc_0; have := toi bc_1; have := toi bc_3; omega) (by have := toi bc_0; have := toi bc_1; have := toi bc_3; omega) (by have := toi bc_0; have := toi bc_1; have := toi bc_3; omega) (by have := toi bc_0; have := toi bc_1; have := toi bc_3; omega) (lv_sub hl [1, 2, 3, 0] rfl) hw hS
      have lp1844 : ∀ (n1842 : Nat) (hp736 : Nat → Nat → Value) (zi740 : Int32) (zi742 : Int32) (zi744 : Int32) (zi746 : Int32) (H : Heap) (locs : List Loc) (ls : Array Slot), 140000 - (8000*zi740.toInt + 400*zi742.toInt + 20*zi744.toInt + zi746.toInt) < (n1842 : Int) → Ok K hp736 → Fr [13048, 13051, 90000, 91000, 93000, 95000] K hp509 hp736 → ((-1 : Int) ≤ zi740.toInt ∧ zi740.toInt ≤ 16) → hp736 qa5 (0 : Int32).toNatClampNeg = .int zi740 → ((-1 : Int) ≤ zi742.toInt ∧ zi742.toInt ≤ 16) → hp736 qa5 (1 : Int32).toNatClampNeg = .int zi742 → ((-1 : Int) ≤ zi744.toInt ∧ zi744.toInt ≤ 16) → hp736 qa5 (2 : Int32).toNatClampNeg = .int zi744 → ((-1 : Int) ≤ zi746.toInt ∧ zi746.toInt ≤ 16) → hp736 qa5 (3 : Int32).toNatClampNeg = .int zi746 → ((2 : Int32).toInt ≤ 0 ∨ (0 ≤ zi740.toInt ∧ zi740.toInt ≤ zi26.toInt - 1)) → ((2 : Int32).toInt ≤ 1 ∨ (0 ≤ zi742.toInt ∧ zi742.toInt ≤ zi26.toInt - 1)) → ((2 : Int32).toInt ≤ 2 ∨ (0 ≤ zi744.toInt ∧ zi744.toInt ≤ zi26.toInt - 1)) → ((2 : Int32).toInt ≤ 3 ∨ (0 ≤ zi746.toInt ∧ zi746.toInt ≤ zi26.toInt - 1)) → lv_has ls 4 [(0, .ref qa900), (1, .int zi901), (2, .int zi902), (3, .int 1)] → PW G cy K ln Ls A hp736 H → va_S A s.heap H locs → W p l e ({ frames := 5, cells := 0, slots := 0, locals := 126 } : Room) s m ([.ref qa900, .int zi901, .int zi902] : List Value).toArray below meth c H locs 0 0 Q (F0 m 54 ls []) := by
        intro n1842
        induction n1842 with
        | zero =>
          intro hp736 zi740 zi742 zi744 zi746 H locs ls hm1845 ok738 F737 bd751 eq739 bd752 eq741 bd753 eq743 bd754 eq745 rq747 rq748 rq749 rq750 hl hw hS
          exact absurd hm1845 (by omega)
        | succ n1842 ih1843 =>
          intro hp736 zi740 zi742 zi744 zi746 H locs ls hm1845 ok738 F737 bd751 eq739 bd752 eq741 bd753 eq743 bd754 eq745 rq747 rq748 rq749 rq750 hl hw hS
          refine lv_iload_n hx hb dX12_findsAhead_54 rfl (lv_at hl 3 rfl) ?_
          refine lv_if_eq (tgt := 77) hx hb dX12_findsAhead_55 (by decide) (fun c => absurd c (d_ne bc_1 bc_0 (by decide))) (fun _ => ?_)
          refine lv_aload_n hx hb dX12_findsAhead_58 rfl (lv_at hl 0 rfl) ?_
          refine lv_iload_n hx hb dX12_findsAhead_59 rfl (lv_at hl 1 rfl) ?_
          refine lv_iload_n hx hb dX12_findsAhead_60 rfl (lv_at hl 2 rfl) ?_
          have eq1851 : hp736 qa900 55 = .int 2 := Eq.trans (Fr.at (cq := 13055) F737 kd900 (cd_o (by decide)) (by decide)) eq512
          have eq1852 : hp736 qa900 56 = .ref qa5 := Eq.trans (Fr.at (cq := 13056) F737 kd900 (cd_o (by decide)) (by decide)) eq516
          have eq1853 : hp736 qa900 28 = .ref qa20 := Eq.trans (Fr.at (cq := 13028) F737 kd900 (cd_o (by decide)) (by decide)) eq513
          have eq1854 : hp736 qa900 18 = .int zi23 := Eq.trans (Fr.at (cq := 13018) F737 kd900 (cd_o (by decide)) (by decide)) eq514
          have eq1855 : hp736 qa20 (zi23 : Int32).toNatClampNeg = .int zi26 := Eq.trans (Fr.at (cq := 74000) F737 kd21 (cd_a (by decide)) (by decide)) eq515
          have pd1856 : LW hp736 qa900 := LW_fr ok0 kd900 (show Fr [13048, 13051, 13055, 90000, 91000, 93000, 95000] K hp0 hp736 from (Fr.tr (Fr.put (cq := 95000) (Fr.put (cq := 95000) (Fr.put (cq := 13055) (Fr.tr (Fr.put (cq := 95000) (Fr.put (cq := 13055) (Fr.rf) eh29 kd900 (cd_o (by decide)) (by decide)) eh33 kd6 (cd_a (by decide)) (by decide)) F481 (by decide)) eh501 kd900 (cd_o (by decide)) (by decide)) eh505 kd6 (cd_a (by decide)) (by decide)) eh510 kd6 (cd_a (by decide)) (by decide)) F737 (by decide))) (by decide) pdLW
          refine kq_i hw hS hA (va_runV (As := [.int zi901, .int zi902]) (rest := []) ⟨hx, hb, hml, hown, hT⟩ (cX12_isAhead_0 l G cy ev K ln Ls hW _ hp736 ok738 qa900 zi901 zi902 kd900 (b_wid2 bd901 (by decide) (by decide)) (b_wid2 bd902 (by decide) (by decide)) (by simp only [gi_of eq1851, ga_of eq1852 eq739, ge_of eq1853 eq1854 eq1855]; have := toi bc_2; omega) (by simp only [gi_of eq1851, ga_of eq1852 eq741, ge_of eq1853 eq1854 eq1855]; have := toi bc_2; omega) (by simp only [gi_of eq1851, ga_of eq1852 eq743, ge_of eq1853 eq1854 eq1855]; have := toi bc_2; omega) (by simp only [gi_of eq1851, ga_of eq1852 eq745, ge_of eq1853 eq1854 eq1855]; have := toi bc_2; omega) (by simp only [gi_of eq1851]; have := toi bc_2; omega) (by simp only [gi_of eq1851]; have := toi bc_2; omega) pd1856) (cwV 2 hT (good_V tb_1863 tb_1860 tb_1862 tb_95 tb_122) rfl rfl rfl (by decide +kernel) ⟨Nat.le_of_ble_eq_true rfl, Nat.le_of_ble_eq_true rfl⟩) (pool_preV (ci := 12) hK hE hS hA hw hW kd900 (by decide) rfl) rfl rfl hl.1 rfl (lv_room (Nat.le_of_ble_eq_true rfl)) dX12_findsAhead_61 ⟨Nat.le_of_ble_eq_true rfl, Nat.le_of_ble_eq_true rfl⟩) (fun zi1861 hp1857 H locs hq1860 hw hS => ?_)
          obtain ⟨ok1858, F1859, bd1862⟩ := hq1860
          have hw : PW G cy K ln Ls A hp1857 H := hw
          have eq1864 : hp1857 qa900 55 = .int 2 := Eq.trans (Fr.at (cq := 13055) F1859 kd900 (cd_o (by decide)) (by decide)) eq1851
          have eq1865 : hp1857 qa900 28 = .ref qa20 := Eq.trans (Fr.at (cq := 13028) F1859 kd900 (cd_o (by decide)) (by decide)) eq1853
          have eq1866 : hp1857 qa900 18 = .int zi23 := Eq.trans (Fr.at (cq := 13018) F1859 kd900 (cd_o (by decide)) (by decide)) eq1854
          have eq1867 : hp1857 qa20 (zi23 : Int32).toNatClampNeg = .int zi26 := Eq.trans (Fr.at (cq := 74000) F1859 kd21 (cd_a (by decide)) (by decide)) eq1855
          have eq1868 : hp1857 qa900 56 = .ref qa5 := Eq.trans (Fr.at (cq := 13056) F1859 kd900 (cd_o (by decide)) (by decide)) eq1852
          have eq1869 : hp1857 qa5 (0 : Int32).toNatClampNeg = .int zi740 := Eq.trans (Fr.at (cq := 95000) F1859 kd6 (cd_a (by decide)) (by decide)) eq739
          have eq1870 : hp1857 qa5 (1 : Int32).toNatClampNeg = .int zi742 := Eq.trans (Fr.at (cq := 95000) F1859 kd6 (cd_a (by decide)) (by decide)) eq741
          have eq1871 : hp1857 qa5 (2 : Int32).toNatClampNeg = .int zi744 := Eq.trans (Fr.at (cq := 95000) F1859 kd6 (cd_a (by decide)) (by decide)) eq743
          have eq1872 : hp1857 qa5 (3 : Int32).toNatClampNeg = .int zi746 := Eq.trans (Fr.at (cq := 95000) F1859 kd6 (cd_a (by decide)) (by decide)) eq745
          refine lv_if_eq (tgt := 69) hx hb dX12_findsAhead_64 (by decide) (fun cn1863 => ?_) (fun cn1863 => ?_)
          · skip
            have bd1873 : (0 : Int) ≤ zi1861.toInt ∧ zi1861.toInt ≤ 0 := r_eq_x cn1863 bd1862 bc_0 (by decide) (by decide)
            refine lv_aload_n hx hb dX12_findsAhead_69 rfl (lv_at hl 0 rfl) ?_
            refine kq_i hw hS hA (va_runV (As := []) (rest := []) ⟨hx, hb, hml, hown, hT⟩ (cX12_nextRow_0 l G cy ev K ln Ls hW _ hp1857 ok1858 qa900 kd900 (by simp only [gi_of eq1864, ga_of eq1868 eq1869, ge_of eq1865 eq1866 eq1867]; have := toi bc_2; omega) (by simp only [gi_of eq1864, ga_of eq1868 eq1870, ge_of eq1865 eq1866 eq1867]; have := toi bc_2; omega) (by simp only [gi_of eq1864, ga_of eq1868 eq1871, ge_of eq1865 eq1866 eq1867]; have := toi bc_2; omega) (by simp only [gi_of eq1864, ga_of eq1868 eq1872, ge_of eq1865 eq1866 eq1867]; have := toi bc_2; omega) (by simp only [gi_of eq1864]; have := toi bc_2; omega) (by simp only [gi_of eq1864]; have := toi bc_2; omega)) (cwV 0 hT (good_V tb_1867 tb_1864 tb_1866 tb_96 tb_122) rfl rfl rfl (by decide +kernel) ⟨Nat.le_of_ble_eq_true rfl, Nat.le_of_ble_eq_true rfl⟩) (pool_preV (ci := 12) hK hE hS hA hw hW kd900 (by decide) rfl) rfl rfl hl.1 rfl (lv_room (Nat.le_of_ble_eq_true rfl)) dX12_findsAhead_70 ⟨Nat.le_of_ble_eq_true rfl, Nat.le_of_ble_eq_true rfl⟩) (fun zi1878 hp1874 H locs hq1877 hw hS => ?_)
            obtain ⟨ok1875, F1876, bd1879, rh1880, rh1881, rh1882, rh1883, rh1884⟩ := hq1877
            have hw : PW G cy K ln Ls A hp1874 H := hw
            have eq1886 : hp1874 qa900 55 = .int 2 := Eq.trans (Fr.at (cq := 13055) F1876 kd900 (cd_o (by decide)) (by decide)) eq1864
            have eq1887 : hp1874 qa900 28 = .ref qa20 := Eq.trans (Fr.at (cq := 13028) F1876 kd900 (cd_o (by decide)) (by decide)) eq1865
            have eq1888 : hp1874 qa900 18 = .int zi23 := Eq.trans (Fr.at (cq := 13018) F1876 kd900 (cd_o (by decide)) (by decide)) eq1866
            have eq1889 : hp1874 qa20 (zi23 : Int32).toNatClampNeg = .int zi26 := Eq.trans (Fr.at (cq := 74000) F1876 kd21 (cd_a (by decide)) (by decide)) eq1867
            have eq1890 : hp1874 qa900 56 = .ref qa5 := Eq.trans (Fr.at (cq := 13056) F1876 kd900 (cd_o (by decide)) (by decide)) eq1868
            obtain ⟨zi1892, eq1891, bd1893⟩ := rd_95000 ok1875 kd6 ((0 : Int32).toNatClampNeg)
            obtain ⟨zi1895, eq1894, bd1896⟩ := rd_95000 ok1875 kd6 ((1 : Int32).toNatClampNeg)
            obtain ⟨zi1898, eq1897, bd1899⟩ := rd_95000 ok1875 kd6 ((2 : Int32).toNatClampNeg)
            obtain ⟨zi1901, eq1900, bd1902⟩ := rd_95000 ok1875 kd6 ((3 : Int32).toNatClampNeg)
            rcases b01 bd1879 with cn1885 | cn1885
            · skip
              subst cn1885
              refine lv_istore_n (lv' := [(3, .int 0), (0, .ref qa900), (1, .int zi901), (2, .int zi902)]) hx hb dX12_findsAhead_73 rfl hl (by decide) rfl (fun ls hl => ?_)
              refine lv_goto (tgt := 54) hx hb dX12_findsAhead_74 (by decide) ?_
              refine lv_iload_n hx hb dX12_findsAhead_54 rfl (lv_at hl 0 rfl) ?_
              refine lv_if_eq (tgt := 77) hx hb dX12_findsAhead_55 (by decide) (fun _ => ?_) (fun c => absurd (d_eq bc_0 bc_0) c)
              exact jn894 hp1874 zi1892 zi1895 zi1898 zi1901 _ _ ls ok1875 (Fr.tr (Fr.tr (Fr.tr (Fr.rf) F737 (by decide)) F1859 (by decide)) F1876 (by decide)) (b_wid2 bd1893 (by decide) (by decide)) eq1891 (b_wid2 bd1896 (by decide) (by decide)) eq1894 (b_wid2 bd1899 (by decide) (by decide)) eq1897 (b_wid2 bd1902 (by decide) (by decide)) eq1900 (lv_sub hl [1, 2, 3] rfl) hw hS
            · skip
              subst cn1885
              have rh1903 := rh1880 rfl
              simp only [ga_of eq1890 eq1891, ge_of eq1887 eq1888 eq1889, gi_of eq1886, toi bc_2] at rh1903
              have rh1904 := rh1881 rfl
              simp only [ga_of eq1890 eq1894, ge_of eq1887 eq1888 eq1889, gi_of eq1886, toi bc_2] at rh1904
              have rh1905 := rh1882 rfl
              simp only [ga_of eq1890 eq1897, ge_of eq1887 eq1888 eq1889, gi_of eq1886, toi bc_2] at rh1905
              have rh1906 := rh1883 rfl
              simp only [ga_of eq1890 eq1900, ge_of eq1887 eq1888 eq1889, gi_of eq1886, toi bc_2] at rh1906
              have rh1907 := rh1884 rfl
              simp only [ga_of eq1868 eq1869, ga_of eq1868 eq1870, ga_of eq1868 eq1871, ga_of eq1868 eq1872, ga_of eq1890 eq1891, ga_of eq1890 eq1894, ga_of eq1890 eq1897, ga_of eq1890 eq1900] at rh1907
              refine lv_istore_n (lv' := [(3, .int 1), (0, .ref qa900), (1, .int zi901), (2, .int zi902)]) hx hb dX12_findsAhead_73 rfl hl (by decide) rfl (fun ls hl => ?_)
              refine lv_goto (tgt := 54) hx hb dX12_findsAhead_74 (by decide) ?_
              exact ih1843 hp1874 zi1892 zi1895 zi1898 zi1901 _ _ ls (by have := toi bc_1; have := hm1845; omega) ok1875 (Fr.tr (Fr.tr (Fr.tr (Fr.rf) F737 (by decide)) F1859 (by decide)) F1876 (by decide)) (b_wid2 bd1893 (by decide) (by decide)) eq1891 (b_wid2 bd1896 (by decide) (by decide)) eq1894 (b_wid2 bd1899 (by decide) (by decide)) eq1897 (b_wid2 bd1902 (by decide) (by decide)) eq1900 (by have := toi bc_1; have := toi bc_2; omega) (by have := toi bc_1; have := toi bc_2; omega) (by have := toi bc_1; have := toi bc_2; omega) (by have := toi bc_1; have := toi bc_2; omega) (lv_sub hl [1, 2, 3, 0] rfl) hw hS
          · skip
            have tf1908 : (zi1861 : Int32).toInt ≠ (0 : Int32).toInt := fun e => cn1863 (Int32.toInt_inj.mp e)
            have := toi bc_0
            have bd1909 : (1 : Int) ≤ zi1861.toInt ∧ zi1861.toInt ≤ 1 := r_ne_lo cn1863 bd1862 (toi bc_0) (by decide) (by decide)
            refine lv_iconst (v := 1) hx hb dX12_findsAhead_67 (by decide) ?_
            rw [hQ]
            exact kz_i hx hb hr hlocks hS (nz_n bc_1 (by decide) (by decide)) hp1857 hw ⟨ok1858, (Fr.tr (Fr.tr (Fr.put (cq := 95000) (Fr.put (cq := 95000) (Fr.put (cq := 13055) (Fr.tr (Fr.put (cq := 95000) (Fr.put (cq := 13055) (Fr.rf) eh29 kd900 (cd_o (by decide)) (by decide)) eh33 kd6 (cd_a (by decide)) (by decide)) F481 (by decide)) eh501 kd900 (cd_o (by decide)) (by decide)) eh505 kd6 (cd_a (by decide)) (by decide)) eh510 kd6 (cd_a (by decide)) (by decide)) F737 (by decide)) F1859 (by decide)), (b_wid2 bc_1 (by decide) (by decide)), ⟨_, eq1864, b_wid2 bc_2 (by decide) (by decide)⟩, (fun h => absurd h (by decide)), (fun _ => ⟨_, eq1864, b_wid2 bc_2 (by decide) (by decide)⟩), (fun _ => by simp only [ga_of eq1868 eq1869, ge_of eq1865 eq1866 eq1867, gi_of eq1864]; have := toi bc_2; omega), (fun _ => by simp only [ga_of eq1868 eq1870, ge_of eq1865 eq1866 eq1867, gi_of eq1864]; have := toi bc_2; omega), (fun _ => by simp only [ga_of eq1868 eq1871, ge_of eq1865 eq1866 eq1867, gi_of eq1864]; have := toi bc_2; omega), (fun _ => by simp only [ga_of eq1868 eq1872, ge_of eq1865 eq1866 eq1867, gi_of eq1864]; have := toi bc_2; omega), (fun _ => by simp only [gi_of eq1864]; have := toi bc_2; omega), (fun _ => by simp only [gi_of eq1864]; have := toi bc_2; omega)⟩ (Nat.le_of_ble_eq_true rfl) (Nat.le_of_ble_eq_true rfl) dX12_findsAhead_68
      exact lp1844 _ hp509 0 0 zi488 zi490 _ _ ls (lp_in _) ok511 (Fr.rf) (b_wid2 bc_0 (by decide) (by decide)) eq517 (b_wid2 bc_0 (by decide) (by decide)) (hp_self eh510) (b_wid2 bd493 (by decide) (by decide)) eq518 (b_wid2 bd494 (by decide) (by decide)) eq519 (by have := toi bc_0; have := toi bc_1; have := toi bc_2; omega) (by have := toi bc_0; have := toi bc_1; have := toi bc_2; omega) (by have := toi bc_0; have := toi bc_1; have := toi bc_2; omega) (by have := toi bc_0; have := toi bc_1; have := toi bc_2; omega) (lv_sub hl [1, 2, 3, 0] rfl) hw hS
    have lp1912 : ∀ (n1910 : Nat) (hp340 : Nat → Nat → Value) (zi344 : Int32) (zi346 : Int32) (zi348 : Int32) (zi350 : Int32) (H : Heap) (locs : List Loc) (ls : Array Slot), 140000 - (8000*zi344.toInt + 400*zi346.toInt + 20*zi348.toInt + zi350.toInt) < (n1910 : Int) → Ok K hp340 → Fr [13048, 13051, 90000, 91000, 93000, 95000] K hp32 hp340 → ((-1 : Int) ≤ zi344.toInt ∧ zi344.toInt ≤ 16) → hp340 qa5 (0 : Int32).toNatClampNeg = .int zi344 → ((-1 : Int) ≤ zi346.toInt ∧ zi346.toInt ≤ 16) → hp340 qa5 (1 : Int32).toNatClampNeg = .int zi346 → ((-1 : Int) ≤ zi348.toInt ∧ zi348.toInt ≤ 16) → hp340 qa5 (2 : Int32).toNatClampNeg = .int zi348 → ((-1 : Int) ≤ zi350.toInt ∧ zi350.toInt ≤ 16) → hp340 qa5 (3 : Int32).toNatClampNeg = .int zi350 → ((1 : Int32).toInt ≤ 0 ∨ (0 ≤ zi344.toInt ∧ zi344.toInt ≤ zi26.toInt - 1)) → ((1 : Int32).toInt ≤ 1 ∨ (0 ≤ zi346.toInt ∧ zi346.toInt ≤ zi26.toInt - 1)) → ((1 : Int32).toInt ≤ 2 ∨ (0 ≤ zi348.toInt ∧ zi348.toInt ≤ zi26.toInt - 1)) → ((1 : Int32).toInt ≤ 3 ∨ (0 ≤ zi350.toInt ∧ zi350.toInt ≤ zi26.toInt - 1)) → lv_has ls 4 [(0, .ref qa900), (1, .int zi901), (2, .int zi902), (3, .int 1)] → PW G cy K ln Ls A hp340 H → va_S A s.heap H locs → W p l e ({ frames := 5, cells := 0, slots := 0, locals := 126 } : Room) s m ([.ref qa900, .int zi901, .int zi902] : List Value).toArray below meth c H locs 0 0 Q (F0 m 54 ls []) := by
      intro n1910
      induction n1910 with
      | zero =>
        intro hp340 zi344 zi346 zi348 zi350 H locs ls hm1913 ok342 F341 bd355 eq343 bd356 eq345 bd357 eq347 bd358 eq349 rq351 rq352 rq353 rq354 hl hw hS
        exact absurd hm1913 (by omega)
      | succ n1910 ih1911 =>
        intro hp340 zi344 zi346 zi348 zi350 H locs ls hm1913 ok342 F341 bd355 eq343 bd356 eq345 bd357 eq347 bd358 eq349 rq351 rq352 rq353 rq354 hl hw hS
        refine lv_iload_n hx hb dX12_findsAhead_54 rfl (lv_at hl 3 rfl) ?_
        refine lv_if_eq (tgt := 77) hx hb dX12_findsAhead_55 (by decide) (fun c => absurd c (d_ne bc_1 bc_0 (by decide))) (fun _ => ?_)
        refine lv_aload_n hx hb dX12_findsAhead_58 rfl (lv_at hl 0 rfl) ?_
        refine lv_iload_n hx hb dX12_findsAhead_59 rfl (lv_at hl 1 rfl) ?_
        refine lv_iload_n hx hb dX12_findsAhead_60 rfl (lv_at hl 2 rfl) ?_
        have eq1919 : hp340 qa900 55 = .int 1 := Eq.trans (Fr.at (cq := 13055) F341 kd900 (cd_o (by decide)) (by decide)) eq35
        have eq1920 : hp340 qa900 56 = .ref qa5 := Eq.trans (Fr.at (cq := 13056) F341 kd900 (cd_o (by decide)) (by decide)) eq40
        have eq1921 : hp340 qa900 28 = .ref qa20 := Eq.trans (Fr.at (cq := 13028) F341 kd900 (cd_o (by decide)) (by decide)) eq36
        have eq1922 : hp340 qa900 18 = .int zi23 := Eq.trans (Fr.at (cq := 13018) F341 kd900 (cd_o (by decide)) (by decide)) eq37
        have eq1923 : hp340 qa20 (zi23 : Int32).toNatClampNeg = .int zi26 := Eq.trans (Fr.at (cq := 74000) F341 kd21 (cd_a (by decide)) (by decide)) eq38
        have pd1924 : LW hp340 qa900 := LW_fr ok0 kd900 (show Fr [13048, 13051, 13055, 90000, 91000, 93000, 95000] K hp0 hp340 from (Fr.tr (Fr.put (cq := 95000) (Fr.put (cq := 13055) (Fr.rf) eh29 kd900 (cd_o (by decide)) (by decide)) eh33 kd6 (cd_a (by decide)) (by decide)) F341 (by decide))) (by decide) pdLW
        refine kq_i hw hS hA (va_runV (As := [.int zi901, .int zi902]) (rest := []) ⟨hx, hb, hml, hown, hT⟩ (cX12_isAhead_0 l G cy ev K ln Ls hW _ hp340 ok342 qa900 zi901 zi902 kd900 (b_wid2 bd901 (by decide) (by decide)) (b_wid2 bd902 (by decide) (by decide)) (by simp only [gi_of eq1919, ga_of eq1920 eq343, ge_of eq1921 eq1922 eq1923]; have := toi bc_1; omega) (by simp only [gi_of eq1919, ga_of eq1920 eq345, ge_of eq1921 eq1922 eq1923]; have := toi bc_1; omega) (by simp only [gi_of eq1919, ga_of eq1920 eq347, ge_of eq1921 eq1922 eq1923]; have := toi bc_1; omega) (by simp only [gi_of eq1919, ga_of eq1920 eq349, ge_of eq1921 eq1922 eq1923]; have := toi bc_1; omega) (by simp only [gi_of eq1919]; have := toi bc_1; omega) (by simp only [gi_of eq1919]; have := toi bc_1; omega) pd1924) (cwV 2 hT (good_V tb_1863 tb_1860 tb_1862 tb_95 tb_122) rfl rfl rfl (by decide +kernel) ⟨Nat.le_of_ble_eq_true rfl, Nat.le_of_ble_eq_true rfl⟩) (pool_preV (ci := 12) hK hE hS hA hw hW kd900 (by decide) rfl) rfl rfl hl.1 rfl (lv_room (Nat.le_of_ble_eq_true rfl)) dX12_findsAhead_61 ⟨Nat.le_of_ble_eq_true rfl, Nat.le_of_ble_eq_true rfl⟩) (fun zi1929 hp1925 H locs hq1928 hw hS => ?_)
        obtain ⟨ok1926, F1927, bd1930⟩ := hq1928
        have hw : PW G cy K ln Ls A hp1925 H := hw
        have eq1932 : hp1925 qa900 55 = .int 1 := Eq.trans (Fr.at (cq := 13055) F1927 kd900 (cd_o (by decide)) (by decide)) eq1919
        have eq1933 : hp1925 qa900 28 = .ref qa20 := Eq.trans (Fr.at (cq := 13028) F1927 kd900 (cd_o (by decide)) (by decide)) eq1921
        have eq1934 : hp1925 qa900 18 = .int zi23 := Eq.trans (Fr.at (cq := 13018) F1927 kd900 (cd_o (by decide)) (by decide)) eq1922
        have eq1935 : hp1925 qa20 (zi23 : Int32).toNatClampNeg = .int zi26 := Eq.trans (Fr.at (cq := 74000) F1927 kd21 (cd_a (by decide)) (by decide)) eq1923
        have eq1936 : hp1925 qa900 56 = .ref qa5 := Eq.trans (Fr.at (cq := 13056) F1927 kd900 (cd_o (by decide)) (by decide)) eq1920
        have eq1937 : hp1925 qa5 (0 : Int32).toNatClampNeg = .int zi344 := Eq.trans (Fr.at (cq := 95000) F1927 kd6 (cd_a (by decide)) (by decide)) eq343
        have eq1938 : hp1925 qa5 (1 : Int32).toNatClampNeg = .int zi346 := Eq.trans (Fr.at (cq := 95000) F1927 kd6 (cd_a (by decide)) (by decide)) eq345
        have eq1939 : hp1925 qa5 (2 : Int32).toNatClampNeg = .int zi348 := Eq.trans (Fr.at (cq := 95000) F1927 kd6 (cd_a (by decide)) (by decide)) eq347
        have eq1940 : hp1925 qa5 (3 : Int32).toNatClampNeg = .int zi350 := Eq.trans (Fr.at (cq := 95000) F1927 kd6 (cd_a (by decide)) (by decide)) eq349
        refine lv_if_eq (tgt := 69) hx hb dX12_findsAhead_64 (by decide) (fun cn1931 => ?_) (fun cn1931 => ?_)
        · skip
          have bd1941 : (0 : Int) ≤ zi1929.toInt ∧ zi1929.toInt ≤ 0 := r_eq_x cn1931 bd1930 bc_0 (by decide) (by decide)
          refine lv_aload_n hx hb dX12_findsAhead_69 rfl (lv_at hl 0 rfl) ?_
          refine kq_i hw hS hA (va_runV (As := []) (rest := []) ⟨hx, hb, hml, hown, hT⟩ (cX12_nextRow_0 l G cy ev K ln Ls hW _ hp1925 ok1926 qa900 kd900 (by simp only [gi_of eq1932, ga_of eq1936 eq1937, ge_of eq1933 eq1934 eq1935]; have := toi bc_1; omega) (by simp only [gi_of eq1932, ga_of eq1936 eq1938, ge_of eq1933 eq1934 eq1935]; have := toi bc_1; omega) (by simp only [gi_of eq1932, ga_of eq1936 eq1939, ge_of eq1933 eq1934 eq1935]; have := toi bc_1; omega) (by simp only [gi_of eq1932, ga_of eq1936 eq1940, ge_of eq1933 eq1934 eq1935]; have := toi bc_1; omega) (by simp only [gi_of eq1932]; have := toi bc_1; omega) (by simp only [gi_of eq1932]; have := toi bc_1; omega)) (cwV 0 hT (good_V tb_1867 tb_1864 tb_1866 tb_96 tb_122) rfl rfl rfl (by decide +kernel) ⟨Nat.le_of_ble_eq_true rfl, Nat.le_of_ble_eq_true rfl⟩) (pool_preV (ci := 12) hK hE hS hA hw hW kd900 (by decide) rfl) rfl rfl hl.1 rfl (lv_room (Nat.le_of_ble_eq_true rfl)) dX12_findsAhead_70 ⟨Nat.le_of_ble_eq_true rfl, Nat.le_of_ble_eq_true rfl⟩) (fun zi1946 hp1942 H locs hq1945 hw hS => ?_)
          obtain ⟨ok1943, F1944, bd1947, rh1948, rh1949, rh1950, rh1951, rh1952⟩ := hq1945
          have hw : PW G cy K ln Ls A hp1942 H := hw
          have eq1954 : hp1942 qa900 55 = .int 1 := Eq.trans (Fr.at (cq := 13055) F1944 kd900 (cd_o (by decide)) (by decide)) eq1932
          have eq1955 : hp1942 qa900 28 = .ref qa20 := Eq.trans (Fr.at (cq := 13028) F1944 kd900 (cd_o (by decide)) (by decide)) eq1933
          have eq1956 : hp1942 qa900 18 = .int zi23 := Eq.trans (Fr.at (cq := 13018) F1944 kd900 (cd_o (by decide)) (by decide)) eq1934
          have eq1957 : hp1942 qa20 (zi23 : Int32).toNatClampNeg = .int zi26 := Eq.trans (Fr.at (cq := 74000) F1944 kd21 (cd_a (by decide)) (by decide)) eq1935
          have eq1958 : hp1942 qa900 56 = .ref qa5 := Eq.trans (Fr.at (cq := 13056) F1944 kd900 (cd_o (by decide)) (by decide)) eq1936
          obtain ⟨zi1960, eq1959, bd1961⟩ := rd_95000 ok1943 kd6 ((0 : Int32).toNatClampNeg)
          obtain ⟨zi1963, eq1962, bd1964⟩ := rd_95000 ok1943 kd6 ((1 : Int32).toNatClampNeg)
          obtain ⟨zi1966, eq1965, bd1967⟩ := rd_95000 ok1943 kd6 ((2 : Int32).toNatClampNeg)
          obtain ⟨zi1969, eq1968, bd1970⟩ := rd_95000 ok1943 kd6 ((3 : Int32).toNatClampNeg)
          rcases b01 bd1947 with cn1953 | cn1953
          · skip
            subst cn1953
            refine lv_istore_n (lv' := [(3, .int 0), (0, .ref qa900), (1, .int zi901), (2, .int zi902)]) hx hb dX12_findsAhead_73 rfl hl (by decide) rfl (fun ls hl => ?_)
            refine lv_goto (tgt := 54) hx hb dX12_findsAhead_74 (by decide) ?_
            refine lv_iload_n hx hb dX12_findsAhead_54 rfl (lv_at hl 0 rfl) ?_
            refine lv_if_eq (tgt := 77) hx hb dX12_findsAhead_55 (by decide) (fun _ => ?_) (fun c => absurd (d_eq bc_0 bc_0) c)
            exact jn498 hp1942 zi1960 zi1963 zi1966 zi1969 _ _ ls ok1943 (Fr.tr (Fr.tr (Fr.tr (Fr.rf) F341 (by decide)) F1927 (by decide)) F1944 (by decide)) (b_wid2 bd1961 (by decide) (by decide)) eq1959 (b_wid2 bd1964 (by decide) (by decide)) eq1962 (b_wid2 bd1967 (by decide) (by decide)) eq1965 (b_wid2 bd1970 (by decide) (by decide)) eq1968 (lv_sub hl [1, 2, 3] rfl) hw hS
          · skip
            subst cn1953
            have rh1971 := rh1948 rfl
            simp only [ga_of eq1958 eq1959, ge_of eq1955 eq1956 eq1957, gi_of eq1954, toi bc_1] at rh1971
            have rh1972 := rh1949 rfl
            simp only [ga_of eq1958 eq1962, ge_of eq1955 eq1956 eq1957, gi_of eq1954, toi bc_1] at rh1972
            have rh1973 := rh1950 rfl
            simp only [ga_of eq1958 eq1965, ge_of eq1955 eq1956 eq1957, gi_of eq1954, toi bc_1] at rh1973
            have rh1974 := rh1951 rfl
            simp only [ga_of eq1958 eq1968, ge_of eq1955 eq1956 eq1957, gi_of eq1954, toi bc_1] at rh1974
            have rh1975 := rh1952 rfl
            simp only [ga_of eq1936 eq1937, ga_of eq1936 eq1938, ga_of eq1936 eq1939, ga_of eq1936 eq1940, ga_of eq1958 eq1959, ga_of eq1958 eq1962, ga_of eq1958 eq1965, ga_of eq1958 eq1968] at rh1975
            refine lv_istore_n (lv' := [(3, .int 1), (0, .ref qa900), (1, .int zi901), (2, .int zi902)]) hx hb dX12_findsAhead_73 rfl hl (by decide) rfl (fun ls hl => ?_)
            refine lv_goto (tgt := 54) hx hb dX12_findsAhead_74 (by decide) ?_
            exact ih1911 hp1942 zi1960 zi1963 zi1966 zi1969 _ _ ls (by have := toi bc_1; have := hm1913; omega) ok1943 (Fr.tr (Fr.tr (Fr.tr (Fr.rf) F341 (by decide)) F1927 (by decide)) F1944 (by decide)) (b_wid2 bd1961 (by decide) (by decide)) eq1959 (b_wid2 bd1964 (by decide) (by decide)) eq1962 (b_wid2 bd1967 (by decide) (by decide)) eq1965 (b_wid2 bd1970 (by decide) (by decide)) eq1968 (by have := toi bc_1; omega) (by have := toi bc_1; omega) (by have := toi bc_1; omega) (by have := toi bc_1; omega) (lv_sub hl [1, 2, 3, 0] rfl) hw hS
        · skip
          have tf1976 : (zi1929 : Int32).toInt ≠ (0 : Int32).toInt := fun e => cn1931 (Int32.toInt_inj.mp e)
          have := toi bc_0
          have bd1977 : (1 : Int) ≤ zi1929.toInt ∧ zi1929.toInt ≤ 1 := r_ne_lo cn1931 bd1930 (toi bc_0) (by decide) (by decide)
          refine lv_iconst (v := 1) hx hb dX12_findsAhead_67 (by decide) ?_
          rw [hQ]
          exact kz_i hx hb hr hlocks hS (nz_n bc_1 (by decide) (by decide)) hp1925 hw ⟨ok1926, (Fr.tr (Fr.tr (Fr.put (cq := 95000) (Fr.put (cq := 13055) (Fr.rf) eh29 kd900 (cd_o (by decide)) (by decide)) eh33 kd6 (cd_a (by decide)) (by decide)) F341 (by decide)) F1927 (by decide)), (b_wid2 bc_1 (by decide) (by decide)), ⟨_, eq1932, b_wid2 bc_1 (by decide) (by decide)⟩, (fun h => absurd h (by decide)), (fun _ => ⟨_, eq1932, b_wid2 bc_1 (by decide) (by decide)⟩), (fun _ => by simp only [ga_of eq1936 eq1937, ge_of eq1933 eq1934 eq1935, gi_of eq1932]; have := toi bc_1; omega), (fun _ => by simp only [ga_of eq1936 eq1938, ge_of eq1933 eq1934 eq1935, gi_of eq1932]; have := toi bc_1; omega), (fun _ => by simp only [ga_of eq1936 eq1939, ge_of eq1933 eq1934 eq1935, gi_of eq1932]; have := toi bc_1; omega), (fun _ => by simp only [ga_of eq1936 eq1940, ge_of eq1933 eq1934 eq1935, gi_of eq1932]; have := toi bc_1; omega), (fun _ => by simp only [gi_of eq1932]; have := toi bc_1; omega), (fun _ => by simp only [gi_of eq1932]; have := toi bc_1; omega)⟩ (Nat.le_of_ble_eq_true rfl) (Nat.le_of_ble_eq_true rfl) dX12_findsAhead_68
    exact lp1912 _ hp32 0 zi11 zi14 zi17 _ _ ls (lp_in _) ok34 (Fr.rf) (b_wid2 bc_0 (by decide) (by decide)) (hp_self eh33) (b_wid2 bd12 (by decide) (by decide)) eq41 (b_wid2 bd15 (by decide) (by decide)) eq42 (b_wid2 bd18 (by decide) (by decide)) eq43 (by have := toi bc_0; have := toi bc_1; omega) (by have := toi bc_0; have := toi bc_1; omega) (by have := toi bc_0; have := toi bc_1; omega) (by have := toi bc_0; have := toi bc_1; omega) (lv_sub hl [1, 2, 3, 0] rfl) hw hS
