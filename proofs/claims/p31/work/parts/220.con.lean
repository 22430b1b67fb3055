set_option maxRecDepth 100000 in
set_option maxHeartbeats 4000000 in
theorem cX12_ahead_0 (l : Launch) (G : va_G) (cy : Nat → ClassId) (ev : Ew) (K ln : Nat → Nat) (Ls : List Nat) (hW : SW K ln Ls) (sz : Nat) (hp0 : Nat → Nat → Value) (ok0 : Ok K hp0) (qa900 : Nat) (zi901 : Int32) (zi902 : Int32) (zi903 : Int32) (kd900 : K qa900 = 13) (pdLW : LW hp0 qa900) : Met l yX12_ahead (WS yX12_ahead cX12_ahead 6 (some .int)) { frames := 6, cells := 0, slots := 0, locals := 149 } (PB2 [.ref qa900, .int zi901, .int zi902, .int zi903] sz G cy ev (va_pl Ls (cellOf cy K ln hp0))) (QBi (S := (Nat → Nat → Value)) (fun (r : Int32) (u : (Nat → Nat → Value)) => Ok K u ∧ Fr [13048, 13051, 13055, 90000, 91000, 93000, 95000] K hp0 u ∧ ((-2 : Int) ≤ r.toInt ∧ r.toInt ≤ 4)) G (fun u => va_pl Ls (cellOf cy K ln u)) (va_A (va_pl Ls (cellOf cy K ln hp0)) sz)) 0 0 (va_A (va_pl Ls (cellOf cy K ln hp0)) sz) := by
  refine met_of2 (y := yX12_ahead) (L := 6) (av := [.ref qa900, .int zi901, .int zi902, .int zi903]) (Qc := fun A => QBi (S := (Nat → Nat → Value)) (fun (r : Int32) (u : (Nat → Nat → Value)) => Ok K u ∧ Fr [13048, 13051, 13055, 90000, 91000, 93000, 95000] K hp0 u ∧ ((-2 : Int) ≤ r.toInt ∧ r.toInt ≤ 4)) G (fun u => va_pl Ls (cellOf cy K ln u)) A) (plainFor_of_name (by decide)) (Nat.le_of_ble_eq_true rfl) ?_
  intro p e s m below meth c hsz hx hb hr hml hown hT hlocks hin hK A hA hE hw hS ls hl
  have hw : PW G cy K ln Ls A hp0 s.heap := hw
  have hown : s.vm.findClass "LieClockModel" = some m.cls := hown
  have hl : lv_has ls 6 [(0, .ref qa900), (1, .int zi901), (2, .int zi902), (3, .int zi903)] := hl
  obtain ⟨Q, hQ⟩ : ∃ Q : State → Prop, Q = MQ below (QBi (S := (Nat → Nat → Value)) (fun (r : Int32) (u : (Nat → Nat → Value)) => Ok K u ∧ Fr [13048, 13051, 13055, 90000, 91000, 93000, 95000] K hp0 u ∧ ((-2 : Int) ≤ r.toInt ∧ r.toInt ≤ 4)) G (fun u => va_pl Ls (cellOf cy K ln u)) A) ([.ref qa900, .int zi901, .int zi902, .int zi903] : List Value).toArray s 0 0 A := ⟨_, rfl⟩
  rw [← hQ]
  refine lv_aload_n hx hb dX12_ahead_0 rfl (lv_at hl 0 rfl) ?_
  refine lv_iload_n hx hb dX12_ahead_1 rfl (lv_at hl 1 rfl) ?_
  refine kq_i hw hS hA (va_runV (As := [.int zi901]) (rest := []) ⟨hx, hb, hml, hown, hT⟩ (cX12_isCase_0 l G cy ev K ln Ls hW _ hp0 ok0 qa900 zi901 kd900) (cwV 1 hT (good_V tb_1797 tb_1794 tb_1796 tb_85 tb_122) rfl rfl rfl (by decide +kernel) ⟨Nat.le_of_ble_eq_true rfl, Nat.le_of_ble_eq_true rfl⟩) (pool_preV (ci := 12) hK hE hS hA hw hW kd900 (by decide) rfl) rfl rfl hl.1 rfl (lv_room (Nat.le_of_ble_eq_true rfl)) dX12_ahead_2 ⟨Nat.le_of_ble_eq_true rfl, Nat.le_of_ble_eq_true rfl⟩) (fun zi5 hp1 H locs hq4 hw hS => ?_)
  obtain ⟨ok2, F3, bd6, hc7⟩ := hq4
  obtain rfl : hp0 = hp1 := (Fr.nil F3).symm
  have hw : PW G cy K ln Ls A hp0 H := hw
  obtain ⟨zi10, eq9, bd11⟩ := rd_13055 ok0 kd900
  obtain ⟨qa13, eq12, kd14⟩ := rd_13028 ok0 kd900
  obtain ⟨zi16, eq15, bd17⟩ := rd_13018 ok0 kd900
  obtain ⟨zi19, eq18, bd20⟩ := rd_74000 ok0 kd14 ((zi16 : Int32).toNatClampNeg)
  obtain ⟨qa22, eq21, kd23⟩ := rd_13056 ok0 kd900
  obtain ⟨zi25, eq24, bd26⟩ := rd_95000 ok0 kd23 ((0 : Int32).toNatClampNeg)
  obtain ⟨zi28, eq27, bd29⟩ := rd_95000 ok0 kd23 ((1 : Int32).toNatClampNeg)
  obtain ⟨zi31, eq30, bd32⟩ := rd_95000 ok0 kd23 ((2 : Int32).toNatClampNeg)
  obtain ⟨zi34, eq33, bd35⟩ := rd_95000 ok0 kd23 ((3 : Int32).toNatClampNeg)
  rcases b01 bd6 with cn8 | cn8
  · skip
    subst cn8
    refine lv_if_eq (tgt := 30) hx hb dX12_ahead_5 (by decide) (fun _ => ?_) (fun c => absurd (d_eq bc_0 bc_0) c)
    refine lv_iconst (v := (-1)) hx hb dX12_ahead_30 (by decide) ?_
    rw [hQ]
    exact kz_i hx hb hr hlocks hS rfl hp0 hw ⟨ok0, (Fr.rf), (b_wid2 bc_m1 (by decide) (by decide))⟩ (Nat.le_of_ble_eq_true rfl) (Nat.le_of_ble_eq_true rfl) dX12_ahead_31
  · skip
    subst cn8
    have bd36 : (0 : Int) ≤ zi901.toInt ∧ zi901.toInt ≤ 7 := b_meet (b_all zi901) (hc7 rfl) (by decide) (by decide)
    refine lv_if_eq (tgt := 30) hx hb dX12_ahead_5 (by decide) (fun c => absurd c (d_ne bc_1 bc_0 (by decide))) (fun _ => ?_)
    refine lv_aload_n hx hb dX12_ahead_8 rfl (lv_at hl 0 rfl) ?_
    refine lv_iload_n hx hb dX12_ahead_9 rfl (lv_at hl 2 rfl) ?_
    refine kq_i hw hS hA (va_runV (As := [.int zi902]) (rest := []) ⟨hx, hb, hml, hown, hT⟩ (cX12_isCase_0 l G cy ev K ln Ls hW _ hp0 ok0 qa900 zi902 kd900) (cwV 1 hT (good_V tb_1797 tb_1794 tb_1796 tb_85 tb_122) rfl rfl rfl (by decide +kernel) ⟨Nat.le_of_ble_eq_true rfl, Nat.le_of_ble_eq_true rfl⟩) (pool_preV (ci := 12) hK hE hS hA hw hW kd900 (by decide) rfl) rfl rfl hl.1 rfl (lv_room (Nat.le_of_ble_eq_true rfl)) dX12_ahead_10 ⟨Nat.le_of_ble_eq_true rfl, Nat.le_of_ble_eq_true rfl⟩) (fun zi41 hp37 H locs hq40 hw hS => ?_)
    obtain ⟨ok38, F39, bd42, hc43⟩ := hq40
    obtain rfl : hp0 = hp37 := (Fr.nil F39).symm
    have hw : PW G cy K ln Ls A hp0 H := hw
    rcases b01 bd42 with cn44 | cn44
    · skip
      subst cn44
      refine lv_if_eq (tgt := 30) hx hb dX12_ahead_13 (by decide) (fun _ => ?_) (fun c => absurd (d_eq bc_0 bc_0) c)
      refine lv_iconst (v := (-1)) hx hb dX12_ahead_30 (by decide) ?_
      rw [hQ]
      exact kz_i hx hb hr hlocks hS rfl hp0 hw ⟨ok0, (Fr.rf), (b_wid2 bc_m1 (by decide) (by decide))⟩ (Nat.le_of_ble_eq_true rfl) (Nat.le_of_ble_eq_true rfl) dX12_ahead_31
    · skip
      subst cn44
      have bd45 : (0 : Int) ≤ zi902.toInt ∧ zi902.toInt ≤ 7 := b_meet (b_all zi902) (hc43 rfl) (by decide) (by decide)
      refine lv_if_eq (tgt := 30) hx hb dX12_ahead_13 (by decide) (fun c => absurd c (d_ne bc_1 bc_0 (by decide))) (fun _ => ?_)
      refine lv_iload_n hx hb dX12_ahead_16 rfl (lv_at hl 1 rfl) ?_
      refine lv_iload_n hx hb dX12_ahead_17 rfl (lv_at hl 2 rfl) ?_
      refine lv_icmp_eq (tgt := 30) hx hb dX12_ahead_18 (by decide) (fun cn46 => ?_) (fun cn46 => ?_)
      · skip
        have tf47 : zi901.toInt = zi902.toInt := congrArg Int32.toInt cn46
        refine lv_iconst (v := (-1)) hx hb dX12_ahead_30 (by decide) ?_
        rw [hQ]
        exact kz_i hx hb hr hlocks hS rfl hp0 hw ⟨ok0, (Fr.rf), (b_wid2 bc_m1 (by decide) (by decide))⟩ (Nat.le_of_ble_eq_true rfl) (Nat.le_of_ble_eq_true rfl) dX12_ahead_31
      · skip
        have tf48 : (zi901 : Int32).toInt ≠ (zi902 : Int32).toInt := fun e => cn46 (Int32.toInt_inj.mp e)
        refine lv_iload_n hx hb dX12_ahead_21 rfl (lv_at hl 3 rfl) ?_
        refine lv_iconst (v := 0) hx hb dX12_ahead_22 (by decide) ?_
        refine lv_iconst (v := 1) hx hb dX12_ahead_23 (by decide) ?_
        refine kq_i hw hS hA (va_runS (As := [.int zi903, .int 0, .int 1]) (rest := []) ⟨hx, hb, hml, hown, hT⟩ (cX12_in_3 l G cy ev K ln Ls hW _ hp0 ok0 zi903 0 1 (b_wid2 bc_0 (by decide) (by decide)) (b_wid2 bc_1 (by decide) (by decide))) (va_cwS 3 hT (good_S tb_1734 tb_1732 tb_1733 tb_122) rfl rfl rfl (by decide +kernel) ⟨Nat.le_of_ble_eq_true rfl, Nat.le_of_ble_eq_true rfl⟩) (PB2.preS hK hE hS hA hw) rfl rfl hl.1 rfl (lv_room (Nat.le_of_ble_eq_true rfl)) dX12_ahead_24 ⟨Nat.le_of_ble_eq_true rfl, Nat.le_of_ble_eq_true rfl⟩) (fun zi53 hp49 H locs hq52 hw hS => ?_)
        obtain ⟨ok50, F51, bd54, hc55⟩ := hq52
        obtain rfl : hp0 = hp49 := (Fr.nil F51).symm
        have hw : PW G cy K ln Ls A hp0 H := hw
        rcases b01 bd54 with cn56 | cn56
        · skip
          subst cn56
          refine lv_if_ne (tgt := 32) hx hb dX12_ahead_27 (by decide) (fun c => absurd (d_eq bc_0 bc_0) c) (fun _ => ?_)
          refine lv_iconst (v := (-1)) hx hb dX12_ahead_30 (by decide) ?_
          rw [hQ]
          exact kz_i hx hb hr hlocks hS rfl hp0 hw ⟨ok0, (Fr.rf), (b_wid2 bc_m1 (by decide) (by decide))⟩ (Nat.le_of_ble_eq_true rfl) (Nat.le_of_ble_eq_true rfl) dX12_ahead_31
        · skip
          subst cn56
          have bd57 : (0 : Int) ≤ zi903.toInt ∧ zi903.toInt ≤ 1 := b_meet (b_all zi903) (hc55 rfl) (by decide) (by decide)
          refine lv_if_ne (tgt := 32) hx hb dX12_ahead_27 (by decide) (fun _ => ?_) (fun c => absurd c (d_ne bc_1 bc_0 (by decide)))
          refine lv_aload_n hx hb dX12_ahead_32 rfl (lv_at hl 0 rfl) ?_
          refine lv_iload_n hx hb dX12_ahead_33 rfl (lv_at hl 1 rfl) ?_
          refine lv_iload_n hx hb dX12_ahead_34 rfl (lv_at hl 2 rfl) ?_
          refine kq_i hw hS hA (va_runV (As := [.int zi901, .int zi902]) (rest := []) ⟨hx, hb, hml, hown, hT⟩ (cX12_findsAhead_0 l G cy ev K ln Ls hW _ hp0 ok0 qa900 zi901 zi902 kd900 (b_wid2 bd36 (by decide) (by decide)) (b_wid2 bd45 (by decide) (by decide)) pdLW) (cwV 2 hT (good_V tb_1859 tb_1856 tb_1858 tb_94 tb_122) rfl rfl rfl (by decide +kernel) ⟨Nat.le_of_ble_eq_true rfl, Nat.le_of_ble_eq_true rfl⟩) (pool_preV (ci := 12) hK hE hS hA hw hW kd900 (by decide) rfl) rfl rfl hl.1 rfl (lv_room (Nat.le_of_ble_eq_true rfl)) dX12_ahead_35 ⟨Nat.le_of_ble_eq_true rfl, Nat.le_of_ble_eq_true rfl⟩) (fun zi62 hp58 H locs hq61 hw hS => ?_)
          obtain ⟨ok59, F60, bd63, ⟨zi64, eq65, bd66⟩, hc67, hc68, rh69, rh70, rh71, rh72, rh73, rh74⟩ := hq61
          have hw : PW G cy K ln Ls A hp58 H := hw
          have eq76 : hp58 qa900 28 = .ref qa13 := Eq.trans (Fr.at (cq := 13028) F60 kd900 (cd_o (by decide)) (by decide)) eq12
          have eq77 : hp58 qa900 18 = .int zi16 := Eq.trans (Fr.at (cq := 13018) F60 kd900 (cd_o (by decide)) (by decide)) eq15
          have eq78 : hp58 qa13 (zi16 : Int32).toNatClampNeg = .int zi19 := Eq.trans (Fr.at (cq := 74000) F60 kd14 (cd_a (by decide)) (by decide)) eq18
          have eq79 : hp58 qa900 56 = .ref qa22 := Eq.trans (Fr.at (cq := 13056) F60 kd900 (cd_o (by decide)) (by decide)) eq21
          obtain ⟨zi81, eq80, bd82⟩ := rd_95000 ok59 kd23 ((0 : Int32).toNatClampNeg)
          obtain ⟨zi84, eq83, bd85⟩ := rd_95000 ok59 kd23 ((1 : Int32).toNatClampNeg)
          obtain ⟨zi87, eq86, bd88⟩ := rd_95000 ok59 kd23 ((2 : Int32).toNatClampNeg)
          obtain ⟨zi90, eq89, bd91⟩ := rd_95000 ok59 kd23 ((3 : Int32).toNatClampNeg)
          rcases b01 bd63 with cn75 | cn75
          · skip
            subst cn75
            obtain ⟨zi92, eq93, bd94⟩ := hc67 rfl
            have hx95 : zi64 = zi92 := Value.int.inj (Eq.trans (Eq.symm eq65) eq93)
            subst hx95
            have bd96 : (5 : Int) ≤ zi64.toInt ∧ zi64.toInt ≤ 5 := b_meet bd66 bd94 (by decide) (by decide)
            refine lv_if_ne (tgt := 44) hx hb dX12_ahead_38 (by decide) (fun c => absurd (d_eq bc_0 bc_0) c) (fun _ => ?_)
            refine lv_bipush (v := (-2)) hx hb dX12_ahead_41 (by decide) ?_
            rw [hQ]
            exact kz_i hx hb hr hlocks hS rfl hp58 hw ⟨ok59, (Fr.tr (Fr.rf) F60 (by decide)), (b_wid2 bc_m2 (by decide) (by decide))⟩ (Nat.le_of_ble_eq_true rfl) (Nat.le_of_ble_eq_true rfl) dX12_ahead_43
          · skip
            subst cn75
            obtain ⟨zi97, eq98, bd99⟩ := hc68 rfl
            have hx100 : zi64 = zi97 := Value.int.inj (Eq.trans (Eq.symm eq65) eq98)
            subst hx100
            have bd101 : (1 : Int) ≤ zi64.toInt ∧ zi64.toInt ≤ 4 := b_meet bd66 bd99 (by decide) (by decide)
            have rh102 := rh69 rfl
            simp only [ga_of eq79 eq80, ge_of eq76 eq77 eq78, gi_of eq65] at rh102
            have rh103 := rh70 rfl
            simp only [ga_of eq79 eq83, ge_of eq76 eq77 eq78, gi_of eq65] at rh103
            have rh104 := rh71 rfl
            simp only [ga_of eq79 eq86, ge_of eq76 eq77 eq78, gi_of eq65] at rh104
            have rh105 := rh72 rfl
            simp only [ga_of eq79 eq89, ge_of eq76 eq77 eq78, gi_of eq65] at rh105
            have rh106 := rh73 rfl
            simp only [gi_of eq65] at rh106
            have rh107 := rh74 rfl
            simp only [gi_of eq65] at rh107
            refine lv_if_ne (tgt := 44) hx hb dX12_ahead_38 (by decide) (fun _ => ?_) (fun c => absurd c (d_ne bc_1 bc_0 (by decide)))
            refine lv_iload_n hx hb dX12_ahead_44 rfl (lv_at hl 3 rfl) ?_
            refine lv_if_ne (tgt := 53) hx hb dX12_ahead_45 (by decide) (fun cn108 => ?_) (fun cn108 => ?_)
            · skip
              have tf109 : (zi903 : Int32).toInt ≠ (0 : Int32).toInt := fun e => cn108 (Int32.toInt_inj.mp e)
              have := toi bc_0
              have bd110 : (1 : Int) ≤ zi903.toInt ∧ zi903.toInt ≤ 1 := r_ne_lo cn108 bd57 (toi bc_0) (by decide) (by decide)
              by_cases cn111 : zi64 = 1
              · skip
                have eq115 : hp58 qa900 55 = .int 1 := Eq.trans eq65 (congrArg Value.int cn111)
                have tf116 : zi64.toInt = 1 := (congrArg Int32.toInt cn111).trans (toi bc_1)
                have bd117 : (0 : Int) ≤ zi81.toInt ∧ zi81.toInt ≤ 15 := (by omega)
                refine lv_iconst (v := 0) hx hb dX12_ahead_53 (by decide) ?_
                refine lv_istore (lv' := [(4, .int 0), (0, .ref qa900), (1, .int zi901), (2, .int zi902), (3, .int zi903)]) hx hb dX12_ahead_54 hl (by decide) rfl (fun ls hl => ?_)
                refine lv_iconst (v := 0) hx hb dX12_ahead_56 (by decide) ?_
                refine lv_istore (lv' := [(5, .int 0), (4, .int 0), (0, .ref qa900), (1, .int zi901), (2, .int zi902), (3, .int zi903)]) hx hb dX12_ahead_57 hl (by decide) rfl (fun ls hl => ?_)
                refine lv_iload hx hb dX12_ahead_59 (lv_at hl 0 rfl) ?_
                refine lv_aload_n hx hb dX12_ahead_61 rfl (lv_at hl 2 rfl) ?_
                refine p_get (ci := 12) (v := .int 1) (C := RX12) (T := TX12) (N := 69) hx hb hT iw_X12 hown hK hw hW kd900 (by decide) rfl rfl 55 (by decide) eq115 (hT _ tb_1429) (fun _ h9 => h9) dX12_ahead_62 ?_
                refine lv_icmp_ge (tgt := 91) hx hb dX12_ahead_65 (by decide) (fun c => absurd c (d_nle bc_1 bc_0 (by decide))) (fun _ => ?_)
                refine lv_aload_n hx hb dX12_ahead_68 rfl (lv_at hl 2 rfl) ?_
                refine lv_aload_n hx hb dX12_ahead_69 rfl (lv_at hl 2 rfl) ?_
                refine p_get (ci := 12) (v := .ref qa22) (C := RX12) (T := TX12) (N := 69) hx hb hT iw_X12 hown hK hw hW kd900 (by decide) rfl rfl 56 (by decide) eq79 (hT _ tb_1430) (fun _ h9 => h9) dX12_ahead_70 ?_
                refine lv_iload hx hb dX12_ahead_73 (lv_at hl 0 rfl) ?_
                refine p_iald (v := zi81) hx hb hK hw hW kd23 (by decide) rfl (hW.len kd23 (n := 6) rfl (by decide)) (vp_b bc_0 (by decide) (by decide)) eq80 dX12_ahead_75 ?_
                refine kq_i hw hS hA (va_runV (As := [.int zi81]) (rest := []) ⟨hx, hb, hml, hown, hT⟩ (cX12_isTrue_0 l G cy ev K ln Ls hW _ hp58 ok59 qa900 zi81 kd900 (b_wid2 bd117 (by decide) (by decide))) (cwV 1 hT (good_V tb_1746 tb_1743 tb_1745 tb_77 tb_122) rfl rfl rfl (by decide +kernel) ⟨Nat.le_of_ble_eq_true rfl, Nat.le_of_ble_eq_true rfl⟩) (pool_preV (ci := 12) hK hE hS hA hw hW kd900 (by decide) rfl) rfl rfl hl.1 rfl (lv_room (Nat.le_of_ble_eq_true rfl)) dX12_ahead_76 ⟨Nat.le_of_ble_eq_true rfl, Nat.le_of_ble_eq_true rfl⟩) (fun zi122 hp118 H locs hq121 hw hS => ?_)
                obtain ⟨ok119, F120, bd123⟩ := hq121
                obtain rfl : hp58 = hp118 := (Fr.nil F120).symm
                have hw : PW G cy K ln Ls A hp58 H := hw
                have jn130 : ∀ (zi128 : Int32) (H : Heap) (locs : List Loc) (ls : Array Slot), ((0 : Int) ≤ zi128.toInt ∧ zi128.toInt ≤ 1) → lv_has ls 6 [(0, .ref qa900), (4, .int zi128), (5, .int 0)] → PW G cy K ln Ls A hp58 H → va_S A s.heap H locs → W p l e ({ frames := 6, cells := 0, slots := 0, locals := 149 } : Room) s m ([.ref qa900, .int zi901, .int zi902, .int zi903] : List Value).toArray below meth c H locs 0 0 Q (F0 m 85 ls []) := by
                  intro zi128 H locs ls bd129 hl hw hS
                  refine lv_iinc (v := 1) (lv' := [(5, .int 1), (0, .ref qa900), (4, .int zi128)]) hx hb dX12_ahead_85 hl (k := 2) rfl (by decide) (by decide) rfl (fun ls hl => ?_)
                  refine lv_goto (tgt := 59) hx hb dX12_ahead_88 (by decide) ?_
                  refine lv_iload hx hb dX12_ahead_59 (lv_at hl 0 rfl) ?_
                  refine lv_aload_n hx hb dX12_ahead_61 rfl (lv_at hl 1 rfl) ?_
                  refine p_get (ci := 12) (v := .int 1) (C := RX12) (T := TX12) (N := 69) hx hb hT iw_X12 hown hK hw hW kd900 (by decide) rfl rfl 55 (by decide) eq115 (hT _ tb_1429) (fun _ h9 => h9) dX12_ahead_62 ?_
                  refine lv_icmp_ge (tgt := 91) hx hb dX12_ahead_65 (by decide) (fun _ => ?_) (fun c => absurd (d_le bc_1 bc_1 (by decide)) c)
                  refine lv_iload hx hb dX12_ahead_91 (lv_at hl 2 rfl) ?_
                  rw [hQ]
                  exact kz_i hx hb hr hlocks hS rfl hp58 hw ⟨ok59, (Fr.tr (Fr.rf) F60 (by decide)), (b_wid2 bd129 (by decide) (by decide))⟩ (Nat.le_of_ble_eq_true rfl) (Nat.le_of_ble_eq_true rfl) dX12_ahead_93
                refine lv_if_ne (tgt := 85) hx hb dX12_ahead_79 (by decide) (fun cn124 => ?_) (fun cn124 => ?_)
                · skip
                  have tf131 : (zi122 : Int32).toInt ≠ (0 : Int32).toInt := fun e => cn124 (Int32.toInt_inj.mp e)
                  have := toi bc_0
                  have bd132 : (1 : Int) ≤ zi122.toInt ∧ zi122.toInt ≤ 1 := r_ne_lo cn124 bd123 (toi bc_0) (by decide) (by decide)
                  exact jn130 0 _ _ ls (b_wid2 bc_0 (by decide) (by decide)) (lv_sub hl [2, 1, 0] rfl) hw hS
                · skip
                  have bd133 : (0 : Int) ≤ zi122.toInt ∧ zi122.toInt ≤ 0 := r_eq_x cn124 bd123 bc_0 (by decide) (by decide)
                  refine lv_iinc (v := 1) (lv' := [(4, .int 1), (5, .int 0), (0, .ref qa900), (1, .int zi901), (2, .int zi902), (3, .int zi903)]) hx hb dX12_ahead_82 hl (k := 1) rfl (by decide) (by decide) rfl (fun ls hl => ?_)
                  exact jn130 1 _ _ ls (b_wid2 bc_1 (by decide) (by decide)) (lv_sub hl [2, 0, 1] rfl) hw hS
              by_cases cn112 : zi64 = 2
              · skip
                have eq134 : hp58 qa900 55 = .int 2 := Eq.trans eq65 (congrArg Value.int cn112)
                have tf135 : zi64.toInt = 2 := (congrArg Int32.toInt cn112).trans (toi bc_2)
                have bd136 : (0 : Int) ≤ zi81.toInt ∧ zi81.toInt ≤ 15 := (by omega)
                have bd137 : (0 : Int) ≤ zi84.toInt ∧ zi84.toInt ≤ 15 := (by omega)
                refine lv_iconst (v := 0) hx hb dX12_ahead_53 (by decide) ?_
                refine lv_istore (lv' := [(4, .int 0), (0, .ref qa900), (1, .int zi901), (2, .int zi902), (3, .int zi903)]) hx hb dX12_ahead_54 hl (by decide) rfl (fun ls hl => ?_)
                refine lv_iconst (v := 0) hx hb dX12_ahead_56 (by decide) ?_
                refine lv_istore (lv' := [(5, .int 0), (4, .int 0), (0, .ref qa900), (1, .int zi901), (2, .int zi902), (3, .int zi903)]) hx hb dX12_ahead_57 hl (by decide) rfl (fun ls hl => ?_)
                refine lv_iload hx hb dX12_ahead_59 (lv_at hl 0 rfl) ?_
                refine lv_aload_n hx hb dX12_ahead_61 rfl (lv_at hl 2 rfl) ?_
                refine p_get (ci := 12) (v := .int 2) (C := RX12) (T := TX12) (N := 69) hx hb hT iw_X12 hown hK hw hW kd900 (by decide) rfl rfl 55 (by decide) eq134 (hT _ tb_1429) (fun _ h9 => h9) dX12_ahead_62 ?_
                refine lv_icmp_ge (tgt := 91) hx hb dX12_ahead_65 (by decide) (fun c => absurd c (d_nle bc_2 bc_0 (by decide))) (fun _ => ?_)
                refine lv_aload_n hx hb dX12_ahead_68 rfl (lv_at hl 2 rfl) ?_
                refine lv_aload_n hx hb dX12_ahead_69 rfl (lv_at hl 2 rfl) ?_
                refine p_get (ci := 12) (v := .ref qa22) (C := RX12) (T := TX12) (N := 69) hx hb hT iw_X12 hown hK hw hW kd900 (by decide) rfl rfl 56 (by decide) eq79 (hT _ tb_1430) (fun _ h9 => h9) dX12_ahead_70 ?_
                refine lv_iload hx hb dX12_ahead_73 (lv_at hl 0 rfl) ?_
                refine p_iald (v := zi81) hx hb hK hw hW kd23 (by decide) rfl (hW.len kd23 (n := 6) rfl (by decide)) (vp_b bc_0 (by decide) (by decide)) eq80 dX12_ahead_75 ?_
                refine kq_i hw hS hA (va_runV (As := [.int zi81]) (rest := []) ⟨hx, hb, hml, hown, hT⟩ (cX12_isTrue_0 l G cy ev K ln Ls hW _ hp58 ok59 qa900 zi81 kd900 (b_wid2 bd136 (by decide) (by decide))) (cwV 1 hT (good_V tb_1746 tb_1743 tb_1745 tb_77 tb_122) rfl rfl rfl (by decide +kernel) ⟨Nat.le_of_ble_eq_true rfl, Nat.le_of_ble_eq_true rfl⟩) (pool_preV (ci := 12) hK hE hS hA hw hW kd900 (by decide) rfl) rfl rfl hl.1 rfl (lv_room (Nat.le_of_ble_eq_true rfl)) dX12_ahead_76 ⟨Nat.le_of_ble_eq_true rfl, Nat.le_of_ble_eq_true rfl⟩) (fun zi142 hp138 H locs hq141 hw hS => ?_)
                obtain ⟨ok139, F140, bd143⟩ := hq141
                obtain rfl : hp58 = hp138 := (Fr.nil F140).symm
                have hw : PW G cy K ln Ls A hp58 H := hw
                have jn150 : ∀ (zi148 : Int32) (H : Heap) (locs : List Loc) (ls : Array Slot), ((0 : Int) ≤ zi148.toInt ∧ zi148.toInt ≤ 1) → lv_has ls 6 [(0, .ref qa900), (4, .int zi148), (5, .int 0)] → PW G cy K ln Ls A hp58 H → va_S A s.heap H locs → W p l e ({ frames := 6, cells := 0, slots := 0, locals := 149 } : Room) s m ([.ref qa900, .int zi901, .int zi902, .int zi903] : List Value).toArray below meth c H locs 0 0 Q (F0 m 85 ls []) := by
                  intro zi148 H locs ls bd149 hl hw hS
                  refine lv_iinc (v := 1) (lv' := [(5, .int 1), (0, .ref qa900), (4, .int zi148)]) hx hb dX12_ahead_85 hl (k := 2) rfl (by decide) (by decide) rfl (fun ls hl => ?_)
                  refine lv_goto (tgt := 59) hx hb dX12_ahead_88 (by decide) ?_
                  refine lv_iload hx hb dX12_ahead_59 (lv_at hl 0 rfl) ?_
                  refine lv_aload_n hx hb dX12_ahead_61 rfl (lv_at hl 1 rfl) ?_
                  refine p_get (ci := 12) (v := .int 2) (C := RX12) (T := TX12) (N := 69) hx hb hT iw_X12 hown hK hw hW kd900 (by decide) rfl rfl 55 (by decide) eq134 (hT _ tb_1429) (fun _ h9 => h9) dX12_ahead_62 ?_
                  refine lv_icmp_ge (tgt := 91) hx hb dX12_ahead_65 (by decide) (fun c => absurd c (d_nle bc_2 bc_1 (by decide))) (fun _ => ?_)
                  refine lv_aload_n hx hb dX12_ahead_68 rfl (lv_at hl 1 rfl) ?_
                  refine lv_aload_n hx hb dX12_ahead_69 rfl (lv_at hl 1 rfl) ?_
                  refine p_get (ci := 12) (v := .ref qa22) (C := RX12) (T := TX12) (N := 69) hx hb hT iw_X12 hown hK hw hW kd900 (by decide) rfl rfl 56 (by decide) eq79 (hT _ tb_1430) (fun _ h9 => h9) dX12_ahead_70 ?_
                  refine lv_iload hx hb dX12_ahead_73 (lv_at hl 0 rfl) ?_
                  refine p_iald (v := zi84) hx hb hK hw hW kd23 (by decide) rfl (hW.len kd23 (n := 6) rfl (by decide)) (vp_b bc_1 (by decide) (by decide)) eq83 dX12_ahead_75 ?_
                  refine kq_i hw hS hA (va_runV (As := [.int zi84]) (rest := []) ⟨hx, hb, hml, hown, hT⟩ (cX12_isTrue_0 l G cy ev K ln Ls hW _ hp58 ok59 qa900 zi84 kd900 (b_wid2 bd137 (by decide) (by decide))) (cwV 1 hT (good_V tb_1746 tb_1743 tb_1745 tb_77 tb_122) rfl rfl rfl (by decide +kernel) ⟨Nat.le_of_ble_eq_true rfl, Nat.le_of_ble_eq_true rfl⟩) (pool_preV (ci := 12) hK hE hS hA hw hW kd900 (by decide) rfl) rfl rfl hl.1 rfl (lv_room (Nat.le_of_ble_eq_true rfl)) dX12_ahead_76 ⟨Nat.le_of_ble_eq_true rfl, Nat.le_of_ble_eq_true rfl⟩) (fun zi155 hp151 H locs hq154 hw hS => ?_)
                  obtain ⟨ok152, F153, bd156⟩ := hq154
                  obtain rfl : hp58 = hp151 := (Fr.nil F153).symm
                  have hw : PW G cy K ln Ls A hp58 H := hw
                  have jn168 : ∀ (zi166 : Int32) (H : Heap) (locs : List Loc) (ls : Array Slot), ((0 : Int) ≤ zi166.toInt ∧ zi166.toInt ≤ 2) → lv_has ls 6 [(0, .ref qa900), (4, .int zi166), (5, .int 1)] → PW G cy K ln Ls A hp58 H → va_S A s.heap H locs → W p l e ({ frames := 6, cells := 0, slots := 0, locals := 149 } : Room) s m ([.ref qa900, .int zi901, .int zi902, .int zi903] : List Value).toArray below meth c H locs 0 0 Q (F0 m 85 ls []) := by
                    intro zi166 H locs ls bd167 hl hw hS
                    refine lv_iinc (v := 2) (lv' := [(5, .int 2), (0, .ref qa900), (4, .int zi166)]) hx hb dX12_ahead_85 hl (k := 2) rfl (by decide) (by decide) rfl (fun ls hl => ?_)
                    refine lv_goto (tgt := 59) hx hb dX12_ahead_88 (by decide) ?_
                    refine lv_iload hx hb dX12_ahead_59 (lv_at hl 0 rfl) ?_
                    refine lv_aload_n hx hb dX12_ahead_61 rfl (lv_at hl 1 rfl) ?_
                    refine p_get (ci := 12) (v := .int 2) (C := RX12) (T := TX12) (N := 69) hx hb hT iw_X12 hown hK hw hW kd900 (by decide) rfl rfl 55 (by decide) eq134 (hT _ tb_1429) (fun _ h9 => h9) dX12_ahead_62 ?_
                    refine lv_icmp_ge (tgt := 91) hx hb dX12_ahead_65 (by decide) (fun _ => ?_) (fun c => absurd (d_le bc_2 bc_2 (by decide)) c)
                    refine lv_iload hx hb dX12_ahead_91 (lv_at hl 2 rfl) ?_
                    rw [hQ]
                    exact kz_i hx hb hr hlocks hS rfl hp58 hw ⟨ok59, (Fr.tr (Fr.rf) F60 (by decide)), (b_wid2 bd167 (by decide) (by decide))⟩ (Nat.le_of_ble_eq_true rfl) (Nat.le_of_ble_eq_true rfl) dX12_ahead_93
                  refine lv_if_ne (tgt := 85) hx hb dX12_ahead_79 (by decide) (fun cn157 => ?_) (fun cn157 => ?_)
                  · skip
                    have tf169 : (zi155 : Int32).toInt ≠ (0 : Int32).toInt := fun e => cn157 (Int32.toInt_inj.mp e)
                    have := toi bc_0
                    have bd170 : (1 : Int) ≤ zi155.toInt ∧ zi155.toInt ≤ 1 := r_ne_lo cn157 bd156 (toi bc_0) (by decide) (by decide)
                    exact jn168 zi148 _ _ ls (b_wid2 bd149 (by decide) (by decide)) (lv_sub hl [1, 2, 0] rfl) hw hS
                  · skip
                    have bd171 : (0 : Int) ≤ zi155.toInt ∧ zi155.toInt ≤ 0 := r_eq_x cn157 bd156 bc_0 (by decide) (by decide)
                    obtain ⟨zi172, ea173⟩ : ∃ z : Int32, z = zi148 + 1 := ⟨_, rfl⟩
                    have bd174 : (1 : Int) ≤ zi172.toInt ∧ zi172.toInt ≤ 2 := b_iadd ea173 bd149 bc_1 (by decide) (by decide) (by decide) (by decide)
                    have qe175 : zi172.toInt = (zi148 : Int32).toInt + (1 : Int32).toInt := e_iadd ea173 bd149 bc_1 (by decide) (by decide)
                    have qe176 : zi172.toInt = zi148.toInt + 1 := by have ha : (1 : Int32).toInt = 1 := (by decide); rw [ha] at qe175; exact qe175
                    refine lv_iinc (v := zi172) (lv' := [(4, .int zi172), (5, .int 1), (0, .ref qa900)]) hx hb dX12_ahead_82 hl (k := 2) rfl ea173.symm (by decide) rfl (fun ls hl => ?_)
                    exact jn168 zi172 _ _ ls (b_wid2 bd174 (by decide) (by decide)) (lv_sub hl [2, 0, 1] rfl) hw hS
                refine lv_if_ne (tgt := 85) hx hb dX12_ahead_79 (by decide) (fun cn144 => ?_) (fun cn144 => ?_)
                · skip
                  have tf177 : (zi142 : Int32).toInt ≠ (0 : Int32).toInt := fun e => cn144 (Int32.toInt_inj.mp e)
                  have := toi bc_0
                  have bd178 : (1 : Int) ≤ zi142.toInt ∧ zi142.toInt ≤ 1 := r_ne_lo cn144 bd143 (toi bc_0) (by decide) (by decide)
                  exact jn150 0 _ _ ls (b_wid2 bc_0 (by decide) (by decide)) (lv_sub hl [2, 1, 0] rfl) hw hS
                · skip
                  have bd179 : (0 : Int) ≤ zi142.toInt ∧ zi142.toInt ≤ 0 := r_eq_x cn144 bd143 bc_0 (by decide) (by decide)
                  refine lv_iinc (v := 1) (lv' := [(4, .int 1), (5, .int 0), (0, .ref qa900), (1, .int zi901), (2, .int zi902), (3, .int zi903)]) hx hb dX12_ahead_82 hl (k := 1) rfl (by decide) (by decide) rfl (fun ls hl => ?_)
                  exact jn150 1 _ _ ls (b_wid2 bc_1 (by decide) (by decide)) (lv_sub hl [2, 0, 1] rfl) hw hS
              by_cases cn113 : zi64 = 3
              · skip
                have eq180 : hp58 qa900 55 = .int 3 := Eq.trans eq65 (congrArg Value.int cn113)
                have tf181 : zi64.toInt = 3 := (congrArg Int32.toInt cn113).trans (toi bc_3)
                have bd182 : (0 : Int) ≤ zi81.toInt ∧ zi81.toInt ≤ 15 := (by omega)
                have bd183 : (0 : Int) ≤ zi84.toInt ∧ zi84.toInt ≤ 15 := (by omega)
                have bd184 : (0 : Int) ≤ zi87.toInt ∧ zi87.toInt ≤ 15 := (by omega)
                refine lv_iconst (v := 0) hx hb dX12_ahead_53 (by decide) ?_
                refine lv_istore (lv' := [(4, .int 0), (0, .ref qa900), (1, .int zi901), (2, .int zi902), (3, .int zi903)]) hx hb dX12_ahead_54 hl (by decide) rfl (fun ls hl => ?_)
                refine lv_iconst (v := 0) hx hb dX12_ahead_56 (by decide) ?_
                refine lv_istore (lv' := [(5, .int 0), (4, .int 0), (0, .ref qa900), (1, .int zi901), (2, .int zi902), (3, .int zi903)]) hx hb dX12_ahead_57 hl (by decide) rfl (fun ls hl => ?_)
                refine lv_iload hx hb dX12_ahead_59 (lv_at hl 0 rfl) ?_
                refine lv_aload_n hx hb dX12_ahead_61 rfl (lv_at hl 2 rfl) ?_
                refine p_get (ci := 12) (v := .int 3) (C := RX12) (T := TX12) (N := 69) hx hb hT iw_X12 hown hK hw hW kd900 (by decide) rfl rfl 55 (by decide) eq180 (hT _ tb_1429) (fun _ h9 => h9) dX12_ahead_62 ?_
                refine lv_icmp_ge (tgt := 91) hx hb dX12_ahead_65 (by decide) (fun c => absurd c (d_nle bc_3 bc_0 (by decide))) (fun _ => ?_)
                refine lv_aload_n hx hb dX12_ahead_68 rfl (lv_at hl 2 rfl) ?_
                refine lv_aload_n hx hb dX12_ahead_69 rfl (lv_at hl 2 rfl) ?_
                refine p_get (ci := 12) (v := .ref qa22) (C := RX12) (T := TX12) (N := 69) hx hb hT iw_X12 hown hK hw hW kd900 (by decide) rfl rfl 56 (by decide) eq79 (hT _ tb_1430) (fun _ h9 => h9) dX12_ahead_70 ?_
                refine lv_iload hx hb dX12_ahead_73 (lv_at hl 0 rfl) ?_
                refine p_iald (v := zi81) hx hb hK hw hW kd23 (by decide) rfl (hW.len kd23 (n := 6) rfl (by decide)) (vp_b bc_0 (by decide) (by decide)) eq80 dX12_ahead_75 ?_
                refine kq_i hw hS hA (va_runV (As := [.int zi81]) (rest := []) ⟨hx, hb, hml, hown, hT⟩ (cX12_isTrue_0 l G cy ev K ln Ls hW _ hp58 ok59 qa900 zi81 kd900 (b_wid2 bd182 (by decide) (by decide))) (cwV 1 hT (good_V tb_1746 tb_1743 tb_1745 tb_77 tb_122) rfl rfl rfl (by decide +kernel) ⟨Nat.le_of_ble_eq_true rfl, Nat.le_of_ble_eq_true rfl⟩) (pool_preV (ci := 12) hK hE hS hA hw hW kd900 (by decide) rfl) rfl rfl hl.1 rfl (lv_room (Nat.le_of_ble_eq_true rfl)) dX12_ahead_76 ⟨Nat.le_of_ble_eq_true rfl, Nat.le_of_ble_eq_true rfl⟩) (fun zi189 hp185 H locs hq188 hw hS => ?_)
                obtain ⟨ok186, F187, bd190⟩ := hq188
                obtain rfl : hp58 = hp185 := (Fr.nil F187).symm
                have hw : PW G cy K ln Ls A hp58 H := hw
                have jn197 : ∀ (zi195 : Int32) (H : Heap) (locs : List Loc) (ls : Array Slot), ((0 : Int) ≤ zi195.toInt ∧ zi195.toInt ≤ 1) → lv_has ls 6 [(0, .ref qa900), (4, .int zi195), (5, .int 0)] → PW G cy K ln Ls A hp58 H → va_S A s.heap H locs → W p l e ({ frames := 6, cells := 0, slots := 0, locals := 149 } : Room) s m ([.ref qa900, .int zi901, .int zi902, .int zi903] : List Value).toArray below meth c H locs 0 0 Q (F0 m 85 ls []) := by
                  intro zi195 H locs ls bd196 hl hw hS
                  refine lv_iinc (v := 1) (lv' := [(5, .int 1), (0, .ref qa900), (4, .int zi195)]) hx hb dX12_ahead_85 hl (k := 2) rfl (by decide) (by decide) rfl (fun ls hl => ?_)
                  refine lv_goto (tgt := 59) hx hb dX12_ahead_88 (by decide) ?_
                  refine lv_iload hx hb dX12_ahead_59 (lv_at hl 0 rfl) ?_
                  refine lv_aload_n hx hb dX12_ahead_61 rfl (lv_at hl 1 rfl) ?_
                  refine p_get (ci := 12) (v := .int 3) (C := RX12) (T := TX12) (N := 69) hx hb hT iw_X12 hown hK hw hW kd900 (by decide) rfl rfl 55 (by decide) eq180 (hT _ tb_1429) (fun _ h9 => h9) dX12_ahead_62 ?_
                  refine lv_icmp_ge (tgt := 91) hx hb dX12_ahead_65 (by decide) (fun c => absurd c (d_nle bc_3 bc_1 (by decide))) (fun _ => ?_)
                  refine lv_aload_n hx hb dX12_ahead_68 rfl (lv_at hl 1 rfl) ?_
                  refine lv_aload_n hx hb dX12_ahead_69 rfl (lv_at hl 1 rfl) ?_
                  refine p_get (ci := 12) (v := .ref qa22) (C := RX12) (T := TX12) (N := 69) hx hb hT iw_X12 hown hK hw hW kd900 (by decide) rfl rfl 56 (by decide) eq79 (hT _ tb_1430) (fun _ h9 => h9) dX12_ahead_70 ?_
                  refine lv_iload hx hb dX12_ahead_73 (lv_at hl 0 rfl) ?_
                  refine p_iald (v := zi84) hx hb hK hw hW kd23 (by decide) rfl (hW.len kd23 (n := 6) rfl (by decide)) (vp_b bc_1 (by decide) (by decide)) eq83 dX12_ahead_75 ?_
                  refine kq_i hw hS hA (va_runV (As := [.int zi84]) (rest := []) ⟨hx, hb, hml, hown, hT⟩ (cX12_isTrue_0 l G cy ev K ln Ls hW _ hp58 ok59 qa900 zi84 kd900 (b_wid2 bd183 (by decide) (by decide))) (cwV 1 hT (good_V tb_1746 tb_1743 tb_1745 tb_77 tb_122) rfl rfl rfl (by decide +kernel) ⟨Nat.le_of_ble_eq_true rfl, Nat.le_of_ble_eq_true rfl⟩) (pool_preV (ci := 12) hK hE hS hA hw hW kd900 (by decide) rfl) rfl rfl hl.1 rfl (lv_room (Nat.le_of_ble_eq_true rfl)) dX12_ahead_76 ⟨Nat.le_of_ble_eq_true rfl, Nat.le_of_ble_eq_true rfl⟩) (fun zi202 hp198 H locs hq201 hw hS => ?_)
                  obtain ⟨ok199, F200, bd203⟩ := hq201
                  obtain rfl : hp58 = hp198 := (Fr.nil F200).symm
                  have hw : PW G cy K ln Ls A hp58 H := hw
                  have jn215 : ∀ (zi213 : Int32) (H : Heap) (locs : List Loc) (ls : Array Slot), ((0 : Int) ≤ zi213.toInt ∧ zi213.toInt ≤ 2) → lv_has ls 6 [(0, .ref qa900), (4, .int zi213), (5, .int 1)] → PW G cy K ln Ls A hp58 H → va_S A s.heap H locs → W p l e ({ frames := 6, cells := 0, slots := 0, locals := 149 } : Room) s m ([.ref qa900, .int zi901, .int zi902, .int zi903] : List Value).toArray below meth c H locs 0 0 Q (F0 m 85 ls []) := by
                    intro zi213 H locs ls bd214 hl hw hS
                    refine lv_iinc (v := 2) (lv' := [(5, .int 2), (0, .ref qa900), (4, .int zi213)]) hx hb dX12_ahead_85 hl (k := 2) rfl (by decide) (by decide) rfl (fun ls hl => ?_)
                    refine lv_goto (tgt := 59) hx hb dX12_ahead_88 (by decide) ?_
                    refine lv_iload hx hb dX12_ahead_59 (lv_at hl 0 rfl) ?_
                    refine lv_aload_n hx hb dX12_ahead_61 rfl (lv_at hl 1 rfl) ?_
                    refine p_get (ci := 12) (v := .int 3) (C := RX12) (T := TX12) (N := 69) hx hb hT iw_X12 hown hK hw hW kd900 (by decide) rfl rfl 55 (by decide) eq180 (hT _ tb_1429) (fun _ h9 => h9) dX12_ahead_62 ?_
                    refine lv_icmp_ge (tgt := 91) hx hb dX12_ahead_65 (by decide) (fun c => absurd c (d_nle bc_3 bc_2 (by decide))) (fun _ => ?_)
                    refine lv_aload_n hx hb dX12_ahead_68 rfl (lv_at hl 1 rfl) ?_
                    refine lv_aload_n hx hb dX12_ahead_69 rfl (lv_at hl 1 rfl) ?_
                    refine p_get (ci := 12) (v := .ref qa22) (C := RX12) (T := TX12) (N := 69) hx hb hT iw_X12 hown hK hw hW kd900 (by decide) rfl rfl 56 (by decide) eq79 (hT _ tb_1430) (fun _ h9 => h9) dX12_ahead_70 ?_
                    refine lv_iload hx hb dX12_ahead_73 (lv_at hl 0 rfl) ?_
                    refine p_iald (v := zi87) hx hb hK hw hW kd23 (by decide) rfl (hW.len kd23 (n := 6) rfl (by decide)) (vp_b bc_2 (by decide) (by decide)) eq86 dX12_ahead_75 ?_
                    refine kq_i hw hS hA (va_runV (As := [.int zi87]) (rest := []) ⟨hx, hb, hml, hown, hT⟩ (cX12_isTrue_0 l G cy ev K ln Ls hW _ hp58 ok59 qa900 zi87 kd900 (b_wid2 bd184 (by decide) (by decide))) (cwV 1 hT (good_V tb_1746 tb_1743 tb_1745 tb_77 tb_122) rfl rfl rfl (by decide +kernel) ⟨Nat.le_of_ble_eq_true rfl, Nat.le_of_ble_eq_true rfl⟩) (pool_preV (ci := 12) hK hE hS hA hw hW kd900 (by decide) rfl) rfl rfl hl.1 rfl (lv_room (Nat.le_of_ble_eq_true rfl)) dX12_ahead_76 ⟨Nat.le_of_ble_eq_true rfl, Nat.le_of_ble_eq_true rfl⟩) (fun zi220 hp216 H locs hq219 hw hS => ?_)
                    obtain ⟨ok217, F218, bd221⟩ := hq219
                    obtain rfl : hp58 = hp216 := (Fr.nil F218).symm
                    have hw : PW G cy K ln Ls A hp58 H := hw
                    have jn233 : ∀ (zi231 : Int32) (H : Heap) (locs : List Loc) (ls : Array Slot), ((0 : Int) ≤ zi231.toInt ∧ zi231.toInt ≤ 3) → lv_has ls 6 [(0, .ref qa900), (4, .int zi231), (5, .int 2)] → PW G cy K ln Ls A hp58 H → va_S A s.heap H locs → W p l e ({ frames := 6, cells := 0, slots := 0, locals := 149 } : Room) s m ([.ref qa900, .int zi901, .int zi902, .int zi903] : List Value).toArray below meth c H locs 0 0 Q (F0 m 85 ls []) := by
                      intro zi231 H locs ls bd232 hl hw hS
                      refine lv_iinc (v := 3) (lv' := [(5, .int 3), (0, .ref qa900), (4, .int zi231)]) hx hb dX12_ahead_85 hl (k := 2) rfl (by decide) (by decide) rfl (fun ls hl => ?_)
                      refine lv_goto (tgt := 59) hx hb dX12_ahead_88 (by decide) ?_
                      refine lv_iload hx hb dX12_ahead_59 (lv_at hl 0 rfl) ?_
                      refine lv_aload_n hx hb dX12_ahead_61 rfl (lv_at hl 1 rfl) ?_
                      refine p_get (ci := 12) (v := .int 3) (C := RX12) (T := TX12) (N := 69) hx hb hT iw_X12 hown hK hw hW kd900 (by decide) rfl rfl 55 (by decide) eq180 (hT _ tb_1429) (fun _ h9 => h9) dX12_ahead_62 ?_
                      refine lv_icmp_ge (tgt := 91) hx hb dX12_ahead_65 (by decide) (fun _ => ?_) (fun c => absurd (d_le bc_3 bc_3 (by decide)) c)
                      refine lv_iload hx hb dX12_ahead_91 (lv_at hl 2 rfl) ?_
                      rw [hQ]
                      exact kz_i hx hb hr hlocks hS rfl hp58 hw ⟨ok59, (Fr.tr (Fr.rf) F60 (by decide)), (b_wid2 bd232 (by decide) (by decide))⟩ (Nat.le_of_ble_eq_true rfl) (Nat.le_of_ble_eq_true rfl) dX12_ahead_93
                    refine lv_if_ne (tgt := 85) hx hb dX12_ahead_79 (by decide) (fun cn222 => ?_) (fun cn222 => ?_)
                    · skip
                      have tf234 : (zi220 : Int32).toInt ≠ (0 : Int32).toInt := fun e => cn222 (Int32.toInt_inj.mp e)
                      have := toi bc_0
                      have bd235 : (1 : Int) ≤ zi220.toInt ∧ zi220.toInt ≤ 1 := r_ne_lo cn222 bd221 (toi bc_0) (by decide) (by decide)
                      exact jn233 zi213 _ _ ls (b_wid2 bd214 (by decide) (by decide)) (lv_sub hl [1, 2, 0] rfl) hw hS
                    · skip
                      have bd236 : (0 : Int) ≤ zi220.toInt ∧ zi220.toInt ≤ 0 := r_eq_x cn222 bd221 bc_0 (by decide) (by decide)
                      obtain ⟨zi237, ea238⟩ : ∃ z : Int32, z = zi213 + 1 := ⟨_, rfl⟩
                      have bd239 : (1 : Int) ≤ zi237.toInt ∧ zi237.toInt ≤ 3 := b_iadd ea238 bd214 bc_1 (by decide) (by decide) (by decide) (by decide)
                      have qe240 : zi237.toInt = (zi213 : Int32).toInt + (1 : Int32).toInt := e_iadd ea238 bd214 bc_1 (by decide) (by decide)
                      have qe241 : zi237.toInt = zi213.toInt + 1 := by have ha : (1 : Int32).toInt = 1 := (by decide); rw [ha] at qe240; exact qe240
                      refine lv_iinc (v := zi237) (lv' := [(4, .int zi237), (5, .int 2), (0, .ref qa900)]) hx hb dX12_ahead_82 hl (k := 2) rfl ea238.symm (by decide) rfl (fun ls hl => ?_)
                      exact jn233 zi237 _ _ ls (b_wid2 bd239 (by decide) (by decide)) (lv_sub hl [2, 0, 1] rfl) hw hS
                  refine lv_if_ne (tgt := 85) hx hb dX12_ahead_79 (by decide) (fun cn204 => ?_) (fun cn204 => ?_)
                  · skip
                    have tf242 : (zi202 : Int32).toInt ≠ (0 : Int32).toInt := fun e => cn204 (Int32.toInt_inj.mp e)
                    have := toi bc_0
                    have bd243 : (1 : Int) ≤ zi202.toInt ∧ zi202.toInt ≤ 1 := r_ne_lo cn204 bd203 (toi bc_0) (by decide) (by decide)
                    exact jn215 zi195 _ _ ls (b_wid2 bd196 (by decide) (by decide)) (lv_sub hl [1, 2, 0] rfl) hw hS
                  · skip
                    have bd244 : (0 : Int) ≤ zi202.toInt ∧ zi202.toInt ≤ 0 := r_eq_x cn204 bd203 bc_0 (by decide) (by decide)
                    obtain ⟨zi245, ea246⟩ : ∃ z : Int32, z = zi195 + 1 := ⟨_, rfl⟩
                    have bd247 : (1 : Int) ≤ zi245.toInt ∧ zi245.toInt ≤ 2 := b_iadd ea246 bd196 bc_1 (by decide) (by decide) (by decide) (by decide)
                    have qe248 : zi245.toInt = (zi195 : Int32).toInt + (1 : Int32).toInt := e_iadd ea246 bd196 bc_1 (by decide) (by decide)
                    have qe249 : zi245.toInt = zi195.toInt + 1 := by have ha : (1 : Int32).toInt = 1 := (by decide); rw [ha] at qe248; exact qe248
                    refine lv_iinc (v := zi245) (lv' := [(4, .int zi245), (5, .int 1), (0, .ref qa900)]) hx hb dX12_ahead_82 hl (k := 2) rfl ea246.symm (by decide) rfl (fun ls hl => ?_)
                    exact jn215 zi245 _ _ ls (b_wid2 bd247 (by decide) (by decide)) (lv_sub hl [2, 0, 1] rfl) hw hS
                refine lv_if_ne (tgt := 85) hx hb dX12_ahead_79 (by decide) (fun cn191 => ?_) (fun cn191 => ?_)
                · skip
                  have tf250 : (zi189 : Int32).toInt ≠ (0 : Int32).toInt := fun e => cn191 (Int32.toInt_inj.mp e)
                  have := toi bc_0
                  have bd251 : (1 : Int) ≤ zi189.toInt ∧ zi189.toInt ≤ 1 := r_ne_lo cn191 bd190 (toi bc_0) (by decide) (by decide)
                  exact jn197 0 _ _ ls (b_wid2 bc_0 (by decide) (by decide)) (lv_sub hl [2, 1, 0] rfl) hw hS
                · skip
                  have bd252 : (0 : Int) ≤ zi189.toInt ∧ zi189.toInt ≤ 0 := r_eq_x cn191 bd190 bc_0 (by decide) (by decide)
                  refine lv_iinc (v := 1) (lv' := [(4, .int 1), (5, .int 0), (0, .ref qa900), (1, .int zi901), (2, .int zi902), (3, .int zi903)]) hx hb dX12_ahead_82 hl (k := 1) rfl (by decide) (by decide) rfl (fun ls hl => ?_)
                  exact jn197 1 _ _ ls (b_wid2 bc_1 (by decide) (by decide)) (lv_sub hl [2, 0, 1] rfl) hw hS
              by_cases cn114 : zi64 = 4
              · skip
                have eq253 : hp58 qa900 55 = .int 4 := Eq.trans eq65 (congrArg Value.int cn114)
                have tf254 : zi64.toInt = 4 := (congrArg Int32.toInt cn114).trans (toi bc_4)
                have bd255 : (0 : Int) ≤ zi81.toInt ∧ zi81.toInt ≤ 15 := (by omega)
                have bd256 : (0 : Int) ≤ zi84.toInt ∧ zi84.toInt ≤ 15 := (by omega)
                have bd257 : (0 : Int) ≤ zi87.toInt ∧ zi87.toInt ≤ 15 := (by omega)
                have bd258 : (0 : Int) ≤ zi90.toInt ∧ zi90.toInt ≤ 15 := (by omega)
                refine lv_iconst (v := 0) hx hb dX12_ahead_53 (by decide) ?_
                refine lv_istore (lv' := [(4, .int 0), (0, .ref qa900), (1, .int zi901), (2, .int zi902), (3, .int zi903)]) hx hb dX12_ahead_54 hl (by decide) rfl (fun ls hl => ?_)
                refine lv_iconst (v := 0) hx hb dX12_ahead_56 (by decide) ?_
                refine lv_istore (lv' := [(5, .int 0), (4, .int 0), (0, .ref qa900), (1, .int zi901), (2, .int zi902), (3, .int zi903)]) hx hb dX12_ahead_57 hl (by decide) rfl (fun ls hl => ?_)
                refine lv_iload hx hb dX12_ahead_59 (lv_at hl 0 rfl) ?_
                refine lv_aload_n hx hb dX12_ahead_61 rfl (lv_at hl 2 rfl) ?_
                refine p_get (ci := 12) (v := .int 4) (C := RX12) (T := TX12) (N := 69) hx hb hT iw_X12 hown hK hw hW kd900 (by decide) rfl rfl 55 (by decide) eq253 (hT _ tb_1429) (fun _ h9 => h9) dX12_ahead_62 ?_
                refine lv_icmp_ge (tgt := 91) hx hb dX12_ahead_65 (by decide) (fun c => absurd c (d_nle bc_4 bc_0 (by decide))) (fun _ => ?_)
                refine lv_aload_n hx hb dX12_ahead_68 rfl (lv_at hl 2 rfl) ?_
                refine lv_aload_n hx hb dX12_ahead_69 rfl (lv_at hl 2 rfl) ?_
                refine p_get (ci := 12) (v := .ref qa22) (C := RX12) (T := TX12) (N := 69) hx hb hT iw_X12 hown hK hw hW kd900 (by decide) rfl rfl 56 (by decide) eq79 (hT _ tb_1430) (fun _ h9 => h9) dX12_ahead_70 ?_
                refine lv_iload hx hb dX12_ahead_73 (lv_at hl 0 rfl) ?_
                refine p_iald (v := zi81) hx hb hK hw hW kd23 (by decide) rfl (hW.len kd23 (n := 6) rfl (by decide)) (vp_b bc_0 (by decide) (by decide)) eq80 dX12_ahead_75 ?_
                refine kq_i hw hS hA (va_runV (As := [.int zi81]) (rest := []) ⟨hx, hb, hml, hown, hT⟩ (cX12_isTrue_0 l G cy ev K ln Ls hW _ hp58 ok59 qa900 zi81 kd900 (b_wid2 bd255 (by decide) (by decide))) (cwV 1 hT (good_V tb_1746 tb_1743 tb_1745 tb_77 tb_122) rfl rfl rfl (by decide +kernel) ⟨Nat.le_of_ble_eq_true rfl, Nat.le_of_ble_eq_true rfl⟩) (pool_preV (ci := 12) hK hE hS hA hw hW kd900 (by decide) rfl) rfl rfl hl.1 rfl (lv_room (Nat.le_of_ble_eq_true rfl)) dX12_ahead_76 ⟨Nat.le_of_ble_eq_true rfl, Nat.le_of_ble_eq_true rfl⟩) (fun zi263 hp259 H locs hq262 hw hS => ?_)
                obtain ⟨ok260, F261, bd264⟩ := hq262
                obtain rfl : hp58 = hp259 := (Fr.nil F261).symm
                have hw : PW G cy K ln Ls A hp58 H := hw
                have jn271 : ∀ (zi269 : Int32) (H : Heap) (locs : List Loc) (ls : Array Slot), ((0 : Int) ≤ zi269.toInt ∧ zi269.toInt ≤ 1) → lv_has ls 6 [(0, .ref qa900), (4, .int zi269), (5, .int 0)] → PW G cy K ln Ls A hp58 H → va_S A s.heap H locs → W p l e ({ frames := 6, cells := 0, slots := 0, locals := 149 } : Room) s m ([.ref qa900, .int zi901, .int zi902, .int zi903] : List Value).toArray below meth c H locs 0 0 Q (F0 m 85 ls []) := by
                  intro zi269 H locs ls bd270 hl hw hS
                  refine lv_iinc (v := 1) (lv' := [(5, .int 1), (0, .ref qa900), (4, .int zi269)]) hx hb dX12_ahead_85 hl (k := 2) rfl (by decide) (by decide) rfl (fun ls hl => ?_)
                  refine lv_goto (tgt := 59) hx hb dX12_ahead_88 (by decide) ?_
                  refine lv_iload hx hb dX12_ahead_59 (lv_at hl 0 rfl) ?_
                  refine lv_aload_n hx hb dX12_ahead_61 rfl (lv_at hl 1 rfl) ?_
                  refine p_get (ci := 12) (v := .int 4) (C := RX12) (T := TX12) (N := 69) hx hb hT iw_X12 hown hK hw hW kd900 (by decide) rfl rfl 55 (by decide) eq253 (hT _ tb_1429) (fun _ h9 => h9) dX12_ahead_62 ?_
                  refine lv_icmp_ge (tgt := 91) hx hb dX12_ahead_65 (by decide) (fun c => absurd c (d_nle bc_4 bc_1 (by decide))) (fun _ => ?_)
                  refine lv_aload_n hx hb dX12_ahead_68 rfl (lv_at hl 1 rfl) ?_
                  refine lv_aload_n hx hb dX12_ahead_69 rfl (lv_at hl 1 rfl) ?_
                  refine p_get (ci := 12) (v := .ref qa22) (C := RX12) (T := TX12) (N := 69) hx hb hT iw_X12 hown hK hw hW kd900 (by decide) rfl rfl 56 (by decide) eq79 (hT _ tb_1430) (fun _ h9 => h9) dX12_ahead_70 ?_
                  refine lv_iload hx hb dX12_ahead_73 (lv_at hl 0 rfl) ?_
                  refine p_iald (v := zi84) hx hb hK hw hW kd23 (by decide) rfl (hW.len kd23 (n := 6) rfl (by decide)) (vp_b bc_1 (by decide) (by decide)) eq83 dX12_ahead_75 ?_
                  refine kq_i hw hS hA (va_runV (As := [.int zi84]) (rest := []) ⟨hx, hb, hml, hown, hT⟩ (cX12_isTrue_0 l G cy ev K ln Ls hW _ hp58 ok59 qa900 zi84 kd900 (b_wid2 bd256 (by decide) (by decide))) (cwV 1 hT (good_V tb_1746 tb_1743 tb_1745 tb_77 tb_122) rfl rfl rfl (by decide +kernel) ⟨Nat.le_of_ble_eq_true rfl, Nat.le_of_ble_eq_true rfl⟩) (pool_preV (ci := 12) hK hE hS hA hw hW kd900 (by decide) rfl) rfl rfl hl.1 rfl (lv_room (Nat.le_of_ble_eq_true rfl)) dX12_ahead_76 ⟨Nat.le_of_ble_eq_true rfl, Nat.le_of_ble_eq_true rfl⟩) (fun zi276 hp272 H locs hq275 hw hS => ?_)
                  obtain ⟨ok273, F274, bd277⟩ := hq275
                  obtain rfl : hp58 = hp272 := (Fr.nil F274).symm
                  have hw : PW G cy K ln Ls A hp58 H := hw
                  have jn289 : ∀ (zi287 : Int32) (H : Heap) (locs : List Loc) (ls : Array Slot), ((0 : Int) ≤ zi287.toInt ∧ zi287.toInt ≤ 2) → lv_has ls 6 [(0, .ref qa900), (4, .int zi287), (5, .int 1)] → PW G cy K ln Ls A hp58 H → va_S A s.heap H locs → W p l e ({ frames := 6, cells := 0, slots := 0, locals := 149 } : Room) s m ([.ref qa900, .int zi901, .int zi902, .int zi903] : List Value).toArray below meth c H locs 0 0 Q (F0 m 85 ls []) := by
                    intro zi287 H locs ls bd288 hl hw hS
                    refine lv_iinc (v := 2) (lv' := [(5, .int 2), (0, .ref qa900), (4, .int zi287)]) hx hb dX12_ahead_85 hl (k := 2) rfl (by decide) (by decide) rfl (fun ls hl => ?_)
                    refine lv_goto (tgt := 59) hx hb dX12_ahead_88 (by decide) ?_
                    refine lv_iload hx hb dX12_ahead_59 (lv_at hl 0 rfl) ?_
                    refine lv_aload_n hx hb dX12_ahead_61 rfl (lv_at hl 1 rfl) ?_
                    refine p_get (ci := 12) (v := .int 4) (C := RX12) (T := TX12) (N := 69) hx hb hT iw_X12 hown hK hw hW kd900 (by decide) rfl rfl 55 (by decide) eq253 (hT _ tb_1429) (fun _ h9 => h9) dX12_ahead_62 ?_
                    refine lv_icmp_ge (tgt := 91) hx hb dX12_ahead_65 (by decide) (fun c => absurd c (d_nle bc_4 bc_2 (by decide))) (fun _ => ?_)
                    refine lv_aload_n hx hb dX12_ahead_68 rfl (lv_at hl 1 rfl) ?_
                    refine lv_aload_n hx hb dX12_ahead_69 rfl (lv_at hl 1 rfl) ?_
                    refine p_get (ci := 12) (v := .ref qa22) (C := RX12) (T := TX12) (N := 69) hx hb hT iw_X12 hown hK hw hW kd900 (by decide) rfl rfl 56 (by decide) eq79 (hT _ tb_1430) (fun _ h9 => h9) dX12_ahead_70 ?_
                    refine lv_iload hx hb dX12_ahead_73 (lv_at hl 0 rfl) ?_
                    refine p_iald (v := zi87) hx hb hK hw hW kd23 (by decide) rfl (hW.len kd23 (n := 6) rfl (by decide)) (vp_b bc_2 (by decide) (by decide)) eq86 dX12_ahead_75 ?_
                    refine kq_i hw hS hA (va_runV (As := [.int zi87]) (rest := []) ⟨hx, hb, hml, hown, hT⟩ (cX12_isTrue_0 l G cy ev K ln Ls hW _ hp58 ok59 qa900 zi87 kd900 (b_wid2 bd257 (by decide) (by decide))) (cwV 1 hT (good_V tb_1746 tb_1743 tb_1745 tb_77 tb_122) rfl rfl rfl (by decide +kernel) ⟨Nat.le_of_ble_eq_true rfl, Nat.le_of_ble_eq_true rfl⟩) (pool_preV (ci := 12) hK hE hS hA hw hW kd900 (by decide) rfl) rfl rfl hl.1 rfl (lv_room (Nat.le_of_ble_eq_true rfl)) dX12_ahead_76 ⟨Nat.le_of_ble_eq_true rfl, Nat.le_of_ble_eq_true rfl⟩) (fun zi294 hp290 H locs hq293 hw hS => ?_)
                    obtain ⟨ok291, F292, bd295⟩ := hq293
                    obtain rfl : hp58 = hp290 := (Fr.nil F292).symm
                    have hw : PW G cy K ln Ls A hp58 H := hw
                    have jn307 : ∀ (zi305 : Int32) (H : Heap) (locs : List Loc) (ls : Array Slot), ((0 : Int) ≤ zi305.toInt ∧ zi305.toInt ≤ 3) → lv_has ls 6 [(0, .ref qa900), (4, .int zi305), (5, .int 2)] → PW G cy K ln Ls A hp58 H → va_S A s.heap H locs → W p l e ({ frames := 6, cells := 0, slots := 0, locals := 149 } : Room) s m ([.ref qa900, .int zi901, .int zi902, .int zi903] : List Value).toArray below meth c H locs 0 0 Q (F0 m 85 ls []) := by
                      intro zi305 H locs ls bd306 hl hw hS
                      refine lv_iinc (v := 3) (lv' := [(5, .int 3), (0, .ref qa900), (4, .int zi305)]) hx hb dX12_ahead_85 hl (k := 2) rfl (by decide) (by decide) rfl (fun ls hl => ?_)
                      refine lv_goto (tgt := 59) hx hb dX12_ahead_88 (by decide) ?_
                      refine lv_iload hx hb dX12_ahead_59 (lv_at hl 0 rfl) ?_
                      refine lv_aload_n hx hb dX12_ahead_61 rfl (lv_at hl 1 rfl) ?_
                      refine p_get (ci := 12) (v := .int 4) (C := RX12) (T := TX12) (N := 69) hx hb hT iw_X12 hown hK hw hW kd900 (by decide) rfl rfl 55 (by decide) eq253 (hT _ tb_1429) (fun _ h9 => h9) dX12_ahead_62 ?_
                      refine lv_icmp_ge (tgt := 91) hx hb dX12_ahead_65 (by decide) (fun c => absurd c (d_nle bc_4 bc_3 (by decide))) (fun _ => ?_)
                      refine lv_aload_n hx hb dX12_ahead_68 rfl (lv_at hl 1 rfl) ?_
                      refine lv_aload_n hx hb dX12_ahead_69 rfl (lv_at hl 1 rfl) ?_
                      refine p_get (ci := 12) (v := .ref qa22) (C := RX12) (T := TX12) (N := 69) hx hb hT iw_X12 hown hK hw hW kd900 (by decide) rfl rfl 56 (by decide) eq79 (hT _ tb_1430) (fun _ h9 => h9) dX12_ahead_70 ?_
                      refine lv_iload hx hb dX12_ahead_73 (lv_at hl 0 rfl) ?_
                      refine p_iald (v := zi90) hx hb hK hw hW kd23 (by decide) rfl (hW.len kd23 (n := 6) rfl (by decide)) (vp_b bc_3 (by decide) (by decide)) eq89 dX12_ahead_75 ?_
                      refine kq_i hw hS hA (va_runV (As := [.int zi90]) (rest := []) ⟨hx, hb, hml, hown, hT⟩ (cX12_isTrue_0 l G cy ev K ln Ls hW _ hp58 ok59 qa900 zi90 kd900 (b_wid2 bd258 (by decide) (by decide))) (cwV 1 hT (good_V tb_1746 tb_1743 tb_1745 tb_77 tb_122) rfl rfl rfl (by decide +kernel) ⟨Nat.le_of_ble_eq_true rfl, Nat.le_of_ble_eq_true rfl⟩) (pool_preV (ci := 12) hK hE hS hA hw hW kd900 (by decide) rfl) rfl rfl hl.1 rfl (lv_room (Nat.le_of_ble_eq_true rfl)) dX12_ahead_76 ⟨Nat.le_of_ble_eq_true rfl, Nat.le_of_ble_eq_true rfl⟩) (fun zi312 hp308 H locs hq311 hw hS => ?_)
                      obtain ⟨ok309, F310, bd313⟩ := hq311
                      obtain rfl : hp58 = hp308 := (Fr.nil F310).symm
                      have hw : PW G cy K ln Ls A hp58 H := hw
                      have jn325 : ∀ (zi323 : Int32) (H : Heap) (locs : List Loc) (ls : Array Slot), ((0 : Int) ≤ zi323.toInt ∧ zi323.toInt ≤ 4) → lv_has ls 6 [(0, .ref qa900), (4, .int zi323), (5, .int 3)] → PW G cy K ln Ls A hp58 H → va_S A s.heap H locs → W p l e ({ frames := 6, cells := 0, slots := 0, locals := 149 } : Room) s m ([.ref qa900, .int zi901, .int zi902, .int zi903] : List Value).toArray below meth c H locs 0 0 Q (F0 m 85 ls []) := by
                        intro zi323 H locs ls bd324 hl hw hS
                        refine lv_iinc (v := 4) (lv' := [(5, .int 4), (0, .ref qa900), (4, .int zi323)]) hx hb dX12_ahead_85 hl (k := 2) rfl (by decide) (by decide) rfl (fun ls hl => ?_)
                        refine lv_goto (tgt := 59) hx hb dX12_ahead_88 (by decide) ?_
                        refine lv_iload hx hb dX12_ahead_59 (lv_at hl 0 rfl) ?_
                        refine lv_aload_n hx hb dX12_ahead_61 rfl (lv_at hl 1 rfl) ?_
                        refine p_get (ci := 12) (v := .int 4) (C := RX12) (T := TX12) (N := 69) hx hb hT iw_X12 hown hK hw hW kd900 (by decide) rfl rfl 55 (by decide) eq253 (hT _ tb_1429) (fun _ h9 => h9) dX12_ahead_62 ?_
                        refine lv_icmp_ge (tgt := 91) hx hb dX12_ahead_65 (by decide) (fun _ => ?_) (fun c => absurd (d_le bc_4 bc_4 (by decide)) c)
                        refine lv_iload hx hb dX12_ahead_91 (lv_at hl 2 rfl) ?_
                        rw [hQ]
                        exact kz_i hx hb hr hlocks hS rfl hp58 hw ⟨ok59, (Fr.tr (Fr.rf) F60 (by decide)), (b_wid2 bd324 (by decide) (by decide))⟩ (Nat.le_of_ble_eq_true rfl) (Nat.le_of_ble_eq_true rfl) dX12_ahead_93
                      refine lv_if_ne (tgt := 85) hx hb dX12_ahead_79 (by decide) (fun cn314 => ?_) (fun cn314 => ?_)
                      · skip
                        have tf326 : (zi312 : Int32).toInt ≠ (0 : Int32).toInt := fun e => cn314 (Int32.toInt_inj.mp e)
                        have := toi bc_0
                        have bd327 : (1 : Int) ≤ zi312.toInt ∧ zi312.toInt ≤ 1 := r_ne_lo cn314 bd313 (toi bc_0) (by decide) (by decide)
                        exact jn325 zi305 _ _ ls (b_wid2 bd306 (by decide) (by decide)) (lv_sub hl [1, 2, 0] rfl) hw hS
                      · skip
                        have bd328 : (0 : Int) ≤ zi312.toInt ∧ zi312.toInt ≤ 0 := r_eq_x cn314 bd313 bc_0 (by decide) (by decide)
                        obtain ⟨zi329, ea330⟩ : ∃ z : Int32, z = zi305 + 1 := ⟨_, rfl⟩
                        have bd331 : (1 : Int) ≤ zi329.toInt ∧ zi329.toInt ≤ 4 := b_iadd ea330 bd306 bc_1 (by decide) (by decide) (by decide) (by decide)
                        have qe332 : zi329.toInt = (zi305 : Int32).toInt + (1 : Int32).toInt := e_iadd ea330 bd306 bc_1 (by decide) (by decide)
                        have qe333 : zi329.toInt = zi305.toInt + 1 := by have ha : (1 : Int32).toInt = 1 := (by decide); rw [ha] at qe332; exact qe332
                        refine lv_iinc (v := zi329) (lv' := [(4, .int zi329), (5, .int 3), (0, .ref qa900)]) hx hb dX12_ahead_82 hl (k := 2) rfl ea330.symm (by decide) rfl (fun ls hl => ?_)
                        exact jn325 zi329 _ _ ls (b_wid2 bd331 (by decide) (by decide)) (lv_sub hl [2, 0, 1] rfl) hw hS
                    refine lv_if_ne (tgt := 85) hx hb dX12_ahead_79 (by decide) (fun cn296 => ?_) (fun cn296 => ?_)
                    · skip
                      have tf334 : (zi294 : Int32).toInt ≠ (0 : Int32).toInt := fun e => cn296 (Int32.toInt_inj.mp e)
                      have := toi bc_0
                      have bd335 : (1 : Int) ≤ zi294.toInt ∧ zi294.toInt ≤ 1 := r_ne_lo cn296 bd295 (toi bc_0) (by decide) (by decide)
                      exact jn307 zi287 _ _ ls (b_wid2 bd288 (by decide) (by decide)) (lv_sub hl [1, 2, 0] rfl) hw hS
                    · skip
                      have bd336 : (0 : Int) ≤ zi294.toInt ∧ zi294.toInt ≤ 0 := r_eq_x cn296 bd295 bc_0 (by decide) (by decide)
                      obtain ⟨zi337, ea338⟩ : ∃ z : Int32, z = zi287 + 1 := ⟨_, rfl⟩
                      have bd339 : (1 : Int) ≤ zi337.toInt ∧ zi337.toInt ≤ 3 := b_iadd ea338 bd288 bc_1 (by decide) (by decide) (by decide) (by decide)
                      have qe340 : zi337.toInt = (zi287 : Int32).toInt + (1 : Int32).toInt := e_iadd ea338 bd288 bc_1 (by decide) (by decide)
                      have qe341 : zi337.toInt = zi287.toInt + 1 := by have ha : (1 : Int32).toInt = 1 := (by decide); rw [ha] at qe340; exact qe340
                      refine lv_iinc (v := zi337) (lv' := [(4, .int zi337), (5, .int 2), (0, .ref qa900)]) hx hb dX12_ahead_82 hl (k := 2) rfl ea338.symm (by decide) rfl (fun ls hl => ?_)
                      exact jn307 zi337 _ _ ls (b_wid2 bd339 (by decide) (by decide)) (lv_sub hl [2, 0, 1] rfl) hw hS
                  refine lv_if_ne (tgt := 85) hx hb dX12_ahead_79 (by decide) (fun cn278 => ?_) (fun cn278 => ?_)
                  · skip
                    have tf342 : (zi276 : Int32).toInt ≠ (0 : Int32).toInt := fun e => cn278 (Int32.toInt_inj.mp e)
                    have := toi bc_0
                    have bd343 : (1 : Int) ≤ zi276.toInt ∧ zi276.toInt ≤ 1 := r_ne_lo cn278 bd277 (toi bc_0) (by decide) (by decide)
                    exact jn289 zi269 _ _ ls (b_wid2 bd270 (by decide) (by decide)) (lv_sub hl [1, 2, 0] rfl) hw hS
                  · skip
                    have bd344 : (0 : Int) ≤ zi276.toInt ∧ zi276.toInt ≤ 0 := r_eq_x cn278 bd277 bc_0 (by decide) (by decide)
                    obtain ⟨zi345, ea346⟩ : ∃ z : Int32, z = zi269 + 1 := ⟨_, rfl⟩
                    have bd347 : (1 : Int) ≤ zi345.toInt ∧ zi345.toInt ≤ 2 := b_iadd ea346 bd270 bc_1 (by decide) (by decide) (by decide) (by decide)
                    have qe348 : zi345.toInt = (zi269 : Int32).toInt + (1 : Int32).toInt := e_iadd ea346 bd270 bc_1 (by decide) (by decide)
                    have qe349 : zi345.toInt = zi269.toInt + 1 := by have ha : (1 : Int32).toInt = 1 := (by decide); rw [ha] at qe348; exact qe348
                    refine lv_iinc (v := zi345) (lv' := [(4, .int zi345), (5, .int 1), (0, .ref qa900)]) hx hb dX12_ahead_82 hl (k := 2) rfl ea346.symm (by decide) rfl (fun ls hl => ?_)
                    exact jn289 zi345 _ _ ls (b_wid2 bd347 (by decide) (by decide)) (lv_sub hl [2, 0, 1] rfl) hw hS
                refine lv_if_ne (tgt := 85) hx hb dX12_ahead_79 (by decide) (fun cn265 => ?_) (fun cn265 => ?_)
                · skip
                  have tf350 : (zi263 : Int32).toInt ≠ (0 : Int32).toInt := fun e => cn265 (Int32.toInt_inj.mp e)
                  have := toi bc_0
                  have bd351 : (1 : Int) ≤ zi263.toInt ∧ zi263.toInt ≤ 1 := r_ne_lo cn265 bd264 (toi bc_0) (by decide) (by decide)
                  exact jn271 0 _ _ ls (b_wid2 bc_0 (by decide) (by decide)) (lv_sub hl [2, 1, 0] rfl) hw hS
                · skip
                  have bd352 : (0 : Int) ≤ zi263.toInt ∧ zi263.toInt ≤ 0 := r_eq_x cn265 bd264 bc_0 (by decide) (by decide)
                  refine lv_iinc (v := 1) (lv' := [(4, .int 1), (5, .int 0), (0, .ref qa900), (1, .int zi901), (2, .int zi902), (3, .int zi903)]) hx hb dX12_ahead_82 hl (k := 1) rfl (by decide) (by decide) rfl (fun ls hl => ?_)
                  exact jn271 1 _ _ ls (b_wid2 bc_1 (by decide) (by decide)) (lv_sub hl [2, 0, 1] rfl) hw hS
              have nn353 : zi64.toInt ≠ 1 := fun e => cn111 (Int32.toInt_inj.mp (e.trans (by decide)))
              have nn354 : zi64.toInt ≠ 2 := fun e => cn112 (Int32.toInt_inj.mp (e.trans (by decide)))
              have nn355 : zi64.toInt ≠ 3 := fun e => cn113 (Int32.toInt_inj.mp (e.trans (by decide)))
              have nn356 : zi64.toInt ≠ 4 := fun e => cn114 (Int32.toInt_inj.mp (e.trans (by decide)))
              exact False.elim (by have := bd101; omega)
            · skip
              have bd357 : (0 : Int) ≤ zi903.toInt ∧ zi903.toInt ≤ 0 := r_eq_x cn108 bd57 bc_0 (by decide) (by decide)
              refine lv_aload_n hx hb dX12_ahead_48 rfl (lv_at hl 0 rfl) ?_
              refine p_get (ci := 12) (v := .int zi64) (C := RX12) (T := TX12) (N := 69) hx hb hT iw_X12 hown hK hw hW kd900 (by decide) rfl rfl 55 (by decide) eq65 (hT _ tb_1429) (fun _ h9 => h9) dX12_ahead_49 ?_
              rw [hQ]
              exact kz_i hx hb hr hlocks hS rfl hp58 hw ⟨ok59, (Fr.tr (Fr.rf) F60 (by decide)), (b_wid2 bd101 (by decide) (by decide))⟩ (Nat.le_of_ble_eq_true rfl) (Nat.le_of_ble_eq_true rfl) dX12_ahead_52

set_option maxRecDepth 100000 in
set_option maxHeartbeats 4000000 in
theorem cX12_aheadAt_0 (l : Launch) (G : va_G) (cy : Nat → ClassId) (ev : Ew) (K ln : Nat → Nat) (Ls : List Nat) (hW : SW K ln Ls) (sz : Nat) (hp0 : Nat → Nat → Value) (ok0 : Ok K hp0) (qa900 : Nat) (zi901 : Int32) (zi902 : Int32) (zi903 : Int32) (kd900 : K qa900 = 13) (pdLW : LW hp0 qa900) : Met l yX12_aheadAt (WS yX12_aheadAt cX12_aheadAt 4 (some .int)) { frames := 6, cells := 0, slots := 0, locals := 149 } (PB2 [.ref qa900, .int zi901, .int zi902, .int zi903] sz G cy ev (va_pl Ls (cellOf cy K ln hp0))) (QBi (S := (Nat → Nat → Value)) (fun (r : Int32) (u : (Nat → Nat → Value)) => Ok K u ∧ Fr [13048, 13051, 13055, 90000, 91000, 93000, 95000] K hp0 u ∧ ((-2 : Int) ≤ r.toInt ∧ r.toInt ≤ 16)) G (fun u => va_pl Ls (cellOf cy K ln u)) (va_A (va_pl Ls (cellOf cy K ln hp0)) sz)) 0 0 (va_A (va_pl Ls (cellOf cy K ln hp0)) sz) := by
  refine met_of2 (y := yX12_aheadAt) (L := 4) (av := [.ref qa900, .int zi901, .int zi902, .int zi903]) (Qc := fun A => QBi (S := (Nat → Nat → Value)) (fun (r : Int32) (u : (Nat → Nat → Value)) => Ok K u ∧ Fr [13048, 13051, 13055, 90000, 91000, 93000, 95000] K hp0 u ∧ ((-2 : Int) ≤ r.toInt ∧ r.toInt ≤ 16)) G (fun u => va_pl Ls (cellOf cy K ln u)) A) (plainFor_of_name (by decide)) (Nat.le_of_ble_eq_true rfl) ?_
  intro p e s m below meth c hsz hx hb hr hml hown hT hlocks hin hK A hA hE hw hS ls hl
  have hw : PW G cy K ln Ls A hp0 s.heap := hw
  have hown : s.vm.findClass "LieClockModel" = some m.cls := hown
  have hl : lv_has ls 4 [(0, .ref qa900), (1, .int zi901), (2, .int zi902), (3, .int zi903)] := hl
  obtain ⟨Q, hQ⟩ : ∃ Q : State → Prop, Q = MQ below (QBi (S := (Nat → Nat → Value)) (fun (r : Int32) (u : (Nat → Nat → Value)) => Ok K u ∧ Fr [13048, 13051, 13055, 90000, 91000, 93000, 95000] K hp0 u ∧ ((-2 : Int) ≤ r.toInt ∧ r.toInt ≤ 16)) G (fun u => va_pl Ls (cellOf cy K ln u)) A) ([.ref qa900, .int zi901, .int zi902, .int zi903] : List Value).toArray s 0 0 A := ⟨_, rfl⟩
  rw [← hQ]
  refine lv_aload_n hx hb dX12_aheadAt_0 rfl (lv_at hl 0 rfl) ?_
  refine lv_iload_n hx hb dX12_aheadAt_1 rfl (lv_at hl 1 rfl) ?_
  refine kq_i hw hS hA (va_runV (As := [.int zi901]) (rest := []) ⟨hx, hb, hml, hown, hT⟩ (cX12_isCase_0 l G cy ev K ln Ls hW _ hp0 ok0 qa900 zi901 kd900) (cwV 1 hT (good_V tb_1797 tb_1794 tb_1796 tb_85 tb_122) rfl rfl rfl (by decide +kernel) ⟨Nat.le_of_ble_eq_true rfl, Nat.le_of_ble_eq_true rfl⟩) (pool_preV (ci := 12) hK hE hS hA hw hW kd900 (by decide) rfl) rfl rfl hl.1 rfl (lv_room (Nat.le_of_ble_eq_true rfl)) dX12_aheadAt_2 ⟨Nat.le_of_ble_eq_true rfl, Nat.le_of_ble_eq_true rfl⟩) (fun zi5 hp1 H locs hq4 hw hS => ?_)
  obtain ⟨ok2, F3, bd6, hc7⟩ := hq4
  obtain rfl : hp0 = hp1 := (Fr.nil F3).symm
  have hw : PW G cy K ln Ls A hp0 H := hw
  rcases b01 bd6 with cn8 | cn8
  · skip
    subst cn8
    refine lv_if_eq (tgt := 25) hx hb dX12_aheadAt_5 (by decide) (fun _ => ?_) (fun c => absurd (d_eq bc_0 bc_0) c)
    refine lv_iconst (v := (-1)) hx hb dX12_aheadAt_25 (by decide) ?_
    rw [hQ]
    exact kz_i hx hb hr hlocks hS rfl hp0 hw ⟨ok0, (Fr.rf), (b_wid2 bc_m1 (by decide) (by decide))⟩ (Nat.le_of_ble_eq_true rfl) (Nat.le_of_ble_eq_true rfl) dX12_aheadAt_26
  · skip
    subst cn8
    have bd9 : (0 : Int) ≤ zi901.toInt ∧ zi901.toInt ≤ 7 := b_meet (b_all zi901) (hc7 rfl) (by decide) (by decide)
    refine lv_if_eq (tgt := 25) hx hb dX12_aheadAt_5 (by decide) (fun c => absurd c (d_ne bc_1 bc_0 (by decide))) (fun _ => ?_)
    refine lv_aload_n hx hb dX12_aheadAt_8 rfl (lv_at hl 0 rfl) ?_
    refine lv_iload_n hx hb dX12_aheadAt_9 rfl (lv_at hl 2 rfl) ?_
    refine kq_i hw hS hA (va_runV (As := [.int zi902]) (rest := []) ⟨hx, hb, hml, hown, hT⟩ (cX12_isCase_0 l G cy ev K ln Ls hW _ hp0 ok0 qa900 zi902 kd900) (cwV 1 hT (good_V tb_1797 tb_1794 tb_1796 tb_85 tb_122) rfl rfl rfl (by decide +kernel) ⟨Nat.le_of_ble_eq_true rfl, Nat.le_of_ble_eq_true rfl⟩) (pool_preV (ci := 12) hK hE hS hA hw hW kd900 (by decide) rfl) rfl rfl hl.1 rfl (lv_room (Nat.le_of_ble_eq_true rfl)) dX12_aheadAt_10 ⟨Nat.le_of_ble_eq_true rfl, Nat.le_of_ble_eq_true rfl⟩) (fun zi14 hp10 H locs hq13 hw hS => ?_)
    obtain ⟨ok11, F12, bd15, hc16⟩ := hq13
    obtain rfl : hp0 = hp10 := (Fr.nil F12).symm
    have hw : PW G cy K ln Ls A hp0 H := hw
    rcases b01 bd15 with cn17 | cn17
    · skip
      subst cn17
      refine lv_if_eq (tgt := 25) hx hb dX12_aheadAt_13 (by decide) (fun _ => ?_) (fun c => absurd (d_eq bc_0 bc_0) c)
      refine lv_iconst (v := (-1)) hx hb dX12_aheadAt_25 (by decide) ?_
      rw [hQ]
      exact kz_i hx hb hr hlocks hS rfl hp0 hw ⟨ok0, (Fr.rf), (b_wid2 bc_m1 (by decide) (by decide))⟩ (Nat.le_of_ble_eq_true rfl) (Nat.le_of_ble_eq_true rfl) dX12_aheadAt_26
    · skip
      subst cn17
      have bd18 : (0 : Int) ≤ zi902.toInt ∧ zi902.toInt ≤ 7 := b_meet (b_all zi902) (hc16 rfl) (by decide) (by decide)
      refine lv_if_eq (tgt := 25) hx hb dX12_aheadAt_13 (by decide) (fun c => absurd c (d_ne bc_1 bc_0 (by decide))) (fun _ => ?_)
      refine lv_iload_n hx hb dX12_aheadAt_16 rfl (lv_at hl 1 rfl) ?_
      refine lv_iload_n hx hb dX12_aheadAt_17 rfl (lv_at hl 2 rfl) ?_
      refine lv_icmp_eq (tgt := 25) hx hb dX12_aheadAt_18 (by decide) (fun cn19 => ?_) (fun cn19 => ?_)
      · skip
        refine lv_iconst (v := (-1)) hx hb dX12_aheadAt_25 (by decide) ?_
        rw [hQ]
        exact kz_i hx hb hr hlocks hS rfl hp0 hw ⟨ok0, (Fr.rf), (b_wid2 bc_m1 (by decide) (by decide))⟩ (Nat.le_of_ble_eq_true rfl) (Nat.le_of_ble_eq_true rfl) dX12_aheadAt_26
      · skip
        refine lv_iload_n hx hb dX12_aheadAt_21 rfl (lv_at hl 3 rfl) ?_
        refine lv_if_ge (tgt := 27) hx hb dX12_aheadAt_22 (by decide) (fun cn20 => ?_) (fun cn20 => ?_)
        · skip
          have bd21 : (0 : Int) ≤ zi903.toInt ∧ zi903.toInt ≤ 2147483647 := r_le_y cn20 bc_0 (b_all zi903) (by decide) (by decide)
          refine lv_aload_n hx hb dX12_aheadAt_27 rfl (lv_at hl 0 rfl) ?_
          refine lv_iload_n hx hb dX12_aheadAt_28 rfl (lv_at hl 1 rfl) ?_
          refine lv_iload_n hx hb dX12_aheadAt_29 rfl (lv_at hl 2 rfl) ?_
          obtain ⟨zi23, eq22, bd24⟩ := rd_13055 ok0 kd900
          obtain ⟨qa26, eq25, kd27⟩ := rd_13056 ok0 kd900
          obtain ⟨zi29, eq28, bd30⟩ := rd_95000 ok0 kd27 ((0 : Int32).toNatClampNeg)
          obtain ⟨zi32, eq31, bd33⟩ := rd_95000 ok0 kd27 ((1 : Int32).toNatClampNeg)
          obtain ⟨zi35, eq34, bd36⟩ := rd_95000 ok0 kd27 ((2 : Int32).toNatClampNeg)
          obtain ⟨zi38, eq37, bd39⟩ := rd_95000 ok0 kd27 ((3 : Int32).toNatClampNeg)
          obtain ⟨qa41, eq40, kd42⟩ := rd_13028 ok0 kd900
          obtain ⟨zi44, eq43, bd45⟩ := rd_13018 ok0 kd900
          obtain ⟨zi47, eq46, bd48⟩ := rd_74000 ok0 kd42 ((zi44 : Int32).toNatClampNeg)
          refine kq_i hw hS hA (va_runV (As := [.int zi901, .int zi902]) (rest := []) ⟨hx, hb, hml, hown, hT⟩ (cX12_findsAhead_0 l G cy ev K ln Ls hW _ hp0 ok0 qa900 zi901 zi902 kd900 (b_wid2 bd9 (by decide) (by decide)) (b_wid2 bd18 (by decide) (by decide)) pdLW) (cwV 2 hT (good_V tb_1859 tb_1856 tb_1858 tb_94 tb_122) rfl rfl rfl (by decide +kernel) ⟨Nat.le_of_ble_eq_true rfl, Nat.le_of_ble_eq_true rfl⟩) (pool_preV (ci := 12) hK hE hS hA hw hW kd900 (by decide) rfl) rfl rfl hl.1 rfl (lv_room (Nat.le_of_ble_eq_true rfl)) dX12_aheadAt_30 ⟨Nat.le_of_ble_eq_true rfl, Nat.le_of_ble_eq_true rfl⟩) (fun zi53 hp49 H locs hq52 hw hS => ?_)
          obtain ⟨ok50, F51, bd54, ⟨zi55, eq56, bd57⟩, hc58, hc59, rh60, rh61, rh62, rh63, rh64, rh65⟩ := hq52
          have hw : PW G cy K ln Ls A hp49 H := hw
          rcases b01 bd54 with cn66 | cn66
          · skip
            subst cn66
            obtain ⟨zi67, eq68, bd69⟩ := hc58 rfl
            have hx70 : zi55 = zi67 := Value.int.inj (Eq.trans (Eq.symm eq56) eq68)
            subst hx70
            have bd71 : (5 : Int) ≤ zi55.toInt ∧ zi55.toInt ≤ 5 := b_meet bd57 bd69 (by decide) (by decide)
            refine lv_if_ne (tgt := 39) hx hb dX12_aheadAt_33 (by decide) (fun c => absurd (d_eq bc_0 bc_0) c) (fun _ => ?_)
            refine lv_bipush (v := (-2)) hx hb dX12_aheadAt_36 (by decide) ?_
            rw [hQ]
            exact kz_i hx hb hr hlocks hS rfl hp49 hw ⟨ok50, (Fr.tr (Fr.rf) F51 (by decide)), (b_wid2 bc_m2 (by decide) (by decide))⟩ (Nat.le_of_ble_eq_true rfl) (Nat.le_of_ble_eq_true rfl) dX12_aheadAt_38
          · skip
            subst cn66
            obtain ⟨zi72, eq73, bd74⟩ := hc59 rfl
            have hx75 : zi55 = zi72 := Value.int.inj (Eq.trans (Eq.symm eq56) eq73)
            subst hx75
            have bd76 : (1 : Int) ≤ zi55.toInt ∧ zi55.toInt ≤ 4 := b_meet bd57 bd74 (by decide) (by decide)
            have eq77 : hp49 qa900 56 = .ref qa26 := Eq.trans (Fr.at (cq := 13056) F51 kd900 (cd_o (by decide)) (by decide)) eq25
            obtain ⟨zi79, eq78, bd80⟩ := rd_95000 ok50 kd27 ((0 : Int32).toNatClampNeg)
            have eq81 : hp49 qa900 28 = .ref qa41 := Eq.trans (Fr.at (cq := 13028) F51 kd900 (cd_o (by decide)) (by decide)) eq40
            have eq82 : hp49 qa900 18 = .int zi44 := Eq.trans (Fr.at (cq := 13018) F51 kd900 (cd_o (by decide)) (by decide)) eq43
            have eq83 : hp49 qa41 (zi44 : Int32).toNatClampNeg = .int zi47 := Eq.trans (Fr.at (cq := 74000) F51 kd42 (cd_a (by decide)) (by decide)) eq46
            have rh84 := rh60 rfl
            simp only [ga_of eq77 eq78, ge_of eq81 eq82 eq83, gi_of eq56] at rh84
            obtain ⟨zi86, eq85, bd87⟩ := rd_95000 ok50 kd27 ((1 : Int32).toNatClampNeg)
            have rh88 := rh61 rfl
            simp only [ga_of eq77 eq85, ge_of eq81 eq82 eq83, gi_of eq56] at rh88
            obtain ⟨zi90, eq89, bd91⟩ := rd_95000 ok50 kd27 ((2 : Int32).toNatClampNeg)
            have rh92 := rh62 rfl
            simp only [ga_of eq77 eq89, ge_of eq81 eq82 eq83, gi_of eq56] at rh92
            obtain ⟨zi94, eq93, bd95⟩ := rd_95000 ok50 kd27 ((3 : Int32).toNatClampNeg)
            have rh96 := rh63 rfl
            simp only [ga_of eq77 eq93, ge_of eq81 eq82 eq83, gi_of eq56] at rh96
            have rh97 := rh64 rfl
            simp only [gi_of eq56] at rh97
            have rh98 := rh65 rfl
            simp only [gi_of eq56] at rh98
            refine lv_if_ne (tgt := 39) hx hb dX12_aheadAt_33 (by decide) (fun _ => ?_) (fun c => absurd c (d_ne bc_1 bc_0 (by decide)))
            refine lv_iload_n hx hb dX12_aheadAt_39 rfl (lv_at hl 3 rfl) ?_
            refine lv_aload_n hx hb dX12_aheadAt_40 rfl (lv_at hl 0 rfl) ?_
            refine p_get (ci := 12) (v := .int zi55) (C := RX12) (T := TX12) (N := 69) hx hb hT iw_X12 hown hK hw hW kd900 (by decide) rfl rfl 55 (by decide) eq56 (hT _ tb_1429) (fun _ h9 => h9) dX12_aheadAt_41 ?_
            refine lv_icmp_ge (tgt := 56) hx hb dX12_aheadAt_44 (by decide) (fun cn99 => ?_) (fun cn99 => ?_)
            · skip
              have bd100 : (1 : Int) ≤ zi903.toInt ∧ zi903.toInt ≤ 2147483647 := r_le_y cn99 bd76 bd21 (by decide) (by decide)
              refine lv_iconst (v := (-1)) hx hb dX12_aheadAt_56 (by decide) ?_
              rw [hQ]
              exact kz_i hx hb hr hlocks hS rfl hp49 hw ⟨ok50, (Fr.tr (Fr.rf) F51 (by decide)), (b_wid2 bc_m1 (by decide) (by decide))⟩ (Nat.le_of_ble_eq_true rfl) (Nat.le_of_ble_eq_true rfl) dX12_aheadAt_57
            · skip
              have bd101 : (0 : Int) ≤ zi903.toInt ∧ zi903.toInt ≤ 3 := r_lt_x (Int32.not_le.mp cn99) bd21 bd76 (by decide) (by decide)
              refine lv_aload_n hx hb dX12_aheadAt_47 rfl (lv_at hl 0 rfl) ?_
              refine p_get (ci := 12) (v := .ref qa26) (C := RX12) (T := TX12) (N := 69) hx hb hT iw_X12 hown hK hw hW kd900 (by decide) rfl rfl 56 (by decide) eq77 (hT _ tb_1430) (fun _ h9 => h9) dX12_aheadAt_48 ?_
              refine lv_iload_n hx hb dX12_aheadAt_51 rfl (lv_at hl 3 rfl) ?_
              obtain ⟨zi103, eq102, bd104⟩ := rd_95000 ok50 kd27 ((zi903 : Int32).toNatClampNeg)
              refine p_iald (v := zi103) hx hb hK hw hW kd27 (by decide) rfl (hW.len kd27 (n := 6) rfl (by decide)) (vp_b bd101 (by decide) (by decide)) eq102 dX12_aheadAt_52 ?_
              refine lv_goto (tgt := 57) hx hb dX12_aheadAt_53 (by decide) ?_
              rw [hQ]
              exact kz_i hx hb hr hlocks hS rfl hp49 hw ⟨ok50, (Fr.tr (Fr.rf) F51 (by decide)), (b_wid2 bd104 (by decide) (by decide))⟩ (Nat.le_of_ble_eq_true rfl) (Nat.le_of_ble_eq_true rfl) dX12_aheadAt_57
        · skip
          have bd105 : (-2147483648 : Int) ≤ zi903.toInt ∧ zi903.toInt ≤ -1 := r_lt_x (Int32.not_le.mp cn20) (b_all zi903) bc_0 (by decide) (by decide)
          refine lv_iconst (v := (-1)) hx hb dX12_aheadAt_25 (by decide) ?_
          rw [hQ]
          exact kz_i hx hb hr hlocks hS rfl hp0 hw ⟨ok0, (Fr.rf), (b_wid2 bc_m1 (by decide) (by decide))⟩ (Nat.le_of_ble_eq_true rfl) (Nat.le_of_ble_eq_true rfl) dX12_aheadAt_26

set_option maxRecDepth 100000 in
set_option maxHeartbeats 4000000 in
theorem cX12_in_5 (l : Launch) (G : va_G) (cy : Nat → ClassId) (ev : Ew) (K ln : Nat → Nat) (Ls : List Nat) (hW : SW K ln Ls) (sz : Nat) (hp0 : Nat → Nat → Value) (ok0 : Ok K hp0) (zi900 : Int32) (zi901 : Int32) (zi902 : Int32) (bd901 : ((0 : Int) ≤ zi901.toInt ∧ zi901.toInt ≤ 0)) (bd902 : ((0 : Int) ≤ zi902.toInt ∧ zi902.toInt ≤ 65535)) : Met l yX12_in (WS yX12_in cX12_in 3 (some .boolean)) { frames := 0, cells := 0, slots := 0, locals := 0 } (PB2 [.int zi900, .int zi901, .int zi902] sz G cy ev (va_pl Ls (cellOf cy K ln hp0))) (QBi (S := (Nat → Nat → Value)) (fun (r : Int32) (u : (Nat → Nat → Value)) => Ok K u ∧ Fr [] K hp0 u ∧ ((0 : Int) ≤ r.toInt ∧ r.toInt ≤ 1) ∧ (r = 1 → ((0 : Int) ≤ zi900.toInt ∧ zi900.toInt ≤ 65535))) G (fun u => va_pl Ls (cellOf cy K ln u)) (va_A (va_pl Ls (cellOf cy K ln hp0)) sz)) 0 0 (va_A (va_pl Ls (cellOf cy K ln hp0)) sz) := by
  refine met_of2 (y := yX12_in) (L := 3) (av := [.int zi900, .int zi901, .int zi902]) (Qc := fun A => QBi (S := (Nat → Nat → Value)) (fun (r : Int32) (u : (Nat → Nat → Value)) => Ok K u ∧ Fr [] K hp0 u ∧ ((0 : Int) ≤ r.toInt ∧ r.toInt ≤ 1) ∧ (r = 1 → ((0 : Int) ≤ zi900.toInt ∧ zi900.toInt ≤ 65535))) G (fun u => va_pl Ls (cellOf cy K ln u)) A) (plainFor_of_name (by decide)) (Nat.le_of_ble_eq_true rfl) ?_
  intro p e s m below meth c hsz hx hb hr hml hown hT hlocks hin hK A hA hE hw hS ls hl
  have hw : PW G cy K ln Ls A hp0 s.heap := hw
  have hown : s.vm.findClass "LieClockModel" = some m.cls := hown
  have hl : lv_has ls 3 [(0, .int zi900), (1, .int zi901), (2, .int zi902)] := hl
  obtain ⟨Q, hQ⟩ : ∃ Q : State → Prop, Q = MQ below (QBi (S := (Nat → Nat → Value)) (fun (r : Int32) (u : (Nat → Nat → Value)) => Ok K u ∧ Fr [] K hp0 u ∧ ((0 : Int) ≤ r.toInt ∧ r.toInt ≤ 1) ∧ (r = 1 → ((0 : Int) ≤ zi900.toInt ∧ zi900.toInt ≤ 65535))) G (fun u => va_pl Ls (cellOf cy K ln u)) A) ([.int zi900, .int zi901, .int zi902] : List Value).toArray s 0 0 A := ⟨_, rfl⟩
  rw [← hQ]
  refine lv_iload_n hx hb dX12_in_0 rfl (lv_at hl 0 rfl) ?_
  refine lv_iload_n hx hb dX12_in_1 rfl (lv_at hl 1 rfl) ?_
  refine lv_icmp_lt (tgt := 14) hx hb dX12_in_2 (by decide) (fun cn1 => ?_) (fun cn1 => ?_)
  · skip
    have bd2 : (-2147483648 : Int) ≤ zi900.toInt ∧ zi900.toInt ≤ -1 := r_lt_x cn1 (b_all zi900) bd901 (by decide) (by decide)
    refine lv_iconst (v := 0) hx hb dX12_in_14 (by decide) ?_
    rw [hQ]
    exact kz_i hx hb hr hlocks hS (nz_n bc_0 (by decide) (by decide)) hp0 hw ⟨ok0, (Fr.rf), (b_wid2 bc_0 (by decide) (by decide)), (fun h => absurd h (by decide))⟩ (Nat.le_of_ble_eq_true rfl) (Nat.le_of_ble_eq_true rfl) dX12_in_15
  · skip
    have bd3 : (0 : Int) ≤ zi900.toInt ∧ zi900.toInt ≤ 2147483647 := r_le_y (Int32.not_lt.mp cn1) bd901 (b_all zi900) (by decide) (by decide)
    refine lv_iload_n hx hb dX12_in_5 rfl (lv_at hl 0 rfl) ?_
    refine lv_iload_n hx hb dX12_in_6 rfl (lv_at hl 2 rfl) ?_
    refine lv_icmp_gt (tgt := 14) hx hb dX12_in_7 (by decide) (fun cn4 => ?_) (fun cn4 => ?_)
    · skip
      have bd5 : (1 : Int) ≤ zi900.toInt ∧ zi900.toInt ≤ 2147483647 := r_lt_y cn4 bd902 bd3 (by decide) (by decide)
      refine lv_iconst (v := 0) hx hb dX12_in_14 (by decide) ?_
      rw [hQ]
      exact kz_i hx hb hr hlocks hS (nz_n bc_0 (by decide) (by decide)) hp0 hw ⟨ok0, (Fr.rf), (b_wid2 bc_0 (by decide) (by decide)), (fun h => absurd h (by decide))⟩ (Nat.le_of_ble_eq_true rfl) (Nat.le_of_ble_eq_true rfl) dX12_in_15
    · skip
      have bd6 : (0 : Int) ≤ zi900.toInt ∧ zi900.toInt ≤ 65535 := r_le_x (Int32.not_lt.mp cn4) bd3 bd902 (by decide) (by decide)
      refine lv_iconst (v := 1) hx hb dX12_in_10 (by decide) ?_
      refine lv_goto (tgt := 15) hx hb dX12_in_11 (by decide) ?_
      rw [hQ]
      exact kz_i hx hb hr hlocks hS (nz_n bc_1 (by decide) (by decide)) hp0 hw ⟨ok0, (Fr.rf), (b_wid2 bc_1 (by decide) (by decide)), (fun _ => b_wid2 bd6 (by decide) (by decide))⟩ (Nat.le_of_ble_eq_true rfl) (Nat.le_of_ble_eq_true rfl) dX12_in_15

set_option maxRecDepth 100000 in
set_option maxHeartbeats 4000000 in
theorem cX12_isSet_0 (l : Launch) (G : va_G) (cy : Nat → ClassId) (ev : Ew) (K ln : Nat → Nat) (Ls : List Nat) (hW : SW K ln Ls) (sz : Nat) (hp0 : Nat → Nat → Value) (ok0 : Ok K hp0) (qa900 : Nat) (zi901 : Int32) (kd900 : K qa900 = 13) : Met l yX12_isSet (WS yX12_isSet cX12_isSet 2 (some .boolean)) { frames := 1, cells := 0, slots := 0, locals := 22 } (PB2 [.ref qa900, .int zi901] sz G cy ev (va_pl Ls (cellOf cy K ln hp0))) (QBi (S := (Nat → Nat → Value)) (fun (r : Int32) (u : (Nat → Nat → Value)) => Ok K u ∧ Fr [] K hp0 u ∧ ((0 : Int) ≤ r.toInt ∧ r.toInt ≤ 1) ∧ (r = 1 → ((0 : Int) ≤ zi901.toInt ∧ zi901.toInt ≤ 65535))) G (fun u => va_pl Ls (cellOf cy K ln u)) (va_A (va_pl Ls (cellOf cy K ln hp0)) sz)) 0 0 (va_A (va_pl Ls (cellOf cy K ln hp0)) sz) := by
  refine met_of2 (y := yX12_isSet) (L := 2) (av := [.ref qa900, .int zi901]) (Qc := fun A => QBi (S := (Nat → Nat → Value)) (fun (r : Int32) (u : (Nat → Nat → Value)) => Ok K u ∧ Fr [] K hp0 u ∧ ((0 : Int) ≤ r.toInt ∧ r.toInt ≤ 1) ∧ (r = 1 → ((0 : Int) ≤ zi901.toInt ∧ zi901.toInt ≤ 65535))) G (fun u => va_pl Ls (cellOf cy K ln u)) A) (plainFor_of_name (by decide)) (Nat.le_of_ble_eq_true rfl) ?_
  intro p e s m below meth c hsz hx hb hr hml hown hT hlocks hin hK A hA hE hw hS ls hl
  have hw : PW G cy K ln Ls A hp0 s.heap := hw
  have hown : s.vm.findClass "LieClockModel" = some m.cls := hown
  have hl : lv_has ls 2 [(0, .ref qa900), (1, .int zi901)] := hl
  obtain ⟨Q, hQ⟩ : ∃ Q : State → Prop, Q = MQ below (QBi (S := (Nat → Nat → Value)) (fun (r : Int32) (u : (Nat → Nat → Value)) => Ok K u ∧ Fr [] K hp0 u ∧ ((0 : Int) ≤ r.toInt ∧ r.toInt ≤ 1) ∧ (r = 1 → ((0 : Int) ≤ zi901.toInt ∧ zi901.toInt ≤ 65535))) G (fun u => va_pl Ls (cellOf cy K ln u)) A) ([.ref qa900, .int zi901] : List Value).toArray s 0 0 A := ⟨_, rfl⟩
  rw [← hQ]
  refine lv_iload_n hx hb dX12_isSet_0 rfl (lv_at hl 1 rfl) ?_
  refine lv_iconst (v := 0) hx hb dX12_isSet_1 (by decide) ?_
  refine lv_iconst (v := 1) hx hb dX12_isSet_2 (by decide) ?_
  refine lv_aload_n hx hb dX12_isSet_3 rfl (lv_at hl 0 rfl) ?_
  obtain ⟨qa2, eq1, kd3⟩ := rd_13028 ok0 kd900
  refine p_get (ci := 12) (v := .ref qa2) (C := RX12) (T := TX12) (N := 69) hx hb hT iw_X12 hown hK hw hW kd900 (by decide) rfl rfl 28 (by decide) eq1 (hT _ tb_1402) (fun _ h9 => h9) dX12_isSet_4 ?_
  refine lv_aload_n hx hb dX12_isSet_7 rfl (lv_at hl 0 rfl) ?_
  obtain ⟨zi5, eq4, bd6⟩ := rd_13018 ok0 kd900
  refine p_get (ci := 12) (v := .int zi5) (C := RX12) (T := TX12) (N := 69) hx hb hT iw_X12 hown hK hw hW kd900 (by decide) rfl rfl 18 (by decide) eq4 (hT _ tb_1392) (fun _ h9 => h9) dX12_isSet_8 ?_
  obtain ⟨zi8, eq7, bd9⟩ := rd_74000 ok0 kd3 ((zi5 : Int32).toNatClampNeg)
  refine p_iald (v := zi8) hx hb hK hw hW kd3 (by decide) rfl (hW.len kd3 (n := 2) rfl (by decide)) (vp_b bd6 (by decide) (by decide)) eq7 dX12_isSet_11 ?_
  refine lv_ishl hx hb dX12_isSet_12 (lv_topi (fun zi10 ea11 => ?_))
  have bd12 : (1 : Int) ≤ zi10.toInt ∧ zi10.toInt ≤ 65536 := b_shl1 16 ea11 bd9 (by decide) (by decide) (by decide) (by decide) (by decide)
  refine lv_iconst (v := 1) hx hb dX12_isSet_13 (by decide) ?_
  refine lv_isub hx hb dX12_isSet_14 (lv_topi (fun zi13 ea14 => ?_))
  have bd15 : (0 : Int) ≤ zi13.toInt ∧ zi13.toInt ≤ 65535 := b_isub ea14 bd12 bc_1 (by decide) (by decide) (by decide) (by decide)
  have qe16 : zi13.toInt = (zi10 : Int32).toInt - (1 : Int32).toInt := e_isub ea14 bd12 bc_1 (by decide) (by decide)
  have qe17 : zi13.toInt = zi10.toInt - 1 := by have ha : (1 : Int32).toInt = 1 := (by decide); rw [ha] at qe16; exact qe16
  refine kq_i hw hS hA (va_runS (As := [.int zi901, .int 0, .int zi13]) (rest := []) ⟨hx, hb, hml, hown, hT⟩ (cX12_in_5 l G cy ev K ln Ls hW _ hp0 ok0 zi901 0 zi13 (b_wid2 bc_0 (by decide) (by decide)) (b_wid2 bd15 (by decide) (by decide))) (va_cwS 3 hT (good_S tb_1734 tb_1732 tb_1733 tb_122) rfl rfl rfl (by decide +kernel) ⟨Nat.le_of_ble_eq_true rfl, Nat.le_of_ble_eq_true rfl⟩) (PB2.preS hK hE hS hA hw) rfl rfl hl.1 rfl (lv_room (Nat.le_of_ble_eq_true rfl)) dX12_isSet_15 ⟨Nat.le_of_ble_eq_true rfl, Nat.le_of_ble_eq_true rfl⟩) (fun zi22 hp18 H locs hq21 hw hS => ?_)
  obtain ⟨ok19, F20, bd23, hc24⟩ := hq21
  obtain rfl : hp0 = hp18 := (Fr.nil F20).symm
  have hw : PW G cy K ln Ls A hp0 H := hw
  rcases b01 bd23 with cn25 | cn25
  · skip
    subst cn25
    rw [hQ]
    exact kz_i hx hb hr hlocks hS (nz_n bc_0 (by decide) (by decide)) hp0 hw ⟨ok0, (Fr.rf), (b_wid2 bc_0 (by decide) (by decide)), (fun h => absurd h (by decide))⟩ (Nat.le_of_ble_eq_true rfl) (Nat.le_of_ble_eq_true rfl) dX12_isSet_18
  · skip
    subst cn25
    have bd26 : (0 : Int) ≤ zi901.toInt ∧ zi901.toInt ≤ 65535 := b_meet (b_all zi901) (hc24 rfl) (by decide) (by decide)
    rw [hQ]
    exact kz_i hx hb hr hlocks hS (nz_n bc_1 (by decide) (by decide)) hp0 hw ⟨ok0, (Fr.rf), (b_wid2 bc_1 (by decide) (by decide)), (fun _ => b_wid2 bd26 (by decide) (by decide))⟩ (Nat.le_of_ble_eq_true rfl) (Nat.le_of_ble_eq_true rfl) dX12_isSet_18

set_option maxRecDepth 100000 in
set_option maxHeartbeats 4000000 in
theorem cX12_fillsOrder_0 (l : Launch) (G : va_G) (cy : Nat → ClassId) (ev : Ew) (K ln : Nat → Nat) (Ls : List Nat) (hW : SW K ln Ls) (sz : Nat) (hp0 : Nat → Nat → Value) (ok0 : Ok K hp0) (qa900 : Nat) (zi901 : Int32) (kd900 : K qa900 = 13) (xp0 : bsx zi901 16 ≤ 6) : Met l yX12_fillsOrder (WS yX12_fillsOrder cX12_fillsOrder 3 none) { frames := 0, cells := 0, slots := 0, locals := 0 } (PB2 [.ref qa900, .int zi901] sz G cy ev (va_pl Ls (cellOf cy K ln hp0))) (QBv (S := (Nat → Nat → Value)) (fun u : (Nat → Nat → Value) => Ok K u ∧ Fr [13057, 96000] K hp0 u ∧ (DSx u qa900)) G (fun u => va_pl Ls (cellOf cy K ln u)) (va_A (va_pl Ls (cellOf cy K ln hp0)) sz)) 0 0 (va_A (va_pl Ls (cellOf cy K ln hp0)) sz) := by
  refine met_of2 (y := yX12_fillsOrder) (L := 3) (av := [.ref qa900, .int zi901]) (Qc := fun A => QBv (S := (Nat → Nat → Value)) (fun u : (Nat → Nat → Value) => Ok K u ∧ Fr [13057, 96000] K hp0 u ∧ (DSx u qa900)) G (fun u => va_pl Ls (cellOf cy K ln u)) A) (plainFor_of_name (by decide)) (Nat.le_of_ble_eq_true rfl) ?_
  intro p e s m below meth c hsz hx hb hr hml hown hT hlocks hin hK A hA hE hw hS ls hl
  have hw : PW G cy K ln Ls A hp0 s.heap := hw
  have hown : s.vm.findClass "LieClockModel" = some m.cls := hown
  have hl : lv_has ls 3 [(0, .ref qa900), (1, .int zi901)] := hl
  obtain ⟨Q, hQ⟩ : ∃ Q : State → Prop, Q = MQ below (QBv (S := (Nat → Nat → Value)) (fun u : (Nat → Nat → Value) => Ok K u ∧ Fr [13057, 96000] K hp0 u ∧ (DSx u qa900)) G (fun u => va_pl Ls (cellOf cy K ln u)) A) ([.ref qa900, .int zi901] : List Value).toArray s 0 0 A := ⟨_, rfl⟩
  rw [← hQ]
  refine lv_aload_n hx hb dX12_fillsOrder_0 rfl (lv_at hl 0 rfl) ?_
  refine lv_iconst (v := 0) hx hb dX12_fillsOrder_1 (by decide) ?_
  refine p_put (ci := 12) (v := .int 0) (ty := .int) (C := RX12) (T := TX12) (N := 69) hx hb hT iw_X12 tyX12 tyX12_ok nmX12 hown hK hw hS hW kd900 (by decide) rfl rfl 57 (by decide) (hT _ tb_1431) (fun _ h9 => h9) rfl (by decide +kernel) rfl rfl dX12_fillsOrder_2 (fun hp1 eh2 H locs hw hS => ?_)
  have ok3 := wr_13057 bc_0 (by decide) (by decide) ok0 kd900 eh2
  refine lv_iconst (v := 0) hx hb dX12_fillsOrder_5 (by decide) ?_
  refine lv_istore_n (lv' := [(2, .int 0), (0, .ref qa900), (1, .int zi901)]) hx hb dX12_fillsOrder_6 rfl hl (by decide) rfl (fun ls hl => ?_)
  have lp444 : ∀ (n442 : Nat) (hp321 : Nat → Nat → Value) (zi320 : Int32) (zi325 : Int32) (H : Heap) (locs : List Loc) (ls : Array Slot), 16 - zi320.toInt < (n442 : Int) → Ok K hp321 → Fr [13057, 96000] K hp1 hp321 → ((0 : Int) ≤ zi320.toInt ∧ zi320.toInt ≤ 16) → ((0 : Int) ≤ zi325.toInt ∧ zi325.toInt ≤ 6) → hp321 qa900 57 = .int zi325 → (OIx hp321 qa900 (zi320 : Int32).toInt) → (gi hp321 qa900 57 = bsx zi901 (zi320 : Int32).toNatClampNeg) → lv_has ls 3 [(0, .ref qa900), (1, .int zi901), (2, .int zi320)] → PW G cy K ln Ls A hp321 H → va_S A s.heap H locs → W p l e ({ frames := 0, cells := 0, slots := 0, locals := 0 } : Room) s m ([.ref qa900, .int zi901] : List Value).toArray below meth c H locs 0 0 Q (F0 m 7 ls []) := by
    intro n442
    induction n442 with
    | zero =>
      intro hp321 zi320 zi325 H locs ls hm445 ok323 F322 bd328 bd329 eq324 jx326 jx327 hl hw hS
      exact absurd hm445 (by have := bd328; omega)
    | succ n442 ih443 =>
      intro hp321 zi320 zi325 H locs ls hm445 ok323 F322 bd328 bd329 eq324 jx326 jx327 hl hw hS
      refine lv_iload_n hx hb dX12_fillsOrder_7 rfl (lv_at hl 2 rfl) ?_
      refine lv_aload_n hx hb dX12_fillsOrder_8 rfl (lv_at hl 0 rfl) ?_
      obtain ⟨qa447, eq446, kd448⟩ := rd_13028 ok323 kd900
      refine p_get (ci := 12) (v := .ref qa447) (C := RX12) (T := TX12) (N := 69) hx hb hT iw_X12 hown hK hw hW kd900 (by decide) rfl rfl 28 (by decide) eq446 (hT _ tb_1402) (fun _ h9 => h9) dX12_fillsOrder_9 ?_
      refine lv_aload_n hx hb dX12_fillsOrder_12 rfl (lv_at hl 0 rfl) ?_
      obtain ⟨zi450, eq449, bd451⟩ := rd_13018 ok323 kd900
      refine p_get (ci := 12) (v := .int zi450) (C := RX12) (T := TX12) (N := 69) hx hb hT iw_X12 hown hK hw hW kd900 (by decide) rfl rfl 18 (by decide) eq449 (hT _ tb_1392) (fun _ h9 => h9) dX12_fillsOrder_13 ?_
      obtain ⟨zi453, eq452, bd454⟩ := rd_74000 ok323 kd448 ((zi450 : Int32).toNatClampNeg)
      refine p_iald (v := zi453) hx hb hK hw hW kd448 (by decide) rfl (hW.len kd448 (n := 2) rfl (by decide)) (vp_b bd451 (by decide) (by decide)) eq452 dX12_fillsOrder_16 ?_
      refine lv_icmp_ge (tgt := 57) hx hb dX12_fillsOrder_17 (by decide) (fun cn455 => ?_) (fun cn455 => ?_)
      · skip
        have tf456 : zi453.toInt ≤ zi320.toInt := (fa_le _ _).mp cn455
        rw [hQ]
        exact kz_v hx hb hr hlocks hS hp321 hw ⟨ok323, (Fr.tr (Fr.put (cq := 13057) (Fr.rf) eh2 kd900 (cd_o (by decide)) (by decide)) F322 (by decide)), ((jx326).ds)⟩ (Nat.le_of_ble_eq_true rfl) (Nat.le_of_ble_eq_true rfl) dX12_fillsOrder_57
      · skip
        have tf457 : zi320.toInt < zi453.toInt := (fa_lt _ _).mp (Int32.not_le.mp cn455)
        have bd458 : (0 : Int) ≤ zi320.toInt ∧ zi320.toInt ≤ 15 := r_lt_x (Int32.not_le.mp cn455) bd328 bd454 (by decide) (by decide)
        have bd459 : (1 : Int) ≤ zi453.toInt ∧ zi453.toInt ≤ 16 := r_lt_y (Int32.not_le.mp cn455) bd328 bd454 (by decide) (by decide)
        obtain ⟨qa461, eq460, kd462⟩ := rd_13058 ok323 kd900
        refine lv_iload_n hx hb dX12_fillsOrder_20 rfl (lv_at hl 1 rfl) ?_
        refine lv_iload_n hx hb dX12_fillsOrder_21 rfl (lv_at hl 2 rfl) ?_
        refine lv_ishr hx hb dX12_fillsOrder_22 (lv_topi (fun zi463 ea464 => ?_))
        refine lv_iconst (v := 1) hx hb dX12_fillsOrder_23 (by decide) ?_
        refine lv_iand hx hb dX12_fillsOrder_24 (lv_topi (fun zi465 ea466 => ?_))
        have bd467 : (0 : Int) ≤ zi465.toInt ∧ zi465.toInt ≤ 1 := b_and_r ea466 bc_1 (by decide) (by decide) (by decide)
        refine lv_if_ne (tgt := 31) hx hb dX12_fillsOrder_25 (by decide) (fun cn468 => ?_) (fun cn468 => ?_)
        · skip
          have tf469 : (zi465 : Int32).toInt ≠ (0 : Int32).toInt := fun e => cn468 (Int32.toInt_inj.mp e)
          have := toi bc_0
          have bd470 : (1 : Int) ≤ zi465.toInt ∧ zi465.toInt ≤ 1 := r_ne_lo cn468 bd467 (toi bc_0) (by decide) (by decide)
          have br471 := bsx_room ea464 ea466 (b_wid2 bd458 (by decide) (by decide)) (by have := bd470; omega) xp0
          have br472 := jx327
          rw [gi_of eq324] at br472
          have bd473 : (0 : Int) ≤ zi325.toInt ∧ zi325.toInt ≤ 5 := (by omega)
          refine lv_aload_n hx hb dX12_fillsOrder_31 rfl (lv_at hl 0 rfl) ?_
          refine p_get (ci := 12) (v := .ref qa461) (C := RX12) (T := TX12) (N := 69) hx hb hT iw_X12 hown hK hw hW kd900 (by decide) rfl rfl 58 (by decide) eq460 (hT _ tb_1432) (fun _ h9 => h9) dX12_fillsOrder_32 ?_
          refine lv_aload_n hx hb dX12_fillsOrder_35 rfl (lv_at hl 0 rfl) ?_
          refine p_get (ci := 12) (v := .int zi325) (C := RX12) (T := TX12) (N := 69) hx hb hT iw_X12 hown hK hw hW kd900 (by decide) rfl rfl 57 (by decide) eq324 (hT _ tb_1431) (fun _ h9 => h9) dX12_fillsOrder_36 ?_
          refine lv_iload_n hx hb dX12_fillsOrder_39 rfl (lv_at hl 2 rfl) ?_
          refine p_iast (x := zi320) hx hb hK hw hS hW kd462 (by decide) rfl (hW.len kd462 (n := 6) rfl (by decide)) (vp_b bd473 (by decide) (by decide)) dX12_fillsOrder_40 (fun hp474 eh475 H locs hw hS => ?_)
          have ok476 := wr_96000 bd458 (by decide) (by decide) ok323 kd462 eh475
          refine lv_aload_n hx hb dX12_fillsOrder_41 rfl (lv_at hl 0 rfl) ?_
          refine lv_dup hx hb dX12_fillsOrder_42 rfl ?_
          have eq477 : hp474 qa900 57 = .int zi325 := Eq.trans (up_at eh475 (Or.inl (kd_ne kd900 kd462 (by decide)))) eq324
          refine p_get (ci := 12) (v := .int zi325) (C := RX12) (T := TX12) (N := 69) hx hb hT iw_X12 hown hK hw hW kd900 (by decide) rfl rfl 57 (by decide) eq477 (hT _ tb_1431) (fun _ h9 => h9) dX12_fillsOrder_43 ?_
          refine lv_iconst (v := 1) hx hb dX12_fillsOrder_46 (by decide) ?_
          refine lv_iadd hx hb dX12_fillsOrder_47 (lv_topi (fun zi478 ea479 => ?_))
          have bd480 : (1 : Int) ≤ zi478.toInt ∧ zi478.toInt ≤ 6 := b_iadd ea479 bd473 bc_1 (by decide) (by decide) (by decide) (by decide)
          have qe481 : zi478.toInt = (zi325 : Int32).toInt + (1 : Int32).toInt := e_iadd ea479 bd473 bc_1 (by decide) (by decide)
          have qe482 : zi478.toInt = zi325.toInt + 1 := by have ha : (1 : Int32).toInt = 1 := (by decide); rw [ha] at qe481; exact qe481
          refine p_put (ci := 12) (v := .int zi478) (ty := .int) (C := RX12) (T := TX12) (N := 69) hx hb hT iw_X12 tyX12 tyX12_ok nmX12 hown hK hw hS hW kd900 (by decide) rfl rfl 57 (by decide) (hT _ tb_1431) (fun _ h9 => h9) rfl (by decide +kernel) rfl rfl dX12_fillsOrder_48 (fun hp483 eh484 H locs hw hS => ?_)
          have ok485 := wr_13057 bd480 (by decide) (by decide) ok476 kd900 eh484
          obtain ⟨zi486, ea487⟩ : ∃ z : Int32, z = zi320 + 1 := ⟨_, rfl⟩
          have bd488 : (1 : Int) ≤ zi486.toInt ∧ zi486.toInt ≤ 16 := b_iadd ea487 bd458 bc_1 (by decide) (by decide) (by decide) (by decide)
          have qe489 : zi486.toInt = (zi320 : Int32).toInt + (1 : Int32).toInt := e_iadd ea487 bd458 bc_1 (by decide) (by decide)
          have qe490 : zi486.toInt = zi320.toInt + 1 := by have ha : (1 : Int32).toInt = 1 := (by decide); rw [ha] at qe489; exact qe489
          refine lv_iinc (v := zi486) (lv' := [(2, .int zi486), (0, .ref qa900), (1, .int zi901)]) hx hb dX12_fillsOrder_51 hl (k := 2) rfl ea487.symm (by decide) rfl (fun ls hl => ?_)
          have eq493 : hp483 qa900 58 = .ref qa461 := Eq.trans (up_at eh484 (Or.inr (by decide))) (Eq.trans (up_at eh475 (Or.inl (kd_ne kd900 kd462 (by decide)))) eq460)
          have oi491 : OIx hp483 qa900 (zi486 : Int32).toInt := by rw [qe490]; exact OIx_put jx326 (mA_up eq460 eq493 rfl eh475 (show hp483 qa461 = hp474 qa461 from (by rw [eh484]; exact up2_row (kd_ne kd462 kd900 (by decide))))) (by rw [gi_of eq324]; exact clampN (by omega)) (by rw [gi_of (hp_self eh484), gi_of eq324] <;> (omega))
          have bs492 : gi hp483 qa900 57 = bsx zi901 (zi486 : Int32).toNatClampNeg := bsx_nextG ea464 ea466 jx327 (by omega) (by rw [gi_of (hp_self eh484), gi_of eq324] <;> (have := bd470; omega)) qe490
          refine lv_goto (tgt := 7) hx hb dX12_fillsOrder_54 (by decide) ?_
          exact ih443 hp483 zi486 zi478 _ _ ls (by have := hm445; have := qe490; omega) ok485 (Fr.put (cq := 13057) (Fr.put (cq := 96000) (Fr.tr (Fr.rf) F322 (by decide)) eh475 kd462 (cd_a (by decide)) (by decide)) eh484 kd900 (cd_o (by decide)) (by decide)) (b_wid2 bd488 (by decide) (by decide)) (b_wid2 bd480 (by decide) (by decide)) (hp_self eh484) oi491 bs492 (lv_sub hl [1, 2, 0] rfl) hw hS
        · skip
          have bd494 : (0 : Int) ≤ zi465.toInt ∧ zi465.toInt ≤ 0 := r_eq_x cn468 bd467 bc_0 (by decide) (by decide)
          refine lv_goto (tgt := 51) hx hb dX12_fillsOrder_28 (by decide) ?_
          obtain ⟨zi495, ea496⟩ : ∃ z : Int32, z = zi320 + 1 := ⟨_, rfl⟩
          have bd497 : (1 : Int) ≤ zi495.toInt ∧ zi495.toInt ≤ 16 := b_iadd ea496 bd458 bc_1 (by decide) (by decide) (by decide) (by decide)
          have qe498 : zi495.toInt = (zi320 : Int32).toInt + (1 : Int32).toInt := e_iadd ea496 bd458 bc_1 (by decide) (by decide)
          have qe499 : zi495.toInt = zi320.toInt + 1 := by have ha : (1 : Int32).toInt = 1 := (by decide); rw [ha] at qe498; exact qe498
          refine lv_iinc (v := zi495) (lv' := [(2, .int zi495), (0, .ref qa900), (1, .int zi901)]) hx hb dX12_fillsOrder_51 hl (k := 2) rfl ea496.symm (by decide) rfl (fun ls hl => ?_)
          have oi500 : OIx hp321 qa900 (zi495 : Int32).toInt := OIx_same jx326 (by omega) rfl rfl
          have bs501 : gi hp321 qa900 57 = bsx zi901 (zi495 : Int32).toNatClampNeg := bsx_nextG ea464 ea466 jx327 (by omega) (by have := bd494; omega) qe499
          refine lv_goto (tgt := 7) hx hb dX12_fillsOrder_54 (by decide) ?_
          exact ih443 hp321 zi495 zi325 _ _ ls (by have := hm445; have := qe499; omega) ok323 (Fr.tr (Fr.rf) F322 (by decide)) (b_wid2 bd497 (by decide) (by decide)) (b_wid2 bd329 (by decide) (by decide)) eq324 oi500 bs501 (lv_sub hl [1, 2, 0] rfl) hw hS
  exact lp444 _ hp1 0 0 _ _ ls (lp_in _) ok3 (Fr.rf) (b_wid2 bc_0 (by decide) (by decide)) (b_wid2 bc_0 (by decide) (by decide)) (hp_self eh2) (OIx_zero (by rw [gi_of (hp_self eh2)]; decide)) (by rw [gi_of (hp_self eh2)]; exact bsx_zero _) (lv_sub hl [1, 2, 0] rfl) hw hS

set_option maxRecDepth 100000 in
set_option maxHeartbeats 4000000 in
theorem cX12_nextOrder_0 (l : Launch) (G : va_G) (cy : Nat → ClassId) (ev : Ew) (K ln : Nat → Nat) (Ls : List Nat) (hW : SW K ln Ls) (sz : Nat) (hp0 : Nat → Nat → Value) (ok0 : Ok K hp0) (qa900 : Nat) (kd900 : K qa900 = 13) (pdDS : DSx hp0 qa900) : Met l yX12_nextOrder (WS yX12_nextOrder cX12_nextOrder 6 (some .boolean)) { frames := 0, cells := 0, slots := 0, locals := 0 } (PB2 [.ref qa900] sz G cy ev (va_pl Ls (cellOf cy K ln hp0))) (QBi (S := (Nat → Nat → Value)) (fun (r : Int32) (u : (Nat → Nat → Value)) => Ok K u ∧ Fr [96000] K hp0 u ∧ ((0 : Int) ≤ r.toInt ∧ r.toInt ≤ 1) ∧ (r = 1 → DSx u qa900) ∧ (r = 1 → VOx (mA hp0 qa900 58) < VOx (mA u qa900 58))) G (fun u => va_pl Ls (cellOf cy K ln u)) (va_A (va_pl Ls (cellOf cy K ln hp0)) sz)) 0 0 (va_A (va_pl Ls (cellOf cy K ln hp0)) sz) := by
  refine met_of2 (y := yX12_nextOrder) (L := 6) (av := [.ref qa900]) (Qc := fun A => QBi (S := (Nat → Nat → Value)) (fun (r : Int32) (u : (Nat → Nat → Value)) => Ok K u ∧ Fr [96000] K hp0 u ∧ ((0 : Int) ≤ r.toInt ∧ r.toInt ≤ 1) ∧ (r = 1 → DSx u qa900) ∧ (r = 1 → VOx (mA hp0 qa900 58) < VOx (mA u qa900 58))) G (fun u => va_pl Ls (cellOf cy K ln u)) A) (plainFor_of_name (by decide)) (Nat.le_of_ble_eq_true rfl) ?_
  intro p e s m below meth c hsz hx hb hr hml hown hT hlocks hin hK A hA hE hw hS ls hl
  have hw : PW G cy K ln Ls A hp0 s.heap := hw
  have hown : s.vm.findClass "LieClockModel" = some m.cls := hown
  have hl : lv_has ls 6 [(0, .ref qa900)] := hl
  obtain ⟨Q, hQ⟩ : ∃ Q : State → Prop, Q = MQ below (QBi (S := (Nat → Nat → Value)) (fun (r : Int32) (u : (Nat → Nat → Value)) => Ok K u ∧ Fr [96000] K hp0 u ∧ ((0 : Int) ≤ r.toInt ∧ r.toInt ≤ 1) ∧ (r = 1 → DSx u qa900) ∧ (r = 1 → VOx (mA hp0 qa900 58) < VOx (mA u qa900 58))) G (fun u => va_pl Ls (cellOf cy K ln u)) A) ([.ref qa900] : List Value).toArray s 0 0 A := ⟨_, rfl⟩
  rw [← hQ]
  refine lv_aload_n hx hb dX12_nextOrder_0 rfl (lv_at hl 0 rfl) ?_
  obtain ⟨zi2, eq1, bd3⟩ := rd_13057 ok0 kd900
  refine p_get (ci := 12) (v := .int zi2) (C := RX12) (T := TX12) (N := 69) hx hb hT iw_X12 hown hK hw hW kd900 (by decide) rfl rfl 57 (by decide) eq1 (hT _ tb_1431) (fun _ h9 => h9) dX12_nextOrder_1 ?_
  refine lv_iconst (v := 2) hx hb dX12_nextOrder_4 (by decide) ?_
  refine lv_isub hx hb dX12_nextOrder_5 (lv_topi (fun zi4 ea5 => ?_))
  have bd6 : (-2 : Int) ≤ zi4.toInt ∧ zi4.toInt ≤ 4 := b_isub ea5 bd3 bc_2 (by decide) (by decide) (by decide) (by decide)
  have qe7 : zi4.toInt = (zi2 : Int32).toInt - (2 : Int32).toInt := e_isub ea5 bd3 bc_2 (by decide) (by decide)
  have qe8 : zi4.toInt = zi2.toInt - 2 := by have ha : (2 : Int32).toInt = 2 := (by decide); rw [ha] at qe7; exact qe7
  refine lv_istore_n (lv' := [(1, .int zi4), (0, .ref qa900)]) hx hb dX12_nextOrder_6 rfl hl (by decide) rfl (fun ls hl => ?_)
  have jn130 : ∀ (zi126 : Int32) (H : Heap) (locs : List Loc) (ls : Array Slot), ((-2 : Int) ≤ zi126.toInt ∧ zi126.toInt ≤ 4) → ((zi126 : Int32).toInt ≤ zi2.toInt - 2) → ((zi126 : Int32).toInt < 0 ∨ mA hp0 qa900 58 (zi126 : Int32).toInt.toNat ≤ mA hp0 qa900 58 ((zi126 : Int32).toInt + 1).toNat) → lv_has ls 6 [(0, .ref qa900), (1, .int zi126)] → PW G cy K ln Ls A hp0 H → va_S A s.heap H locs → W p l e ({ frames := 0, cells := 0, slots := 0, locals := 0 } : Room) s m ([.ref qa900] : List Value).toArray below meth c H locs 0 0 Q (F0 m 34 ls []) := by
    intro zi126 H locs ls bd129 rq127 jx128 hl hw hS
    refine lv_iload_n hx hb dX12_nextOrder_34 rfl (lv_at hl 1 rfl) ?_
    refine lv_if_ge (tgt := 40) hx hb dX12_nextOrder_35 (by decide) (fun cn131 => ?_) (fun cn131 => ?_)
    · skip
      have bd132 : (0 : Int) ≤ zi126.toInt ∧ zi126.toInt ≤ 4 := r_le_y cn131 bc_0 bd129 (by decide) (by decide)
      refine lv_aload_n hx hb dX12_nextOrder_40 rfl (lv_at hl 0 rfl) ?_
      refine p_get (ci := 12) (v := .int zi2) (C := RX12) (T := TX12) (N := 69) hx hb hT iw_X12 hown hK hw hW kd900 (by decide) rfl rfl 57 (by decide) eq1 (hT _ tb_1431) (fun _ h9 => h9) dX12_nextOrder_41 ?_
      refine lv_iconst (v := 1) hx hb dX12_nextOrder_44 (by decide) ?_
      refine lv_isub hx hb dX12_nextOrder_45 (lv_topi (fun zi133 ea134 => ?_))
      have bd135 : (-1 : Int) ≤ zi133.toInt ∧ zi133.toInt ≤ 5 := b_isub ea134 bd3 bc_1 (by decide) (by decide) (by decide) (by decide)
      have qe136 : zi133.toInt = (zi2 : Int32).toInt - (1 : Int32).toInt := e_isub ea134 bd3 bc_1 (by decide) (by decide)
      have qe137 : zi133.toInt = zi2.toInt - 1 := by have ha : (1 : Int32).toInt = 1 := (by decide); rw [ha] at qe136; exact qe136
      refine lv_istore_n (lv' := [(2, .int zi133), (0, .ref qa900), (1, .int zi126)]) hx hb dX12_nextOrder_46 rfl hl (by decide) rfl (fun ls hl => ?_)
      have lp236 : ∀ (n234 : Nat) (zi188 : Int32) (H : Heap) (locs : List Loc) (ls : Array Slot), zi188.toInt - (-1) < (n234 : Int) → ((-1 : Int) ≤ zi188.toInt ∧ zi188.toInt ≤ 5) → ((zi126 : Int32).toInt + 1 ≤ (zi188 : Int32).toInt) → ((zi188 : Int32).toInt ≤ zi2.toInt - 1) → lv_has ls 6 [(0, .ref qa900), (1, .int zi126), (2, .int zi188)] → PW G cy K ln Ls A hp0 H → va_S A s.heap H locs → W p l e ({ frames := 0, cells := 0, slots := 0, locals := 0 } : Room) s m ([.ref qa900] : List Value).toArray below meth c H locs 0 0 Q (F0 m 47 ls []) := by
        intro n234
        induction n234 with
        | zero =>
          intro zi188 H locs ls hm237 bd191 rq189 rq190 hl hw hS
          exact absurd hm237 (by have := bd191; omega)
        | succ n234 ih235 =>
          intro zi188 H locs ls hm237 bd191 rq189 rq190 hl hw hS
          have bd238 : (1 : Int) ≤ zi188.toInt ∧ zi188.toInt ≤ 5 := (by omega)
          refine lv_aload_n hx hb dX12_nextOrder_47 rfl (lv_at hl 0 rfl) ?_
          obtain ⟨qa240, eq239, kd241⟩ := rd_13058 ok0 kd900
          refine p_get (ci := 12) (v := .ref qa240) (C := RX12) (T := TX12) (N := 69) hx hb hT iw_X12 hown hK hw hW kd900 (by decide) rfl rfl 58 (by decide) eq239 (hT _ tb_1432) (fun _ h9 => h9) dX12_nextOrder_48 ?_
          refine lv_iload_n hx hb dX12_nextOrder_51 rfl (lv_at hl 2 rfl) ?_
          obtain ⟨zi243, eq242, bd244⟩ := rd_96000 ok0 kd241 ((zi188 : Int32).toNatClampNeg)
          refine p_iald (v := zi243) hx hb hK hw hW kd241 (by decide) rfl (hW.len kd241 (n := 6) rfl (by decide)) (vp_b bd238 (by decide) (by decide)) eq242 dX12_nextOrder_52 ?_
          refine lv_aload_n hx hb dX12_nextOrder_53 rfl (lv_at hl 0 rfl) ?_
          refine p_get (ci := 12) (v := .ref qa240) (C := RX12) (T := TX12) (N := 69) hx hb hT iw_X12 hown hK hw hW kd900 (by decide) rfl rfl 58 (by decide) eq239 (hT _ tb_1432) (fun _ h9 => h9) dX12_nextOrder_54 ?_
          refine lv_iload_n hx hb dX12_nextOrder_57 rfl (lv_at hl 1 rfl) ?_
          obtain ⟨zi246, eq245, bd247⟩ := rd_96000 ok0 kd241 ((zi126 : Int32).toNatClampNeg)
          refine p_iald (v := zi246) hx hb hK hw hW kd241 (by decide) rfl (hW.len kd241 (n := 6) rfl (by decide)) (vp_b bd132 (by decide) (by decide)) eq245 dX12_nextOrder_58 ?_
          refine lv_icmp_ge (tgt := 68) hx hb dX12_nextOrder_59 (by decide) (fun cn248 => ?_) (fun cn248 => ?_)
          · skip
            have tf259 : zi246.toInt ≤ zi243.toInt := (fa_le _ _).mp cn248
            have nj260 := pdDS (zi126 : Int32).toNatClampNeg (zi188 : Int32).toNatClampNeg (by have := clampN (x := zi126) (by omega); have := clampN (x := zi188) (by omega); omega) (by rw [gi_of eq1]; have := clampN (x := zi188) (by omega); omega)
            rw [mA_of eq239 eq245, mA_of eq239 eq242] at nj260
            have lt261 : zi246.toInt < zi243.toInt := by omega
            refine lv_aload_n hx hb dX12_nextOrder_68 rfl (lv_at hl 0 rfl) ?_
            refine p_get (ci := 12) (v := .ref qa240) (C := RX12) (T := TX12) (N := 69) hx hb hT iw_X12 hown hK hw hW kd900 (by decide) rfl rfl 58 (by decide) eq239 (hT _ tb_1432) (fun _ h9 => h9) dX12_nextOrder_69 ?_
            refine lv_iload_n hx hb dX12_nextOrder_72 rfl (lv_at hl 1 rfl) ?_
            refine p_iald (v := zi246) hx hb hK hw hW kd241 (by decide) rfl (hW.len kd241 (n := 6) rfl (by decide)) (vp_b bd132 (by decide) (by decide)) eq245 dX12_nextOrder_73 ?_
            refine lv_istore_n (lv' := [(3, .int zi246), (0, .ref qa900), (1, .int zi126), (2, .int zi188)]) hx hb dX12_nextOrder_74 rfl hl (by decide) rfl (fun ls hl => ?_)
            refine lv_aload_n hx hb dX12_nextOrder_75 rfl (lv_at hl 1 rfl) ?_
            refine p_get (ci := 12) (v := .ref qa240) (C := RX12) (T := TX12) (N := 69) hx hb hT iw_X12 hown hK hw hW kd900 (by decide) rfl rfl 58 (by decide) eq239 (hT _ tb_1432) (fun _ h9 => h9) dX12_nextOrder_76 ?_
            refine lv_iload_n hx hb dX12_nextOrder_79 rfl (lv_at hl 2 rfl) ?_
            refine lv_aload_n hx hb dX12_nextOrder_80 rfl (lv_at hl 1 rfl) ?_
            refine p_get (ci := 12) (v := .ref qa240) (C := RX12) (T := TX12) (N := 69) hx hb hT iw_X12 hown hK hw hW kd900 (by decide) rfl rfl 58 (by decide) eq239 (hT _ tb_1432) (fun _ h9 => h9) dX12_nextOrder_81 ?_
            refine lv_iload_n hx hb dX12_nextOrder_84 rfl (lv_at hl 3 rfl) ?_
            refine p_iald (v := zi243) hx hb hK hw hW kd241 (by decide) rfl (hW.len kd241 (n := 6) rfl (by decide)) (vp_b bd238 (by decide) (by decide)) eq242 dX12_nextOrder_85 ?_
            refine p_iast (x := zi243) hx hb hK hw hS hW kd241 (by decide) rfl (hW.len kd241 (n := 6) rfl (by decide)) (vp_b bd132 (by decide) (by decide)) dX12_nextOrder_86 (fun hp262 eh263 H locs hw hS => ?_)
            have ok264 := wr_96000 bd244 (by decide) (by decide) ok0 kd241 eh263
            refine lv_aload_n hx hb dX12_nextOrder_87 rfl (lv_at hl 1 rfl) ?_
            have eq265 : hp262 qa900 58 = .ref qa240 := Eq.trans (up_at eh263 (Or.inl (kd_ne kd900 kd241 (by decide)))) eq239
            refine p_get (ci := 12) (v := .ref qa240) (C := RX12) (T := TX12) (N := 69) hx hb hT iw_X12 hown hK hw hW kd900 (by decide) rfl rfl 58 (by decide) eq265 (hT _ tb_1432) (fun _ h9 => h9) dX12_nextOrder_88 ?_
            refine lv_iload_n hx hb dX12_nextOrder_91 rfl (lv_at hl 3 rfl) ?_
            refine lv_iload_n hx hb dX12_nextOrder_92 rfl (lv_at hl 0 rfl) ?_
            refine p_iast (x := zi246) hx hb hK hw hS hW kd241 (by decide) rfl (hW.len kd241 (n := 6) rfl (by decide)) (vp_b bd238 (by decide) (by decide)) dX12_nextOrder_93 (fun hp266 eh267 H locs hw hS => ?_)
            have ok268 := wr_96000 bd247 (by decide) (by decide) ok264 kd241 eh267
            have mz269 := mA_up (h1 := hp262) (f := 58) eq239 (Eq.trans (up_at eh263 (Or.inl (kd_ne kd900 kd241 (by decide)))) eq239) rfl eh263 rfl
            have mz270 := mA_up (h := hp262) (h1 := hp266) (f := 58) (Eq.trans (up_at eh263 (Or.inl (kd_ne kd900 kd241 (by decide)))) eq239) (Eq.trans (Eq.trans (up_at eh267 (Or.inl (kd_ne kd900 kd241 (by decide)))) (up_at eh263 (Or.inl (kd_ne kd900 kd241 (by decide))))) eq239) rfl eh267 rfl
            have mz271 := mz270.trans (congrArg (fun f => updI f _ _) mz269)
            have eq273 : hp266 qa900 57 = .int zi2 := Eq.trans (up_at eh267 (Or.inl (kd_ne kd900 kd241 (by decide)))) (Eq.trans (up_at eh263 (Or.inl (kd_ne kd900 kd241 (by decide)))) eq1)
            have ds272 : DSx hp266 qa900 := DSx_swap pdDS mz271 (mA_of eq239 eq245) (mA_of eq239 eq242) (by have := clampN (x := zi126) (by omega); have := clampN (x := zi188) (by omega); omega) (by rw [gi_of eq1]; have := clampN (x := zi188) (by omega); omega) (by rw [gi_of eq273, gi_of eq1] <;> (omega))
            have lx274 : LXx (mA hp0 qa900 58) (mA hp266 qa900 58) (zi126 : Int32).toNatClampNeg := LXx_first mz271 (by have := clampN (x := zi126) (by omega); have := clampN (x := zi188) (by omega); omega) (by rw [mA_of eq239 eq245]; exact lt261)
            refine lv_iload_n hx hb dX12_nextOrder_94 rfl (lv_at hl 2 rfl) ?_
            refine lv_iconst (v := 1) hx hb dX12_nextOrder_95 (by decide) ?_
            refine lv_iadd hx hb dX12_nextOrder_96 (lv_topi (fun zi275 ea276 => ?_))
            have bd277 : (1 : Int) ≤ zi275.toInt ∧ zi275.toInt ≤ 5 := b_iadd ea276 bd132 bc_1 (by decide) (by decide) (by decide) (by decide)
            have qe278 : zi275.toInt = (zi126 : Int32).toInt + (1 : Int32).toInt := e_iadd ea276 bd132 bc_1 (by decide) (by decide)
            have qe279 : zi275.toInt = zi126.toInt + 1 := by have ha : (1 : Int32).toInt = 1 := (by decide); rw [ha] at qe278; exact qe278
            refine lv_istore (lv' := [(4, .int zi275), (3, .int zi246), (0, .ref qa900), (1, .int zi126), (2, .int zi188)]) hx hb dX12_nextOrder_97 hl (by decide) rfl (fun ls hl => ?_)
            refine lv_aload_n hx hb dX12_nextOrder_99 rfl (lv_at hl 2 rfl) ?_
            refine p_get (ci := 12) (v := .int zi2) (C := RX12) (T := TX12) (N := 69) hx hb hT iw_X12 hown hK hw hW kd900 (by decide) rfl rfl 57 (by decide) eq273 (hT _ tb_1431) (fun _ h9 => h9) dX12_nextOrder_100 ?_
            refine lv_iconst (v := 1) hx hb dX12_nextOrder_103 (by decide) ?_
            refine lv_isub hx hb dX12_nextOrder_104 (lv_topi (fun zi280 ea281 => ?_))
            have bd282 : (-1 : Int) ≤ zi280.toInt ∧ zi280.toInt ≤ 5 := b_isub ea281 bd3 bc_1 (by decide) (by decide) (by decide) (by decide)
            have qe283 : zi280.toInt = (zi2 : Int32).toInt - (1 : Int32).toInt := e_isub ea281 bd3 bc_1 (by decide) (by decide)
            have qe284 : zi280.toInt = zi2.toInt - 1 := by have ha : (1 : Int32).toInt = 1 := (by decide); rw [ha] at qe283; exact qe283
            refine lv_istore (lv' := [(5, .int zi280), (4, .int zi275), (3, .int zi246), (0, .ref qa900), (1, .int zi126), (2, .int zi188)]) hx hb dX12_nextOrder_105 hl (by decide) rfl (fun ls hl => ?_)
            have lp505 : ∀ (n503 : Nat) (hp422 : Nat → Nat → Value) (zi420 : Int32) (zi421 : Int32) (H : Heap) (locs : List Loc) (ls : Array Slot), 5 - zi420.toInt < (n503 : Int) → Ok K hp422 → Fr [96000] K hp266 hp422 → ((1 : Int) ≤ zi420.toInt ∧ zi420.toInt ≤ 5) → ((-1 : Int) ≤ zi421.toInt ∧ zi421.toInt ≤ 5) → ((zi126 : Int32).toInt + 1 ≤ (zi420 : Int32).toInt) → ((zi421 : Int32).toInt ≤ zi2.toInt - 1) → (DSx hp422 qa900) → (LXx (mA hp0 qa900 58) (mA hp422 qa900 58) (zi126 : Int32).toNatClampNeg) → lv_has ls 6 [(0, .ref qa900), (4, .int zi420), (5, .int zi421)] → PW G cy K ln Ls A hp422 H → va_S A s.heap H locs → W p l e ({ frames := 0, cells := 0, slots := 0, locals := 0 } : Room) s m ([.ref qa900] : List Value).toArray below meth c H locs 0 0 Q (F0 m 107 ls []) := by
              intro n503
              induction n503 with
              | zero =>
                intro hp422 zi420 zi421 H locs ls hm506 ok424 F423 bd429 bd430 rq425 rq426 jx427 jx428 hl hw hS
                exact absurd hm506 (by have := bd429; omega)
              | succ n503 ih504 =>
                intro hp422 zi420 zi421 H locs ls hm506 ok424 F423 bd429 bd430 rq425 rq426 jx427 jx428 hl hw hS
                refine lv_iload hx hb dX12_nextOrder_107 (lv_at hl 1 rfl) ?_
                refine lv_iload hx hb dX12_nextOrder_109 (lv_at hl 2 rfl) ?_
                have eq508 : hp422 qa900 57 = .int zi2 := Eq.trans (Fr.at (cq := 13057) F423 kd900 (cd_o (by decide)) (by decide)) eq273
                refine lv_icmp_ge (tgt := 153) hx hb dX12_nextOrder_111 (by decide) (fun cn507 => ?_) (fun cn507 => ?_)
                · skip
                  have tf543 : zi421.toInt ≤ zi420.toInt := (fa_le _ _).mp cn507
                  refine lv_iconst (v := 1) hx hb dX12_nextOrder_153 (by decide) ?_
                  rw [hQ]
                  exact kz_i hx hb hr hlocks hS (nz_n bc_1 (by decide) (by decide)) hp422 hw ⟨ok424, (Fr.tr (Fr.put (cq := 96000) (Fr.put (cq := 96000) (Fr.rf) eh263 kd241 (cd_a (by decide)) (by decide)) eh267 kd241 (cd_a (by decide)) (by decide)) F423 (by decide)), (b_wid2 bc_1 (by decide) (by decide)), (fun _ => jx427), (fun _ => VOx_lt (ord_b ok0 kd900) (ord_b ok424 kd900) (by have := clampN (x := zi126) (by omega); omega) jx428)⟩ (Nat.le_of_ble_eq_true rfl) (Nat.le_of_ble_eq_true rfl) dX12_nextOrder_154
                · skip
                  have tf544 : zi420.toInt < zi421.toInt := (fa_lt _ _).mp (Int32.not_le.mp cn507)
                  have bd545 : (1 : Int) ≤ zi420.toInt ∧ zi420.toInt ≤ 4 := r_lt_x (Int32.not_le.mp cn507) bd429 bd430 (by decide) (by decide)
                  have bd546 : (2 : Int) ≤ zi421.toInt ∧ zi421.toInt ≤ 5 := r_lt_y (Int32.not_le.mp cn507) bd429 bd430 (by decide) (by decide)
                  refine lv_aload_n hx hb dX12_nextOrder_114 rfl (lv_at hl 0 rfl) ?_
                  have eq547 : hp422 qa900 58 = .ref qa240 := Eq.trans (Fr.at (cq := 13058) F423 kd900 (cd_o (by decide)) (by decide)) (Eq.trans (up_at eh267 (Or.inl (kd_ne kd900 kd241 (by decide)))) eq265)
                  refine p_get (ci := 12) (v := .ref qa240) (C := RX12) (T := TX12) (N := 69) hx hb hT iw_X12 hown hK hw hW kd900 (by decide) rfl rfl 58 (by decide) eq547 (hT _ tb_1432) (fun _ h9 => h9) dX12_nextOrder_115 ?_
                  refine lv_iload hx hb dX12_nextOrder_118 (lv_at hl 1 rfl) ?_
                  obtain ⟨zi549, eq548, bd550⟩ := rd_96000 ok424 kd241 ((zi420 : Int32).toNatClampNeg)
                  refine p_iald (v := zi549) hx hb hK hw hW kd241 (by decide) rfl (hW.len kd241 (n := 6) rfl (by decide)) (vp_b bd545 (by decide) (by decide)) eq548 dX12_nextOrder_120 ?_
                  refine lv_istore_n (lv' := [(3, .int zi549), (0, .ref qa900), (4, .int zi420), (5, .int zi421)]) hx hb dX12_nextOrder_121 rfl hl (by decide) rfl (fun ls hl => ?_)
                  refine lv_aload_n hx hb dX12_nextOrder_122 rfl (lv_at hl 1 rfl) ?_
                  refine p_get (ci := 12) (v := .ref qa240) (C := RX12) (T := TX12) (N := 69) hx hb hT iw_X12 hown hK hw hW kd900 (by decide) rfl rfl 58 (by decide) eq547 (hT _ tb_1432) (fun _ h9 => h9) dX12_nextOrder_123 ?_
                  refine lv_iload hx hb dX12_nextOrder_126 (lv_at hl 2 rfl) ?_
                  refine lv_aload_n hx hb dX12_nextOrder_128 rfl (lv_at hl 1 rfl) ?_
                  refine p_get (ci := 12) (v := .ref qa240) (C := RX12) (T := TX12) (N := 69) hx hb hT iw_X12 hown hK hw hW kd900 (by decide) rfl rfl 58 (by decide) eq547 (hT _ tb_1432) (fun _ h9 => h9) dX12_nextOrder_129 ?_
                  refine lv_iload hx hb dX12_nextOrder_132 (lv_at hl 3 rfl) ?_
                  obtain ⟨zi552, eq551, bd553⟩ := rd_96000 ok424 kd241 ((zi421 : Int32).toNatClampNeg)
                  refine p_iald (v := zi552) hx hb hK hw hW kd241 (by decide) rfl (hW.len kd241 (n := 6) rfl (by decide)) (vp_b bd546 (by decide) (by decide)) eq551 dX12_nextOrder_134 ?_
                  refine p_iast (x := zi552) hx hb hK hw hS hW kd241 (by decide) rfl (hW.len kd241 (n := 6) rfl (by decide)) (vp_b bd545 (by decide) (by decide)) dX12_nextOrder_135 (fun hp554 eh555 H locs hw hS => ?_)
                  have ok556 := wr_96000 bd553 (by decide) (by decide) ok424 kd241 eh555
                  refine lv_aload_n hx hb dX12_nextOrder_136 rfl (lv_at hl 1 rfl) ?_
                  have eq557 : hp554 qa900 58 = .ref qa240 := Eq.trans (up_at eh555 (Or.inl (kd_ne kd900 kd241 (by decide)))) eq547
                  refine p_get (ci := 12) (v := .ref qa240) (C := RX12) (T := TX12) (N := 69) hx hb hT iw_X12 hown hK hw hW kd900 (by decide) rfl rfl 58 (by decide) eq557 (hT _ tb_1432) (fun _ h9 => h9) dX12_nextOrder_137 ?_
                  refine lv_iload hx hb dX12_nextOrder_140 (lv_at hl 3 rfl) ?_
                  refine lv_iload_n hx hb dX12_nextOrder_142 rfl (lv_at hl 0 rfl) ?_
                  refine p_iast (x := zi549) hx hb hK hw hS hW kd241 (by decide) rfl (hW.len kd241 (n := 6) rfl (by decide)) (vp_b bd546 (by decide) (by decide)) dX12_nextOrder_143 (fun hp558 eh559 H locs hw hS => ?_)
                  have ok560 := wr_96000 bd550 (by decide) (by decide) ok556 kd241 eh559
                  have mz561 := mA_up (h1 := hp554) (f := 58) eq547 (Eq.trans (up_at eh555 (Or.inl (kd_ne kd900 kd241 (by decide)))) eq547) rfl eh555 rfl
                  have mz562 := mA_up (h := hp554) (h1 := hp558) (f := 58) (Eq.trans (up_at eh555 (Or.inl (kd_ne kd900 kd241 (by decide)))) eq547) (Eq.trans (Eq.trans (up_at eh559 (Or.inl (kd_ne kd900 kd241 (by decide)))) (up_at eh555 (Or.inl (kd_ne kd900 kd241 (by decide))))) eq547) rfl eh559 rfl
                  have mz563 := mz562.trans (congrArg (fun f => updI f _ _) mz561)
                  have eq565 : hp558 qa900 57 = .int zi2 := Eq.trans (up_at eh559 (Or.inl (kd_ne kd900 kd241 (by decide)))) (Eq.trans (up_at eh555 (Or.inl (kd_ne kd900 kd241 (by decide)))) eq508)
                  have ds564 : DSx hp558 qa900 := DSx_swap jx427 mz563 (mA_of eq547 eq548) (mA_of eq547 eq551) (by have := clampN (x := zi420) (by omega); have := clampN (x := zi421) (by omega); omega) (by rw [gi_of eq508]; have := clampN (x := zi421) (by omega); omega) (by rw [gi_of eq565, gi_of eq508] <;> (omega))
                  have lx566 : LXx (mA hp0 qa900 58) (mA hp558 qa900 58) (zi126 : Int32).toNatClampNeg := LXx_more jx428 mz563 (by have := clampN (x := zi126) (by omega); have := clampN (x := zi420) (by omega); omega) (by have := clampN (x := zi126) (by omega); have := clampN (x := zi421) (by omega); omega)
                  obtain ⟨zi567, ea568⟩ : ∃ z : Int32, z = zi420 + 1 := ⟨_, rfl⟩
                  have bd569 : (2 : Int) ≤ zi567.toInt ∧ zi567.toInt ≤ 5 := b_iadd ea568 bd545 bc_1 (by decide) (by decide) (by decide) (by decide)
                  have qe570 : zi567.toInt = (zi420 : Int32).toInt + (1 : Int32).toInt := e_iadd ea568 bd545 bc_1 (by decide) (by decide)
                  have qe571 : zi567.toInt = zi420.toInt + 1 := by have ha : (1 : Int32).toInt = 1 := (by decide); rw [ha] at qe570; exact qe570
                  refine lv_iinc (v := zi567) (lv' := [(4, .int zi567), (3, .int zi549), (0, .ref qa900), (5, .int zi421)]) hx hb dX12_nextOrder_144 hl (k := 2) rfl ea568.symm (by decide) rfl (fun ls hl => ?_)
                  obtain ⟨zi572, ea573⟩ : ∃ z : Int32, z = zi421 + (-1) := ⟨_, rfl⟩
                  have bd574 : (1 : Int) ≤ zi572.toInt ∧ zi572.toInt ≤ 4 := b_iadd ea573 bd546 bc_m1 (by decide) (by decide) (by decide) (by decide)
                  have qe575 : zi572.toInt = (zi421 : Int32).toInt + ((-1) : Int32).toInt := e_iadd ea573 bd546 bc_m1 (by decide) (by decide)
                  have qe576 : zi572.toInt = zi421.toInt + (-1) := by have ha : ((-1) : Int32).toInt = (-1) := (by decide); rw [ha] at qe575; exact qe575
                  refine lv_iinc (v := zi572) (lv' := [(5, .int zi572), (4, .int zi567), (3, .int zi549), (0, .ref qa900)]) hx hb dX12_nextOrder_147 hl (k := 3) rfl ea573.symm (by decide) rfl (fun ls hl => ?_)
                  refine lv_goto (tgt := 107) hx hb dX12_nextOrder_150 (by decide) ?_
                  exact ih504 hp558 zi567 zi572 _ _ ls (by have := hm506; have := qe571; omega) ok560 (Fr.put (cq := 96000) (Fr.put (cq := 96000) (Fr.tr (Fr.rf) F423 (by decide)) eh555 kd241 (cd_a (by decide)) (by decide)) eh559 kd241 (cd_a (by decide)) (by decide)) (b_wid2 bd569 (by decide) (by decide)) (b_wid2 bd574 (by decide) (by decide)) (by omega) (by omega) ds564 lx566 (lv_sub hl [3, 1, 0] rfl) hw hS
            exact lp505 _ hp266 zi275 zi280 _ _ ls (lp_in _) ok268 (Fr.rf) (b_wid2 bd277 (by decide) (by decide)) (b_wid2 bd282 (by decide) (by decide)) (by omega) (by omega) ds272 lx274 (lv_sub hl [3, 1, 0] rfl) hw hS
          · skip
            have tf577 : zi243.toInt < zi246.toInt := (fa_lt _ _).mp (Int32.not_le.mp cn248)
            have bd578 : (0 : Int) ≤ zi243.toInt ∧ zi243.toInt ≤ 14 := r_lt_x (Int32.not_le.mp cn248) bd244 bd247 (by decide) (by decide)
            have bd579 : (1 : Int) ≤ zi246.toInt ∧ zi246.toInt ≤ 15 := r_lt_y (Int32.not_le.mp cn248) bd244 bd247 (by decide) (by decide)
            have nj580 : (zi126 : Int32).toInt + 1 ≠ (zi188 : Int32).toInt := fun e9 => by
              have h1 := Or.resolve_left jx128 (by omega)
              rw [show ((zi126 : Int32).toInt + 1).toNat = (zi188 : Int32).toNatClampNeg from by have := clampN (x := zi188) (by omega); omega, clamp_toNat (x := zi126) (by omega), mA_of eq239 eq245, mA_of eq239 eq242] at h1
              omega
            obtain ⟨zi581, ea582⟩ : ∃ z : Int32, z = zi188 + (-1) := ⟨_, rfl⟩
            have bd583 : (0 : Int) ≤ zi581.toInt ∧ zi581.toInt ≤ 4 := b_iadd ea582 bd238 bc_m1 (by decide) (by decide) (by decide) (by decide)
            have qe584 : zi581.toInt = (zi188 : Int32).toInt + ((-1) : Int32).toInt := e_iadd ea582 bd238 bc_m1 (by decide) (by decide)
            have qe585 : zi581.toInt = zi188.toInt + (-1) := by have ha : ((-1) : Int32).toInt = (-1) := (by decide); rw [ha] at qe584; exact qe584
            refine lv_iinc (v := zi581) (lv' := [(2, .int zi581), (0, .ref qa900), (1, .int zi126)]) hx hb dX12_nextOrder_62 hl (k := 2) rfl ea582.symm (by decide) rfl (fun ls hl => ?_)
            refine lv_goto (tgt := 47) hx hb dX12_nextOrder_65 (by decide) ?_
            exact ih235 zi581 _ _ ls (by have := hm237; have := qe585; omega) (b_wid2 bd583 (by decide) (by decide)) (by omega) (by omega) (lv_sub hl [1, 2, 0] rfl) hw hS
      exact lp236 _ zi133 _ _ ls (lp_in _) (b_wid2 bd135 (by decide) (by decide)) (by omega) (by omega) (lv_sub hl [1, 2, 0] rfl) hw hS
    · skip
      have bd586 : (-2 : Int) ≤ zi126.toInt ∧ zi126.toInt ≤ -1 := r_lt_x (Int32.not_le.mp cn131) bd129 bc_0 (by decide) (by decide)
      refine lv_iconst (v := 0) hx hb dX12_nextOrder_38 (by decide) ?_
      rw [hQ]
      exact kz_i hx hb hr hlocks hS (nz_n bc_0 (by decide) (by decide)) hp0 hw ⟨ok0, (Fr.rf), (b_wid2 bc_0 (by decide) (by decide)), (fun h => absurd h (by decide)), (fun h => absurd h (by decide))⟩ (Nat.le_of_ble_eq_true rfl) (Nat.le_of_ble_eq_true rfl) dX12_nextOrder_39
  have lp589 : ∀ (n587 : Nat) (zi69 : Int32) (H : Heap) (locs : List Loc) (ls : Array Slot), zi69.toInt - (-2) < (n587 : Int) → ((-2 : Int) ≤ zi69.toInt ∧ zi69.toInt ≤ 4) → ((zi69 : Int32).toInt ≤ zi2.toInt - 2) → lv_has ls 6 [(0, .ref qa900), (1, .int zi69)] → PW G cy K ln Ls A hp0 H → va_S A s.heap H locs → W p l e ({ frames := 0, cells := 0, slots := 0, locals := 0 } : Room) s m ([.ref qa900] : List Value).toArray below meth c H locs 0 0 Q (F0 m 7 ls []) := by
    intro n587
    induction n587 with
    | zero =>
      intro zi69 H locs ls hm590 bd71 rq70 hl hw hS
      exact absurd hm590 (by have := bd71; omega)
    | succ n587 ih588 =>
      intro zi69 H locs ls hm590 bd71 rq70 hl hw hS
      refine lv_iload_n hx hb dX12_nextOrder_7 rfl (lv_at hl 1 rfl) ?_
      refine lv_if_lt (tgt := 34) hx hb dX12_nextOrder_8 (by decide) (fun cn591 => ?_) (fun cn591 => ?_)
      · skip
        have bd592 : (-2 : Int) ≤ zi69.toInt ∧ zi69.toInt ≤ -1 := r_lt_x cn591 bd71 bc_0 (by decide) (by decide)
        exact jn130 zi69 _ _ ls (b_wid2 bd592 (by decide) (by decide)) (by omega) (Or.inl (by omega)) (lv_sub hl [0, 1] rfl) hw hS
      · skip
        have bd593 : (0 : Int) ≤ zi69.toInt ∧ zi69.toInt ≤ 4 := r_le_y (Int32.not_lt.mp cn591) bc_0 bd71 (by decide) (by decide)
        refine lv_aload_n hx hb dX12_nextOrder_11 rfl (lv_at hl 0 rfl) ?_
        obtain ⟨qa595, eq594, kd596⟩ := rd_13058 ok0 kd900
        refine p_get (ci := 12) (v := .ref qa595) (C := RX12) (T := TX12) (N := 69) hx hb hT iw_X12 hown hK hw hW kd900 (by decide) rfl rfl 58 (by decide) eq594 (hT _ tb_1432) (fun _ h9 => h9) dX12_nextOrder_12 ?_
        refine lv_iload_n hx hb dX12_nextOrder_15 rfl (lv_at hl 1 rfl) ?_
        obtain ⟨zi598, eq597, bd599⟩ := rd_96000 ok0 kd596 ((zi69 : Int32).toNatClampNeg)
        refine p_iald (v := zi598) hx hb hK hw hW kd596 (by decide) rfl (hW.len kd596 (n := 6) rfl (by decide)) (vp_b bd593 (by decide) (by decide)) eq597 dX12_nextOrder_16 ?_
        refine lv_aload_n hx hb dX12_nextOrder_17 rfl (lv_at hl 0 rfl) ?_
        refine p_get (ci := 12) (v := .ref qa595) (C := RX12) (T := TX12) (N := 69) hx hb hT iw_X12 hown hK hw hW kd900 (by decide) rfl rfl 58 (by decide) eq594 (hT _ tb_1432) (fun _ h9 => h9) dX12_nextOrder_18 ?_
        refine lv_iload_n hx hb dX12_nextOrder_21 rfl (lv_at hl 1 rfl) ?_
        refine lv_iconst (v := 1) hx hb dX12_nextOrder_22 (by decide) ?_
        refine lv_iadd hx hb dX12_nextOrder_23 (lv_topi (fun zi600 ea601 => ?_))
        have bd602 : (1 : Int) ≤ zi600.toInt ∧ zi600.toInt ≤ 5 := b_iadd ea601 bd593 bc_1 (by decide) (by decide) (by decide) (by decide)
        have qe603 : zi600.toInt = (zi69 : Int32).toInt + (1 : Int32).toInt := e_iadd ea601 bd593 bc_1 (by decide) (by decide)
        have qe604 : zi600.toInt = zi69.toInt + 1 := by have ha : (1 : Int32).toInt = 1 := (by decide); rw [ha] at qe603; exact qe603
        obtain ⟨zi606, eq605, bd607⟩ := rd_96000 ok0 kd596 ((zi600 : Int32).toNatClampNeg)
        refine p_iald (v := zi606) hx hb hK hw hW kd596 (by decide) rfl (hW.len kd596 (n := 6) rfl (by decide)) (vp_b bd602 (by decide) (by decide)) eq605 dX12_nextOrder_24 ?_
        refine lv_icmp_le (tgt := 34) hx hb dX12_nextOrder_25 (by decide) (fun cn608 => ?_) (fun cn608 => ?_)
        · skip
          have tf609 : zi598.toInt ≤ zi606.toInt := (fa_le _ _).mp cn608
          exact jn130 zi69 _ _ ls (b_wid2 bd593 (by decide) (by decide)) (by omega) (Or.inr (by rw [clamp_toNat (x := zi69) (by omega), mA_of eq594 eq597, show ((zi69 : Int32).toInt + 1).toNat = (zi600 : Int32).toNatClampNeg from by have := clampN (x := zi600) (by omega); omega, mA_of eq594 eq605]; omega)) (lv_sub hl [0, 1] rfl) hw hS
        · skip
          have tf610 : zi606.toInt < zi598.toInt := (fa_lt _ _).mp (Int32.not_le.mp cn608)
          have bd611 : (0 : Int) ≤ zi606.toInt ∧ zi606.toInt ≤ 14 := r_lt_x (Int32.not_le.mp cn608) bd607 bd599 (by decide) (by decide)
          have bd612 : (1 : Int) ≤ zi598.toInt ∧ zi598.toInt ≤ 15 := r_lt_y (Int32.not_le.mp cn608) bd607 bd599 (by decide) (by decide)
          obtain ⟨zi613, ea614⟩ : ∃ z : Int32, z = zi69 + (-1) := ⟨_, rfl⟩
          have bd615 : (-1 : Int) ≤ zi613.toInt ∧ zi613.toInt ≤ 3 := b_iadd ea614 bd593 bc_m1 (by decide) (by decide) (by decide) (by decide)
          have qe616 : zi613.toInt = (zi69 : Int32).toInt + ((-1) : Int32).toInt := e_iadd ea614 bd593 bc_m1 (by decide) (by decide)
          have qe617 : zi613.toInt = zi69.toInt + (-1) := by have ha : ((-1) : Int32).toInt = (-1) := (by decide); rw [ha] at qe616; exact qe616
          refine lv_iinc (v := zi613) (lv' := [(1, .int zi613), (0, .ref qa900)]) hx hb dX12_nextOrder_28 hl (k := 1) rfl ea614.symm (by decide) rfl (fun ls hl => ?_)
          refine lv_goto (tgt := 7) hx hb dX12_nextOrder_31 (by decide) ?_
          exact ih588 zi613 _ _ ls (by have := hm590; have := qe617; omega) (b_wid2 bd615 (by decide) (by decide)) (by omega) (lv_sub hl [1, 0] rfl) hw hS
  exact lp589 _ zi4 _ _ ls (lp_in _) (b_wid2 bd6 (by decide) (by decide)) (by omega) (lv_sub hl [1, 0] rfl) hw hS

set_option maxRecDepth 100000 in
set_option maxHeartbeats 4000000 in
theorem cX12_orders_0 (l : Launch) (G : va_G) (cy : Nat → ClassId) (ev : Ew) (K ln : Nat → Nat) (Ls : List Nat) (hW : SW K ln Ls) (sz : Nat) (hp0 : Nat → Nat → Value) (ok0 : Ok K hp0) (qa900 : Nat) (zi901 : Int32) (zi902 : Int32) (kd900 : K qa900 = 13) (bd902 : ((0 : Int) ≤ zi902.toInt ∧ zi902.toInt ≤ 1)) (pdLW : LW hp0 qa900) (xp0 : bsx zi901 16 ≤ 6) : Met l yX12_orders (WS yX12_orders cX12_orders 7 (some .int)) { frames := 4, cells := 0, slots := 0, locals := 103 } (PB2 [.ref qa900, .int zi901, .int zi902] sz G cy ev (va_pl Ls (cellOf cy K ln hp0))) (QBi (S := (Nat → Nat → Value)) (fun (r : Int32) (u : (Nat → Nat → Value)) => Ok K u ∧ Fr [13048, 13051, 13057, 90000, 91000, 93000, 96000, 97000] K hp0 u) G (fun u => va_pl Ls (cellOf cy K ln u)) (va_A (va_pl Ls (cellOf cy K ln hp0)) sz)) 0 0 (va_A (va_pl Ls (cellOf cy K ln hp0)) sz) := by
  refine met_of2 (y := yX12_orders) (L := 7) (av := [.ref qa900, .int zi901, .int zi902]) (Qc := fun A => QBi (S := (Nat → Nat → Value)) (fun (r : Int32) (u : (Nat → Nat → Value)) => Ok K u ∧ Fr [13048, 13051, 13057, 90000, 91000, 93000, 96000, 97000] K hp0 u) G (fun u => va_pl Ls (cellOf cy K ln u)) A) (plainFor_of_name (by decide)) (Nat.le_of_ble_eq_true rfl) ?_
  intro p e s m below meth c hsz hx hb hr hml hown hT hlocks hin hK A hA hE hw hS ls hl
  have hw : PW G cy K ln Ls A hp0 s.heap := hw
  have hown : s.vm.findClass "LieClockModel" = some m.cls := hown
  have hl : lv_has ls 7 [(0, .ref qa900), (1, .int zi901), (2, .int zi902)] := hl
  obtain ⟨Q, hQ⟩ : ∃ Q : State → Prop, Q = MQ below (QBi (S := (Nat → Nat → Value)) (fun (r : Int32) (u : (Nat → Nat → Value)) => Ok K u ∧ Fr [13048, 13051, 13057, 90000, 91000, 93000, 96000, 97000] K hp0 u) G (fun u => va_pl Ls (cellOf cy K ln u)) A) ([.ref qa900, .int zi901, .int zi902] : List Value).toArray s 0 0 A := ⟨_, rfl⟩
  rw [← hQ]
  refine lv_aload_n hx hb dX12_orders_0 rfl (lv_at hl 0 rfl) ?_
  refine lv_iload_n hx hb dX12_orders_1 rfl (lv_at hl 1 rfl) ?_
  refine kq_v hw hS hA (va_runV (As := [.int zi901]) (rest := []) ⟨hx, hb, hml, hown, hT⟩ (cX12_fillsOrder_0 l G cy ev K ln Ls hW _ hp0 ok0 qa900 zi901 kd900 xp0) (cwV 1 hT (good_V tb_1887 tb_1884 tb_1886 tb_99 tb_122) rfl rfl rfl (by decide +kernel) ⟨Nat.le_of_ble_eq_true rfl, Nat.le_of_ble_eq_true rfl⟩) (pool_preV (ci := 12) hK hE hS hA hw hW kd900 (by decide) rfl) rfl rfl hl.1 rfl (lv_room (Nat.le_of_ble_eq_true rfl)) dX12_orders_2 ⟨Nat.le_of_ble_eq_true rfl, Nat.le_of_ble_eq_true rfl⟩) (fun hp1 H locs hq4 hw hS => ?_)
  obtain ⟨ok2, F3, xq6⟩ := hq4
  have hw : PW G cy K ln Ls A hp1 H := hw
  refine lv_iconst (v := 0) hx hb dX12_orders_5 (by decide) ?_
  refine lv_istore_n (lv' := [(3, .int 0), (0, .ref qa900), (1, .int zi901), (2, .int zi902)]) hx hb dX12_orders_6 rfl hl (by decide) rfl (fun ls hl => ?_)
  refine lv_iconst (v := 1) hx hb dX12_orders_7 (by decide) ?_
  refine lv_istore (lv' := [(4, .int 1), (3, .int 0), (0, .ref qa900), (1, .int zi901), (2, .int zi902)]) hx hb dX12_orders_8 hl (by decide) rfl (fun ls hl => ?_)
  refine lv_iconst (v := 1) hx hb dX12_orders_10 (by decide) ?_
  refine lv_istore (lv' := [(5, .int 1), (4, .int 1), (3, .int 0), (0, .ref qa900), (1, .int zi901), (2, .int zi902)]) hx hb dX12_orders_11 hl (by decide) rfl (fun ls hl => ?_)
  have lp6335 : ∀ (n6333 : Nat) (hp3410 : Nat → Nat → Value) (zi3408 : Int32) (zi3409 : Int32) (H : Heap) (locs : List Loc) (ls : Array Slot), 16777216 - VOx (mA hp3410 qa900 58) < (n6333 : Int) → Ok K hp3410 → Fr [13048, 13051, 90000, 91000, 93000, 96000, 97000] K hp1 hp3410 → ((0 : Int) ≤ zi3409.toInt ∧ zi3409.toInt ≤ 1) → (DSx hp3410 qa900) → lv_has ls 7 [(0, .ref qa900), (2, .int zi902), (3, .int zi3408), (4, .int zi3409), (5, .int 1)] → PW G cy K ln Ls A hp3410 H → va_S A s.heap H locs → W p l e ({ frames := 4, cells := 0, slots := 0, locals := 103 } : Room) s m ([.ref qa900, .int zi901, .int zi902] : List Value).toArray below meth c H locs 0 0 Q (F0 m 13 ls []) := by
    intro n6333
    induction n6333 with
    | zero =>
      intro hp3410 zi3408 zi3409 H locs ls hm6336 ok3412 F3411 bd3414 jx3413 hl hw hS
      exact absurd hm6336 (by have := VOx_le (ord_b ok3412 kd900); omega)
    | succ n6333 ih6334 =>
      intro hp3410 zi3408 zi3409 H locs ls hm6336 ok3412 F3411 bd3414 jx3413 hl hw hS
      refine lv_iload hx hb dX12_orders_13 (lv_at hl 4 rfl) ?_
      refine lv_if_eq (tgt := 135) hx hb dX12_orders_15 (by decide) (fun c => absurd c (d_ne bc_1 bc_0 (by decide))) (fun _ => ?_)
      obtain ⟨qa6338, eq6337, kd6339⟩ := rd_13058 ok3412 kd900
      refine lv_aload_n hx hb dX12_orders_18 rfl (lv_at hl 0 rfl) ?_
      refine kq_v hw hS hA (va_runV (As := []) (rest := []) ⟨hx, hb, hml, hown, hT⟩ (cX12_copies_0 l G cy ev K ln Ls hW _ hp3410 ok3412 qa900 kd900) (cwV 0 hT (good_V tb_1769 tb_1766 tb_1768 tb_81 tb_122) rfl rfl rfl (by decide +kernel) ⟨Nat.le_of_ble_eq_true rfl, Nat.le_of_ble_eq_true rfl⟩) (pool_preV (ci := 12) hK hE hS hA hw hW kd900 (by decide) rfl) rfl rfl hl.1 rfl (lv_room (Nat.le_of_ble_eq_true rfl)) dX12_orders_19 ⟨Nat.le_of_ble_eq_true rfl, Nat.le_of_ble_eq_true rfl⟩) (fun hp6340 H locs hq6343 hw hS => ?_)
      obtain ⟨ok6341, F6342⟩ := hq6343
      have hw : PW G cy K ln Ls A hp6340 H := hw
      refine lv_iconst (v := 0) hx hb dX12_orders_22 (by decide) ?_
      refine lv_istore (lv' := [(6, .int 0), (0, .ref qa900), (2, .int zi902), (3, .int zi3408), (4, .int zi3409), (5, .int 1)]) hx hb dX12_orders_23 hl (by decide) rfl (fun ls hl => ?_)
      have lp6533 : ∀ (n6531 : Nat) (hp6479 : Nat → Nat → Value) (zi6478 : Int32) (H : Heap) (locs : List Loc) (ls : Array Slot), 6 - zi6478.toInt < (n6531 : Int) → Ok K hp6479 → Fr [13048, 13051, 90000, 91000, 93000] K hp6340 hp6479 → ((0 : Int) ≤ zi6478.toInt ∧ zi6478.toInt ≤ 6) → lv_has ls 7 [(0, .ref qa900), (2, .int zi902), (3, .int zi3408), (4, .int zi3409), (6, .int zi6478)] → PW G cy K ln Ls A hp6479 H → va_S A s.heap H locs → W p l e ({ frames := 4, cells := 0, slots := 0, locals := 103 } : Room) s m ([.ref qa900, .int zi901, .int zi902] : List Value).toArray below meth c H locs 0 0 Q (F0 m 25 ls []) := by
        intro n6531
        induction n6531 with
        | zero =>
          intro hp6479 zi6478 H locs ls hm6534 ok6481 F6480 bd6482 hl hw hS
          exact absurd hm6534 (by have := bd6482; omega)
        | succ n6531 ih6532 =>
          intro hp6479 zi6478 H locs ls hm6534 ok6481 F6480 bd6482 hl hw hS
          refine lv_iload hx hb dX12_orders_25 (lv_at hl 4 rfl) ?_
          refine lv_aload_n hx hb dX12_orders_27 rfl (lv_at hl 0 rfl) ?_
          obtain ⟨zi6536, eq6535, bd6537⟩ := rd_13057 ok6481 kd900
          refine p_get (ci := 12) (v := .int zi6536) (C := RX12) (T := TX12) (N := 69) hx hb hT iw_X12 hown hK hw hW kd900 (by decide) rfl rfl 57 (by decide) eq6535 (hT _ tb_1431) (fun _ h9 => h9) dX12_orders_28 ?_
          refine lv_icmp_ge (tgt := 52) hx hb dX12_orders_31 (by decide) (fun cn6538 => ?_) (fun cn6538 => ?_)
          · skip
            have tf6559 : zi6536.toInt ≤ zi6478.toInt := (fa_le _ _).mp cn6538
            refine lv_iload hx hb dX12_orders_52 (lv_at hl 3 rfl) ?_
            have jn7164 : ∀ (hp7161 : Nat → Nat → Value) (zi7160 : Int32) (H : Heap) (locs : List Loc) (ls : Array Slot), Ok K hp7161 → Fr [97000] K hp6479 hp7161 → lv_has ls 7 [(0, .ref qa900), (2, .int zi902), (3, .int zi7160)] → PW G cy K ln Ls A hp7161 H → va_S A s.heap H locs → W p l e ({ frames := 4, cells := 0, slots := 0, locals := 103 } : Room) s m ([.ref qa900, .int zi901, .int zi902] : List Value).toArray below meth c H locs 0 0 Q (F0 m 123 ls []) := by
              intro hp7161 zi7160 H locs ls ok7163 F7162 hl hw hS
              refine lv_iconst (v := 0) hx hb dX12_orders_123 (by decide) ?_
              refine lv_istore (lv' := [(4, .int 0), (0, .ref qa900), (2, .int zi902), (3, .int zi7160)]) hx hb dX12_orders_124 hl (by decide) rfl (fun ls hl => ?_)
              have eq7166 : hp7161 qa900 58 = .ref qa6338 := Eq.trans (Fr.at (cq := 13058) F7162 kd900 (cd_o (by decide)) (by decide)) (Eq.trans (Fr.at (cq := 13058) F6480 kd900 (cd_o (by decide)) (by decide)) (Eq.trans (Fr.at (cq := 13058) F6342 kd900 (cd_o (by decide)) (by decide)) eq6337))
              have mq7165 : mA hp7161 qa900 58 = mA hp3410 qa900 58 := (mA_eq eq6337 eq7166 (Eq.trans (show hp7161 qa6338 = hp6479 qa6338 from (funext fun i => Fr.at (cq := 96000) F7162 kd6339 (cd_a (by decide)) (by decide))) (Eq.trans (show hp6479 qa6338 = hp6340 qa6338 from (funext fun i => Fr.at (cq := 96000) F6480 kd6339 (cd_a (by decide)) (by decide))) (show hp6340 qa6338 = hp3410 qa6338 from (funext fun i => Fr.at (cq := 96000) F6342 kd6339 (cd_a (by decide)) (by decide))))))
              refine lv_aload_n hx hb dX12_orders_126 rfl (lv_at hl 1 rfl) ?_
              have pd7167 : DSx hp7161 qa900 := DSx_fr ok3412 kd900 (show Fr [13048, 13051, 90000, 91000, 93000, 97000] K hp3410 hp7161 from (Fr.tr (Fr.tr (Fr.tr (Fr.rf) F6342 (by decide)) F6480 (by decide)) F7162 (by decide))) (by decide) jx3413
              refine kq_i hw hS hA (va_runV (As := []) (rest := []) ⟨hx, hb, hml, hown, hT⟩ (cX12_nextOrder_0 l G cy ev K ln Ls hW _ hp7161 ok7163 qa900 kd900 pd7167) (cwV 0 hT (good_V tb_1891 tb_1888 tb_1890 tb_100 tb_122) rfl rfl rfl (by decide +kernel) ⟨Nat.le_of_ble_eq_true rfl, Nat.le_of_ble_eq_true rfl⟩) (pool_preV (ci := 12) hK hE hS hA hw hW kd900 (by decide) rfl) rfl rfl hl.1 rfl (lv_room (Nat.le_of_ble_eq_true rfl)) dX12_orders_127 ⟨Nat.le_of_ble_eq_true rfl, Nat.le_of_ble_eq_true rfl⟩) (fun zi7172 hp7168 H locs hq7171 hw hS => ?_)
              obtain ⟨ok7169, F7170, bd7173, xq7174, xq7175⟩ := hq7171
              have hw : PW G cy K ln Ls A hp7168 H := hw
              rcases b01 bd7173 with cn7176 | cn7176
              · skip
                subst cn7176
                refine lv_istore (lv' := [(5, .int 0), (4, .int 0), (0, .ref qa900), (2, .int zi902), (3, .int zi7160)]) hx hb dX12_orders_130 hl (by decide) rfl (fun ls hl => ?_)
                refine lv_goto (tgt := 13) hx hb dX12_orders_132 (by decide) ?_
                refine lv_iload hx hb dX12_orders_13 (lv_at hl 0 rfl) ?_
                refine lv_if_eq (tgt := 135) hx hb dX12_orders_15 (by decide) (fun _ => ?_) (fun c => absurd (d_eq bc_0 bc_0) c)
                refine lv_iload_n hx hb dX12_orders_135 rfl (lv_at hl 4 rfl) ?_
                rw [hQ]
                exact kz_i hx hb hr hlocks hS rfl hp7168 hw ⟨ok7169, (Fr.tr (Fr.tr (Fr.tr (Fr.tr (Fr.tr (Fr.tr (Fr.rf) F3 (by decide)) F3411 (by decide)) F6342 (by decide)) F6480 (by decide)) F7162 (by decide)) F7170 (by decide))⟩ (Nat.le_of_ble_eq_true rfl) (Nat.le_of_ble_eq_true rfl) dX12_orders_136
              · skip
                subst cn7176
                refine lv_istore (lv' := [(5, .int 1), (4, .int 0), (0, .ref qa900), (2, .int zi902), (3, .int zi7160)]) hx hb dX12_orders_130 hl (by decide) rfl (fun ls hl => ?_)
                have hv7177 : VOx (mA hp3410 qa900 58) < VOx (mA hp7168 qa900 58) := by have q9 := xq7175 rfl; rw [mq7165] at q9; exact q9
                refine lv_goto (tgt := 13) hx hb dX12_orders_132 (by decide) ?_
                exact ih6334 hp7168 zi7160 0 _ _ ls (by have := hm6336; have := hv7177; omega) ok7169 (Fr.tr (Fr.tr (Fr.tr (Fr.tr (Fr.tr (Fr.rf) F3411 (by decide)) F6342 (by decide)) F6480 (by decide)) F7162 (by decide)) F7170 (by decide)) (b_wid2 bc_0 (by decide) (by decide)) (xq7174 rfl) (lv_sub hl [2, 3, 4, 1, 0] rfl) hw hS
            refine lv_if_ne (tgt := 84) hx hb dX12_orders_54 (by decide) (fun cn6560 => ?_) (fun cn6560 => ?_)
            · skip
              have tf7178 : (zi3409 : Int32).toInt ≠ (0 : Int32).toInt := fun e => cn6560 (Int32.toInt_inj.mp e)
              have := toi bc_0
              have bd7179 : (1 : Int) ≤ zi3409.toInt ∧ zi3409.toInt ≤ 1 := r_ne_lo cn6560 bd3414 (toi bc_0) (by decide) (by decide)
              refine lv_aload_n hx hb dX12_orders_84 rfl (lv_at hl 0 rfl) ?_
              obtain ⟨qa7181, eq7180, kd7182⟩ := rd_13050 ok6481 kd900
              refine p_get (ci := 12) (v := .ref qa7181) (C := RX12) (T := TX12) (N := 69) hx hb hT iw_X12 hown hK hw hW kd900 (by decide) rfl rfl 50 (by decide) eq7180 (hT _ tb_1424) (fun _ h9 => h9) dX12_orders_85 ?_
              refine lv_iconst (v := 0) hx hb dX12_orders_88 (by decide) ?_
              obtain ⟨zi7184, eq7183⟩ := rd_93000 ok6481 kd7182 ((0 : Int32).toNatClampNeg)
              refine p_iald (v := zi7184) hx hb hK hw hW kd7182 (by decide) rfl (hW.len kd7182 (n := 40) rfl (by decide)) (vp_b bc_0 (by decide) (by decide)) eq7183 dX12_orders_89 ?_
              refine lv_istore_n (lv' := [(3, .int zi7184), (0, .ref qa900), (2, .int zi902), (4, .int zi3409), (6, .int zi6478)]) hx hb dX12_orders_90 rfl hl (by decide) rfl (fun ls hl => ?_)
              refine lv_iconst (v := 0) hx hb dX12_orders_91 (by decide) ?_
              refine lv_istore (lv' := [(6, .int 0), (3, .int zi7184), (0, .ref qa900), (2, .int zi902), (4, .int zi3409)]) hx hb dX12_orders_92 hl (by decide) rfl (fun ls hl => ?_)
              have lp7351 : ∀ (n7349 : Nat) (hp7303 : Nat → Nat → Value) (zi7302 : Int32) (H : Heap) (locs : List Loc) (ls : Array Slot), 6 - zi7302.toInt < (n7349 : Int) → Ok K hp7303 → Fr [97000] K hp6479 hp7303 → ((0 : Int) ≤ zi7302.toInt ∧ zi7302.toInt ≤ 6) → lv_has ls 7 [(0, .ref qa900), (2, .int zi902), (3, .int zi7184), (6, .int zi7302)] → PW G cy K ln Ls A hp7303 H → va_S A s.heap H locs → W p l e ({ frames := 4, cells := 0, slots := 0, locals := 103 } : Room) s m ([.ref qa900, .int zi901, .int zi902] : List Value).toArray below meth c H locs 0 0 Q (F0 m 94 ls []) := by
                intro n7349
                induction n7349 with
                | zero =>
                  intro hp7303 zi7302 H locs ls hm7352 ok7305 F7304 bd7306 hl hw hS
                  exact absurd hm7352 (by have := bd7306; omega)
                | succ n7349 ih7350 =>
                  intro hp7303 zi7302 H locs ls hm7352 ok7305 F7304 bd7306 hl hw hS
                  refine lv_iload hx hb dX12_orders_94 (lv_at hl 3 rfl) ?_
                  refine lv_aload_n hx hb dX12_orders_96 rfl (lv_at hl 0 rfl) ?_
                  have eq7353 : hp7303 qa900 57 = .int zi6536 := Eq.trans (Fr.at (cq := 13057) F7304 kd900 (cd_o (by decide)) (by decide)) eq6535
                  refine p_get (ci := 12) (v := .int zi6536) (C := RX12) (T := TX12) (N := 69) hx hb hT iw_X12 hown hK hw hW kd900 (by decide) rfl rfl 57 (by decide) eq7353 (hT _ tb_1431) (fun _ h9 => h9) dX12_orders_97 ?_
                  refine lv_icmp_ge (tgt := 123) hx hb dX12_orders_100 (by decide) (fun cn7354 => ?_) (fun cn7354 => ?_)
                  · skip
                    have tf7355 : zi6536.toInt ≤ zi7302.toInt := (fa_le _ _).mp cn7354
                    exact jn7164 hp7303 zi7184 _ _ ls ok7305 (Fr.tr (Fr.rf) F7304 (by decide)) (lv_sub hl [0, 1, 2] rfl) hw hS
                  · skip
                    have tf7356 : zi7302.toInt < zi6536.toInt := (fa_lt _ _).mp (Int32.not_le.mp cn7354)
                    have bd7357 : (0 : Int) ≤ zi7302.toInt ∧ zi7302.toInt ≤ 5 := r_lt_x (Int32.not_le.mp cn7354) bd7306 bd6537 (by decide) (by decide)
                    have bd7358 : (1 : Int) ≤ zi6536.toInt ∧ zi6536.toInt ≤ 6 := r_lt_y (Int32.not_le.mp cn7354) bd7306 bd6537 (by decide) (by decide)
                    refine lv_aload_n hx hb dX12_orders_103 rfl (lv_at hl 0 rfl) ?_
                    obtain ⟨qa7360, eq7359, kd7361⟩ := rd_13059 ok7305 kd900
                    refine p_get (ci := 12) (v := .ref qa7360) (C := RX12) (T := TX12) (N := 69) hx hb hT iw_X12 hown hK hw hW kd900 (by decide) rfl rfl 59 (by decide) eq7359 (hT _ tb_1433) (fun _ h9 => h9) dX12_orders_104 ?_
                    refine lv_iload hx hb dX12_orders_107 (lv_at hl 3 rfl) ?_
                    refine lv_aload_n hx hb dX12_orders_109 rfl (lv_at hl 0 rfl) ?_
                    have eq7362 : hp7303 qa900 58 = .ref qa6338 := Eq.trans (Fr.at (cq := 13058) F7304 kd900 (cd_o (by decide)) (by decide)) (Eq.trans (Fr.at (cq := 13058) F6480 kd900 (cd_o (by decide)) (by decide)) (Eq.trans (Fr.at (cq := 13058) F6342 kd900 (cd_o (by decide)) (by decide)) eq6337))
                    refine p_get (ci := 12) (v := .ref qa6338) (C := RX12) (T := TX12) (N := 69) hx hb hT iw_X12 hown hK hw hW kd900 (by decide) rfl rfl 58 (by decide) eq7362 (hT _ tb_1432) (fun _ h9 => h9) dX12_orders_110 ?_
                    refine lv_iload hx hb dX12_orders_113 (lv_at hl 3 rfl) ?_
                    obtain ⟨zi7364, eq7363, bd7365⟩ := rd_96000 ok7305 kd6339 ((zi7302 : Int32).toNatClampNeg)
                    refine p_iald (v := zi7364) hx hb hK hw hW kd6339 (by decide) rfl (hW.len kd6339 (n := 6) rfl (by decide)) (vp_b bd7357 (by decide) (by decide)) eq7363 dX12_orders_115 ?_
                    refine p_iast (x := zi7364) hx hb hK hw hS hW kd7361 (by decide) rfl (hW.len kd7361 (n := 6) rfl (by decide)) (vp_b bd7357 (by decide) (by decide)) dX12_orders_116 (fun hp7366 eh7367 H locs hw hS => ?_)
                    have ok7368 := wr_97000 ok7305 kd7361 eh7367
                    obtain ⟨zi7369, ea7370⟩ : ∃ z : Int32, z = zi7302 + 1 := ⟨_, rfl⟩
                    have bd7371 : (1 : Int) ≤ zi7369.toInt ∧ zi7369.toInt ≤ 6 := b_iadd ea7370 bd7357 bc_1 (by decide) (by decide) (by decide) (by decide)
                    have qe7372 : zi7369.toInt = (zi7302 : Int32).toInt + (1 : Int32).toInt := e_iadd ea7370 bd7357 bc_1 (by decide) (by decide)
                    have qe7373 : zi7369.toInt = zi7302.toInt + 1 := by have ha : (1 : Int32).toInt = 1 := (by decide); rw [ha] at qe7372; exact qe7372
                    refine lv_iinc (v := zi7369) (lv' := [(6, .int zi7369), (0, .ref qa900), (2, .int zi902), (3, .int zi7184)]) hx hb dX12_orders_117 hl (k := 3) rfl ea7370.symm (by decide) rfl (fun ls hl => ?_)
                    refine lv_goto (tgt := 94) hx hb dX12_orders_120 (by decide) ?_
                    exact ih7350 hp7366 zi7369 _ _ ls (by have := hm7352; have := qe7373; omega) ok7368 (Fr.put (cq := 97000) (Fr.tr (Fr.rf) F7304 (by decide)) eh7367 kd7361 (cd_a (by decide)) (by decide)) (b_wid2 bd7371 (by decide) (by decide)) (lv_sub hl [1, 2, 3, 0] rfl) hw hS
              exact lp7351 _ hp6479 0 _ _ ls (lp_in _) ok6481 (Fr.rf) (b_wid2 bc_0 (by decide) (by decide)) (lv_sub hl [2, 3, 1, 0] rfl) hw hS
            · skip
              have bd7374 : (0 : Int) ≤ zi3409.toInt ∧ zi3409.toInt ≤ 0 := r_eq_x cn6560 bd3414 bc_0 (by decide) (by decide)
              refine lv_iload_n hx hb dX12_orders_57 rfl (lv_at hl 1 rfl) ?_
              refine lv_if_eq (tgt := 74) hx hb dX12_orders_58 (by decide) (fun cn7375 => ?_) (fun cn7375 => ?_)
              · skip
                have bd7376 : (0 : Int) ≤ zi902.toInt ∧ zi902.toInt ≤ 0 := r_eq_x cn7375 bd902 bc_0 (by decide) (by decide)
                refine lv_aload_n hx hb dX12_orders_74 rfl (lv_at hl 0 rfl) ?_
                obtain ⟨qa7378, eq7377, kd7379⟩ := rd_13050 ok6481 kd900
                refine p_get (ci := 12) (v := .ref qa7378) (C := RX12) (T := TX12) (N := 69) hx hb hT iw_X12 hown hK hw hW kd900 (by decide) rfl rfl 50 (by decide) eq7377 (hT _ tb_1424) (fun _ h9 => h9) dX12_orders_75 ?_
                refine lv_iconst (v := 0) hx hb dX12_orders_78 (by decide) ?_
                obtain ⟨zi7381, eq7380⟩ := rd_93000 ok6481 kd7379 ((0 : Int32).toNatClampNeg)
                refine p_iald (v := zi7381) hx hb hK hw hW kd7379 (by decide) rfl (hW.len kd7379 (n := 40) rfl (by decide)) (vp_b bc_0 (by decide) (by decide)) eq7380 dX12_orders_79 ?_
                refine lv_iload_n hx hb dX12_orders_80 rfl (lv_at hl 2 rfl) ?_
                refine lv_icmp_ge (tgt := 123) hx hb dX12_orders_81 (by decide) (fun cn7382 => ?_) (fun cn7382 => ?_)
                · skip
                  have tf7383 : zi3408.toInt ≤ zi7381.toInt := (fa_le _ _).mp cn7382
                  exact jn7164 hp6479 zi3408 _ _ ls ok6481 (Fr.rf) (lv_sub hl [0, 1, 2] rfl) hw hS
                · skip
                  have tf7384 : zi7381.toInt < zi3408.toInt := (fa_lt _ _).mp (Int32.not_le.mp cn7382)
                  have bd7385 : (-2147483648 : Int) ≤ zi7381.toInt ∧ zi7381.toInt ≤ 2147483646 := r_lt_x (Int32.not_le.mp cn7382) (b_all zi7381) (b_all zi3408) (by decide) (by decide)
                  have bd7386 : (-2147483647 : Int) ≤ zi3408.toInt ∧ zi3408.toInt ≤ 2147483647 := r_lt_y (Int32.not_le.mp cn7382) (b_all zi7381) (b_all zi3408) (by decide) (by decide)
                  refine lv_aload_n hx hb dX12_orders_84 rfl (lv_at hl 0 rfl) ?_
                  refine p_get (ci := 12) (v := .ref qa7378) (C := RX12) (T := TX12) (N := 69) hx hb hT iw_X12 hown hK hw hW kd900 (by decide) rfl rfl 50 (by decide) eq7377 (hT _ tb_1424) (fun _ h9 => h9) dX12_orders_85 ?_
                  refine lv_iconst (v := 0) hx hb dX12_orders_88 (by decide) ?_
                  refine p_iald (v := zi7381) hx hb hK hw hW kd7379 (by decide) rfl (hW.len kd7379 (n := 40) rfl (by decide)) (vp_b bc_0 (by decide) (by decide)) eq7380 dX12_orders_89 ?_
                  refine lv_istore_n (lv' := [(3, .int zi7381), (0, .ref qa900), (2, .int zi902), (4, .int zi3409), (6, .int zi6478)]) hx hb dX12_orders_90 rfl hl (by decide) rfl (fun ls hl => ?_)
                  refine lv_iconst (v := 0) hx hb dX12_orders_91 (by decide) ?_
                  refine lv_istore (lv' := [(6, .int 0), (3, .int zi7381), (0, .ref qa900), (2, .int zi902), (4, .int zi3409)]) hx hb dX12_orders_92 hl (by decide) rfl (fun ls hl => ?_)
                  have lp7553 : ∀ (n7551 : Nat) (hp7505 : Nat → Nat → Value) (zi7504 : Int32) (H : Heap) (locs : List Loc) (ls : Array Slot), 6 - zi7504.toInt < (n7551 : Int) → Ok K hp7505 → Fr [97000] K hp6479 hp7505 → ((0 : Int) ≤ zi7504.toInt ∧ zi7504.toInt ≤ 6) → lv_has ls 7 [(0, .ref qa900), (2, .int zi902), (3, .int zi7381), (6, .int zi7504)] → PW G cy K ln Ls A hp7505 H → va_S A s.heap H locs → W p l e ({ frames := 4, cells := 0, slots := 0, locals := 103 } : Room) s m ([.ref qa900, .int zi901, .int zi902] : List Value).toArray below meth c H locs 0 0 Q (F0 m 94 ls []) := by
                    intro n7551
                    induction n7551 with
                    | zero =>
                      intro hp7505 zi7504 H locs ls hm7554 ok7507 F7506 bd7508 hl hw hS
                      exact absurd hm7554 (by have := bd7508; omega)
                    | succ n7551 ih7552 =>
                      intro hp7505 zi7504 H locs ls hm7554 ok7507 F7506 bd7508 hl hw hS
                      refine lv_iload hx hb dX12_orders_94 (lv_at hl 3 rfl) ?_
                      refine lv_aload_n hx hb dX12_orders_96 rfl (lv_at hl 0 rfl) ?_
                      have eq7555 : hp7505 qa900 57 = .int zi6536 := Eq.trans (Fr.at (cq := 13057) F7506 kd900 (cd_o (by decide)) (by decide)) eq6535
                      refine p_get (ci := 12) (v := .int zi6536) (C := RX12) (T := TX12) (N := 69) hx hb hT iw_X12 hown hK hw hW kd900 (by decide) rfl rfl 57 (by decide) eq7555 (hT _ tb_1431) (fun _ h9 => h9) dX12_orders_97 ?_
                      refine lv_icmp_ge (tgt := 123) hx hb dX12_orders_100 (by decide) (fun cn7556 => ?_) (fun cn7556 => ?_)
                      · skip
                        have tf7557 : zi6536.toInt ≤ zi7504.toInt := (fa_le _ _).mp cn7556
                        exact jn7164 hp7505 zi7381 _ _ ls ok7507 (Fr.tr (Fr.rf) F7506 (by decide)) (lv_sub hl [0, 1, 2] rfl) hw hS
                      · skip
                        have tf7558 : zi7504.toInt < zi6536.toInt := (fa_lt _ _).mp (Int32.not_le.mp cn7556)
                        have bd7559 : (0 : Int) ≤ zi7504.toInt ∧ zi7504.toInt ≤ 5 := r_lt_x (Int32.not_le.mp cn7556) bd7508 bd6537 (by decide) (by decide)
                        have bd7560 : (1 : Int) ≤ zi6536.toInt ∧ zi6536.toInt ≤ 6 := r_lt_y (Int32.not_le.mp cn7556) bd7508 bd6537 (by decide) (by decide)
                        refine lv_aload_n hx hb dX12_orders_103 rfl (lv_at hl 0 rfl) ?_
                        obtain ⟨qa7562, eq7561, kd7563⟩ := rd_13059 ok7507 kd900
                        refine p_get (ci := 12) (v := .ref qa7562) (C := RX12) (T := TX12) (N := 69) hx hb hT iw_X12 hown hK hw hW kd900 (by decide) rfl rfl 59 (by decide) eq7561 (hT _ tb_1433) (fun _ h9 => h9) dX12_orders_104 ?_
                        refine lv_iload hx hb dX12_orders_107 (lv_at hl 3 rfl) ?_
                        refine lv_aload_n hx hb dX12_orders_109 rfl (lv_at hl 0 rfl) ?_
                        have eq7564 : hp7505 qa900 58 = .ref qa6338 := Eq.trans (Fr.at (cq := 13058) F7506 kd900 (cd_o (by decide)) (by decide)) (Eq.trans (Fr.at (cq := 13058) F6480 kd900 (cd_o (by decide)) (by decide)) (Eq.trans (Fr.at (cq := 13058) F6342 kd900 (cd_o (by decide)) (by decide)) eq6337))
                        refine p_get (ci := 12) (v := .ref qa6338) (C := RX12) (T := TX12) (N := 69) hx hb hT iw_X12 hown hK hw hW kd900 (by decide) rfl rfl 58 (by decide) eq7564 (hT _ tb_1432) (fun _ h9 => h9) dX12_orders_110 ?_
                        refine lv_iload hx hb dX12_orders_113 (lv_at hl 3 rfl) ?_
                        obtain ⟨zi7566, eq7565, bd7567⟩ := rd_96000 ok7507 kd6339 ((zi7504 : Int32).toNatClampNeg)
                        refine p_iald (v := zi7566) hx hb hK hw hW kd6339 (by decide) rfl (hW.len kd6339 (n := 6) rfl (by decide)) (vp_b bd7559 (by decide) (by decide)) eq7565 dX12_orders_115 ?_
                        refine p_iast (x := zi7566) hx hb hK hw hS hW kd7563 (by decide) rfl (hW.len kd7563 (n := 6) rfl (by decide)) (vp_b bd7559 (by decide) (by decide)) dX12_orders_116 (fun hp7568 eh7569 H locs hw hS => ?_)
                        have ok7570 := wr_97000 ok7507 kd7563 eh7569
                        obtain ⟨zi7571, ea7572⟩ : ∃ z : Int32, z = zi7504 + 1 := ⟨_, rfl⟩
                        have bd7573 : (1 : Int) ≤ zi7571.toInt ∧ zi7571.toInt ≤ 6 := b_iadd ea7572 bd7559 bc_1 (by decide) (by decide) (by decide) (by decide)
                        have qe7574 : zi7571.toInt = (zi7504 : Int32).toInt + (1 : Int32).toInt := e_iadd ea7572 bd7559 bc_1 (by decide) (by decide)
                        have qe7575 : zi7571.toInt = zi7504.toInt + 1 := by have ha : (1 : Int32).toInt = 1 := (by decide); rw [ha] at qe7574; exact qe7574
                        refine lv_iinc (v := zi7571) (lv' := [(6, .int zi7571), (0, .ref qa900), (2, .int zi902), (3, .int zi7381)]) hx hb dX12_orders_117 hl (k := 3) rfl ea7572.symm (by decide) rfl (fun ls hl => ?_)
                        refine lv_goto (tgt := 94) hx hb dX12_orders_120 (by decide) ?_
                        exact ih7552 hp7568 zi7571 _ _ ls (by have := hm7554; have := qe7575; omega) ok7570 (Fr.put (cq := 97000) (Fr.tr (Fr.rf) F7506 (by decide)) eh7569 kd7563 (cd_a (by decide)) (by decide)) (b_wid2 bd7573 (by decide) (by decide)) (lv_sub hl [1, 2, 3, 0] rfl) hw hS
                  exact lp7553 _ hp6479 0 _ _ ls (lp_in _) ok6481 (Fr.rf) (b_wid2 bc_0 (by decide) (by decide)) (lv_sub hl [2, 3, 1, 0] rfl) hw hS
              · skip
                have tf7576 : (zi902 : Int32).toInt ≠ (0 : Int32).toInt := fun e => cn7375 (Int32.toInt_inj.mp e)
                have := toi bc_0
                have bd7577 : (1 : Int) ≤ zi902.toInt ∧ zi902.toInt ≤ 1 := r_ne_lo cn7375 bd902 (toi bc_0) (by decide) (by decide)
                refine lv_aload_n hx hb dX12_orders_61 rfl (lv_at hl 0 rfl) ?_
                obtain ⟨qa7579, eq7578, kd7580⟩ := rd_13050 ok6481 kd900
                refine p_get (ci := 12) (v := .ref qa7579) (C := RX12) (T := TX12) (N := 69) hx hb hT iw_X12 hown hK hw hW kd900 (by decide) rfl rfl 50 (by decide) eq7578 (hT _ tb_1424) (fun _ h9 => h9) dX12_orders_62 ?_
                refine lv_iconst (v := 0) hx hb dX12_orders_65 (by decide) ?_
                obtain ⟨zi7582, eq7581⟩ := rd_93000 ok6481 kd7580 ((0 : Int32).toNatClampNeg)
                refine p_iald (v := zi7582) hx hb hK hw hW kd7580 (by decide) rfl (hW.len kd7580 (n := 40) rfl (by decide)) (vp_b bc_0 (by decide) (by decide)) eq7581 dX12_orders_66 ?_
                refine lv_iload_n hx hb dX12_orders_67 rfl (lv_at hl 2 rfl) ?_
                refine lv_icmp_le (tgt := 123) hx hb dX12_orders_68 (by decide) (fun cn7583 => ?_) (fun cn7583 => ?_)
                · skip
                  have tf7584 : zi7582.toInt ≤ zi3408.toInt := (fa_le _ _).mp cn7583
                  exact jn7164 hp6479 zi3408 _ _ ls ok6481 (Fr.rf) (lv_sub hl [0, 1, 2] rfl) hw hS
                · skip
                  have tf7585 : zi3408.toInt < zi7582.toInt := (fa_lt _ _).mp (Int32.not_le.mp cn7583)
                  have bd7586 : (-2147483648 : Int) ≤ zi3408.toInt ∧ zi3408.toInt ≤ 2147483646 := r_lt_x (Int32.not_le.mp cn7583) (b_all zi3408) (b_all zi7582) (by decide) (by decide)
                  have bd7587 : (-2147483647 : Int) ≤ zi7582.toInt ∧ zi7582.toInt ≤ 2147483647 := r_lt_y (Int32.not_le.mp cn7583) (b_all zi3408) (b_all zi7582) (by decide) (by decide)
                  refine lv_goto (tgt := 84) hx hb dX12_orders_71 (by decide) ?_
                  refine lv_aload_n hx hb dX12_orders_84 rfl (lv_at hl 0 rfl) ?_
                  refine p_get (ci := 12) (v := .ref qa7579) (C := RX12) (T := TX12) (N := 69) hx hb hT iw_X12 hown hK hw hW kd900 (by decide) rfl rfl 50 (by decide) eq7578 (hT _ tb_1424) (fun _ h9 => h9) dX12_orders_85 ?_
                  refine lv_iconst (v := 0) hx hb dX12_orders_88 (by decide) ?_
                  refine p_iald (v := zi7582) hx hb hK hw hW kd7580 (by decide) rfl (hW.len kd7580 (n := 40) rfl (by decide)) (vp_b bc_0 (by decide) (by decide)) eq7581 dX12_orders_89 ?_
                  refine lv_istore_n (lv' := [(3, .int zi7582), (0, .ref qa900), (2, .int zi902), (4, .int zi3409), (6, .int zi6478)]) hx hb dX12_orders_90 rfl hl (by decide) rfl (fun ls hl => ?_)
                  refine lv_iconst (v := 0) hx hb dX12_orders_91 (by decide) ?_
                  refine lv_istore (lv' := [(6, .int 0), (3, .int zi7582), (0, .ref qa900), (2, .int zi902), (4, .int zi3409)]) hx hb dX12_orders_92 hl (by decide) rfl (fun ls hl => ?_)
                  have lp7754 : ∀ (n7752 : Nat) (hp7706 : Nat → Nat → Value) (zi7705 : Int32) (H : Heap) (locs : List Loc) (ls : Array Slot), 6 - zi7705.toInt < (n7752 : Int) → Ok K hp7706 → Fr [97000] K hp6479 hp7706 → ((0 : Int) ≤ zi7705.toInt ∧ zi7705.toInt ≤ 6) → lv_has ls 7 [(0, .ref qa900), (2, .int zi902), (3, .int zi7582), (6, .int zi7705)] → PW G cy K ln Ls A hp7706 H → va_S A s.heap H locs → W p l e ({ frames := 4, cells := 0, slots := 0, locals := 103 } : Room) s m ([.ref qa900, .int zi901, .int zi902] : List Value).toArray below meth c H locs 0 0 Q (F0 m 94 ls []) := by
                    intro n7752
                    induction n7752 with
                    | zero =>
                      intro hp7706 zi7705 H locs ls hm7755 ok7708 F7707 bd7709 hl hw hS
                      exact absurd hm7755 (by have := bd7709; omega)
                    | succ n7752 ih7753 =>
                      intro hp7706 zi7705 H locs ls hm7755 ok7708 F7707 bd7709 hl hw hS
                      refine lv_iload hx hb dX12_orders_94 (lv_at hl 3 rfl) ?_
                      refine lv_aload_n hx hb dX12_orders_96 rfl (lv_at hl 0 rfl) ?_
                      have eq7756 : hp7706 qa900 57 = .int zi6536 := Eq.trans (Fr.at (cq := 13057) F7707 kd900 (cd_o (by decide)) (by decide)) eq6535
                      refine p_get (ci := 12) (v := .int zi6536) (C := RX12) (T := TX12) (N := 69) hx hb hT iw_X12 hown hK hw hW kd900 (by decide) rfl rfl 57 (by decide) eq7756 (hT _ tb_1431) (fun _ h9 => h9) dX12_orders_97 ?_
                      refine lv_icmp_ge (tgt := 123) hx hb dX12_orders_100 (by decide) (fun cn7757 => ?_) (fun cn7757 => ?_)
                      · skip
                        have tf7758 : zi6536.toInt ≤ zi7705.toInt := (fa_le _ _).mp cn7757
                        exact jn7164 hp7706 zi7582 _ _ ls ok7708 (Fr.tr (Fr.rf) F7707 (by decide)) (lv_sub hl [0, 1, 2] rfl) hw hS
                      · skip
                        have tf7759 : zi7705.toInt < zi6536.toInt := (fa_lt _ _).mp (Int32.not_le.mp cn7757)
                        have bd7760 : (0 : Int) ≤ zi7705.toInt ∧ zi7705.toInt ≤ 5 := r_lt_x (Int32.not_le.mp cn7757) bd7709 bd6537 (by decide) (by decide)
                        have bd7761 : (1 : Int) ≤ zi6536.toInt ∧ zi6536.toInt ≤ 6 := r_lt_y (Int32.not_le.mp cn7757) bd7709 bd6537 (by decide) (by decide)
                        refine lv_aload_n hx hb dX12_orders_103 rfl (lv_at hl 0 rfl) ?_
                        obtain ⟨qa7763, eq7762, kd7764⟩ := rd_13059 ok7708 kd900
                        refine p_get (ci := 12) (v := .ref qa7763) (C := RX12) (T := TX12) (N := 69) hx hb hT iw_X12 hown hK hw hW kd900 (by decide) rfl rfl 59 (by decide) eq7762 (hT _ tb_1433) (fun _ h9 => h9) dX12_orders_104 ?_
                        refine lv_iload hx hb dX12_orders_107 (lv_at hl 3 rfl) ?_
                        refine lv_aload_n hx hb dX12_orders_109 rfl (lv_at hl 0 rfl) ?_
                        have eq7765 : hp7706 qa900 58 = .ref qa6338 := Eq.trans (Fr.at (cq := 13058) F7707 kd900 (cd_o (by decide)) (by decide)) (Eq.trans (Fr.at (cq := 13058) F6480 kd900 (cd_o (by decide)) (by decide)) (Eq.trans (Fr.at (cq := 13058) F6342 kd900 (cd_o (by decide)) (by decide)) eq6337))
                        refine p_get (ci := 12) (v := .ref qa6338) (C := RX12) (T := TX12) (N := 69) hx hb hT iw_X12 hown hK hw hW kd900 (by decide) rfl rfl 58 (by decide) eq7765 (hT _ tb_1432) (fun _ h9 => h9) dX12_orders_110 ?_
                        refine lv_iload hx hb dX12_orders_113 (lv_at hl 3 rfl) ?_
                        obtain ⟨zi7767, eq7766, bd7768⟩ := rd_96000 ok7708 kd6339 ((zi7705 : Int32).toNatClampNeg)
                        refine p_iald (v := zi7767) hx hb hK hw hW kd6339 (by decide) rfl (hW.len kd6339 (n := 6) rfl (by decide)) (vp_b bd7760 (by decide) (by decide)) eq7766 dX12_orders_115 ?_
                        refine p_iast (x := zi7767) hx hb hK hw hS hW kd7764 (by decide) rfl (hW.len kd7764 (n := 6) rfl (by decide)) (vp_b bd7760 (by decide) (by decide)) dX12_orders_116 (fun hp7769 eh7770 H locs hw hS => ?_)
                        have ok7771 := wr_97000 ok7708 kd7764 eh7770
                        obtain ⟨zi7772, ea7773⟩ : ∃ z : Int32, z = zi7705 + 1 := ⟨_, rfl⟩
                        have bd7774 : (1 : Int) ≤ zi7772.toInt ∧ zi7772.toInt ≤ 6 := b_iadd ea7773 bd7760 bc_1 (by decide) (by decide) (by decide) (by decide)
                        have qe7775 : zi7772.toInt = (zi7705 : Int32).toInt + (1 : Int32).toInt := e_iadd ea7773 bd7760 bc_1 (by decide) (by decide)
                        have qe7776 : zi7772.toInt = zi7705.toInt + 1 := by have ha : (1 : Int32).toInt = 1 := (by decide); rw [ha] at qe7775; exact qe7775
                        refine lv_iinc (v := zi7772) (lv' := [(6, .int zi7772), (0, .ref qa900), (2, .int zi902), (3, .int zi7582)]) hx hb dX12_orders_117 hl (k := 3) rfl ea7773.symm (by decide) rfl (fun ls hl => ?_)
                        refine lv_goto (tgt := 94) hx hb dX12_orders_120 (by decide) ?_
                        exact ih7753 hp7769 zi7772 _ _ ls (by have := hm7755; have := qe7776; omega) ok7771 (Fr.put (cq := 97000) (Fr.tr (Fr.rf) F7707 (by decide)) eh7770 kd7764 (cd_a (by decide)) (by decide)) (b_wid2 bd7774 (by decide) (by decide)) (lv_sub hl [1, 2, 3, 0] rfl) hw hS
                  exact lp7754 _ hp6479 0 _ _ ls (lp_in _) ok6481 (Fr.rf) (b_wid2 bc_0 (by decide) (by decide)) (lv_sub hl [2, 3, 1, 0] rfl) hw hS
          · skip
            have tf7777 : zi6478.toInt < zi6536.toInt := (fa_lt _ _).mp (Int32.not_le.mp cn6538)
            have bd7778 : (0 : Int) ≤ zi6478.toInt ∧ zi6478.toInt ≤ 5 := r_lt_x (Int32.not_le.mp cn6538) bd6482 bd6537 (by decide) (by decide)
            have bd7779 : (1 : Int) ≤ zi6536.toInt ∧ zi6536.toInt ≤ 6 := r_lt_y (Int32.not_le.mp cn6538) bd6482 bd6537 (by decide) (by decide)
            refine lv_aload_n hx hb dX12_orders_34 rfl (lv_at hl 0 rfl) ?_
            refine lv_aload_n hx hb dX12_orders_35 rfl (lv_at hl 0 rfl) ?_
            have eq7780 : hp6479 qa900 58 = .ref qa6338 := Eq.trans (Fr.at (cq := 13058) F6480 kd900 (cd_o (by decide)) (by decide)) (Eq.trans (Fr.at (cq := 13058) F6342 kd900 (cd_o (by decide)) (by decide)) eq6337)
            refine p_get (ci := 12) (v := .ref qa6338) (C := RX12) (T := TX12) (N := 69) hx hb hT iw_X12 hown hK hw hW kd900 (by decide) rfl rfl 58 (by decide) eq7780 (hT _ tb_1432) (fun _ h9 => h9) dX12_orders_36 ?_
            refine lv_iload hx hb dX12_orders_39 (lv_at hl 4 rfl) ?_
            obtain ⟨zi7782, eq7781, bd7783⟩ := rd_96000 ok6481 kd6339 ((zi6478 : Int32).toNatClampNeg)
            refine p_iald (v := zi7782) hx hb hK hw hW kd6339 (by decide) rfl (hW.len kd6339 (n := 6) rfl (by decide)) (vp_b bd7778 (by decide) (by decide)) eq7781 dX12_orders_41 ?_
            have pd7784 : LW hp6479 qa900 := LW_fr ok0 kd900 (show Fr [13048, 13051, 13057, 90000, 91000, 93000, 96000, 97000] K hp0 hp6479 from (Fr.tr (Fr.tr (Fr.tr (Fr.tr (Fr.rf) F3 (by decide)) F3411 (by decide)) F6342 (by decide)) F6480 (by decide))) (by decide) pdLW
            refine kq_i hw hS hA (va_runV (As := [.int zi7782]) (rest := []) ⟨hx, hb, hml, hown, hT⟩ (cX12_sayNow_0 l G cy ev K ln Ls hW _ hp6479 ok6481 qa900 zi7782 kd900 (b_wid2 bd7783 (by decide) (by decide)) pd7784) (cwV 1 hT (good_V tb_1809 tb_1806 tb_1808 tb_87 tb_122) rfl rfl rfl (by decide +kernel) ⟨Nat.le_of_ble_eq_true rfl, Nat.le_of_ble_eq_true rfl⟩) (pool_preV (ci := 12) hK hE hS hA hw hW kd900 (by decide) rfl) rfl rfl hl.1 rfl (lv_room (Nat.le_of_ble_eq_true rfl)) dX12_orders_42 ⟨Nat.le_of_ble_eq_true rfl, Nat.le_of_ble_eq_true rfl⟩) (fun zi7789 hp7785 H locs hq7788 hw hS => ?_)
            obtain ⟨ok7786, F7787, bd7790⟩ := hq7788
            have hw : PW G cy K ln Ls A hp7785 H := hw
            refine lv_pop hx hb dX12_orders_45 rfl ?_
            obtain ⟨zi7791, ea7792⟩ : ∃ z : Int32, z = zi6478 + 1 := ⟨_, rfl⟩
            have bd7793 : (1 : Int) ≤ zi7791.toInt ∧ zi7791.toInt ≤ 6 := b_iadd ea7792 bd7778 bc_1 (by decide) (by decide) (by decide) (by decide)
            have qe7794 : zi7791.toInt = (zi6478 : Int32).toInt + (1 : Int32).toInt := e_iadd ea7792 bd7778 bc_1 (by decide) (by decide)
            have qe7795 : zi7791.toInt = zi6478.toInt + 1 := by have ha : (1 : Int32).toInt = 1 := (by decide); rw [ha] at qe7794; exact qe7794
            refine lv_iinc (v := zi7791) (lv' := [(6, .int zi7791), (0, .ref qa900), (2, .int zi902), (3, .int zi3408), (4, .int zi3409)]) hx hb dX12_orders_46 hl (k := 4) rfl ea7792.symm (by decide) rfl (fun ls hl => ?_)
            refine lv_goto (tgt := 25) hx hb dX12_orders_49 (by decide) ?_
            exact ih6532 hp7785 zi7791 _ _ ls (by have := hm6534; have := qe7795; omega) ok7786 (Fr.tr (Fr.tr (Fr.rf) F6480 (by decide)) F7787 (by decide)) (b_wid2 bd7793 (by decide) (by decide)) (lv_sub hl [1, 2, 3, 4, 0] rfl) hw hS
      exact lp6533 _ hp6340 0 _ _ ls (lp_in _) ok6341 (Fr.rf) (b_wid2 bc_0 (by decide) (by decide)) (lv_sub hl [1, 2, 3, 4, 0] rfl) hw hS
  exact lp6335 _ hp1 0 1 _ _ ls (lp_in _) ok2 (Fr.rf) (b_wid2 bc_1 (by decide) (by decide)) xq6 (lv_sub hl [3, 5, 2, 1, 0] rfl) hw hS
