set_option maxRecDepth 100000 in
set_option maxHeartbeats 4000000 in
theorem cX12_comesOut_0 (l : Launch) (G : va_G) (cy : Nat → ClassId) (ev : Ew) (K ln : Nat → Nat) (Ls : List Nat) (hW : SW K ln Ls) (sz : Nat) (hp0 : Nat → Nat → Value) (ok0 : Ok K hp0) (qa900 : Nat) (zi901 : Int32) (gc0 : Int) (kd900 : K qa900 = 13) (bd901 : ((0 : Int) ≤ zi901.toInt ∧ zi901.toInt ≤ 1)) (rp0 : (gi hp0 qa900 38) + (gi hp0 qa900 45) ≤ 420*(gi hp0 qa900 19) + 402) (rp1 : (gi hp0 qa900 45) ≤ 63) (pdEI1 : EIx hp0 qa900 gc0 1) (pdLPx : LPx hp0 qa900) : Met l yX12_comesOut (WS yX12_comesOut cX12_comesOut 3 none) { frames := 1, cells := 0, slots := 0, locals := 22 } (PB2 [.ref qa900, .int zi901] sz G cy ev (va_pl Ls (cellOf cy K ln hp0))) (QBv (S := (Nat → Nat → Value)) (fun u : (Nat → Nat → Value) => Ok K u ∧ Fr [13038, 13045, 84000, 85000] K hp0 u ∧ (EIx u qa900 gc0 1) ∧ (LPx u qa900) ∧ (COx u qa900 zi901) ∧ ((gi u qa900 38) + (gi u qa900 45) = (gi hp0 qa900 38) + (gi hp0 qa900 45)) ∧ ((gi u qa900 45) ≤ (gi hp0 qa900 45))) G (fun u => va_pl Ls (cellOf cy K ln u)) (va_A (va_pl Ls (cellOf cy K ln hp0)) sz)) 0 0 (va_A (va_pl Ls (cellOf cy K ln hp0)) sz) := by
  refine met_of2 (y := yX12_comesOut) (L := 3) (av := [.ref qa900, .int zi901]) (Qc := fun A => QBv (S := (Nat → Nat → Value)) (fun u : (Nat → Nat → Value) => Ok K u ∧ Fr [13038, 13045, 84000, 85000] K hp0 u ∧ (EIx u qa900 gc0 1) ∧ (LPx u qa900) ∧ (COx u qa900 zi901) ∧ ((gi u qa900 38) + (gi u qa900 45) = (gi hp0 qa900 38) + (gi hp0 qa900 45)) ∧ ((gi u qa900 45) ≤ (gi hp0 qa900 45))) G (fun u => va_pl Ls (cellOf cy K ln u)) A) (plainFor_of_name (by decide)) (Nat.le_of_ble_eq_true rfl) ?_
  intro p e s m below meth c hsz hx hb hr hml hown hT hlocks hin hK A hA hE hw hS ls hl
  have hw : PW G cy K ln Ls A hp0 s.heap := hw
  have hown : s.vm.findClass "LieClockModel" = some m.cls := hown
  have hl : lv_has ls 3 [(0, .ref qa900), (1, .int zi901)] := hl
  obtain ⟨Q, hQ⟩ : ∃ Q : State → Prop, Q = MQ below (QBv (S := (Nat → Nat → Value)) (fun u : (Nat → Nat → Value) => Ok K u ∧ Fr [13038, 13045, 84000, 85000] K hp0 u ∧ (EIx u qa900 gc0 1) ∧ (LPx u qa900) ∧ (COx u qa900 zi901) ∧ ((gi u qa900 38) + (gi u qa900 45) = (gi hp0 qa900 38) + (gi hp0 qa900 45)) ∧ ((gi u qa900 45) ≤ (gi hp0 qa900 45))) G (fun u => va_pl Ls (cellOf cy K ln u)) A) ([.ref qa900, .int zi901] : List Value).toArray s 0 0 A := ⟨_, rfl⟩
  rw [← hQ]
  obtain ⟨zi2, eq1, bd3⟩ := rd_13038 ok0 kd900
  obtain ⟨zi5, eq4, bd6⟩ := rd_13019 ok0 kd900
  obtain ⟨zi8, eq7, bd9⟩ := rd_13045 ok0 kd900
  have rq0 := rp0
  simp only [gi_of eq1, gi_of eq4, gi_of eq7] at rq0
  have rq1 := rp1
  simp only [gi_of eq7] at rq1
  obtain ⟨zi11, eq10, bd12⟩ := rd_13012 ok0 kd900
  have eq682 : hp415 qa900 19 = .int zi5 := Eq.trans (Fr.at (cq := 13019) F416 kd900 (cd_o (by decide)) (by decide)) eq4
  have eq683 : hp415 qa900 12 = .int zi11 := Eq.trans (Fr.at (cq := 13012) F416 kd900 (cd_o (by decide)) (by decide)) eq10
  have lp680 : ∀ (n678 : Nat) (hp415 : Nat → Nat → Value) (zi419 : Int32) (zi423 : Int32) (H : Heap) (locs : List Loc) (ls : Array Slot), zi423.toInt < (n678 : Int) → Ok K hp415 → Fr [13038, 13045, 84000, 85000] K hp0 hp415 → ((0 : Int) ≤ zi419.toInt ∧ zi419.toInt ≤ 840) → hp415 qa900 38 = .int zi419 → ((0 : Int) ≤ zi423.toInt ∧ zi423.toInt ≤ 64) → hp415 qa900 45 = .int zi423 → (zi419.toInt + zi423.toInt = zi2.toInt + zi8.toInt) → (zi423.toInt ≤ zi8.toInt) → (EIx hp415 qa900 gc0 1) → (LPx hp415 qa900) → lv_has ls 3 [(0, .ref qa900), (1, .int zi901)] → PW G cy K ln Ls A hp415 H → va_S A s.heap H locs → W p l e ({ frames := 1, cells := 0, slots := 0, locals := 22 } : Room) s m ([.ref qa900, .int zi901] : List Value).toArray below meth c H locs 0 0 Q (F0 m 0 ls []) := by
    intro n678
    induction n678 with
    | zero =>
      intro hp415 zi419 zi423 H locs ls hm681 ok417 F416 bd428 eq418 bd429 eq422 rq424 rq425 jx426 jx427 hl hw hS
      exact absurd hm681 (by omega)
    | succ n678 ih679 =>
      intro hp415 zi419 zi423 H locs ls hm681 ok417 F416 bd428 eq418 bd429 eq422 rq424 rq425 jx426 jx427 hl hw hS
      refine lv_aload_n hx hb dX12_comesOut_0 rfl (lv_at hl 0 rfl) ?_
      refine p_get (ci := 12) (v := .int zi423) (C := RX12) (T := TX12) (N := 69) hx hb hT iw_X12 hown hK hw hW kd900 (by decide) rfl rfl 45 (by decide) eq422 (hT _ tb_1419) (fun _ h9 => h9) dX12_comesOut_1 ?_
      refine lv_if_le (tgt := 91) hx hb dX12_comesOut_4 (by decide) (fun cn684 => ?_) (fun cn684 => ?_)
      · skip
        have bd685 : (0 : Int) ≤ zi423.toInt ∧ zi423.toInt ≤ 0 := r_le_x cn684 bd429 bc_0 (by decide) (by decide)
        rw [hQ]
        exact kz_v hx hb hr hlocks hS hp415 hw ⟨ok417, (Fr.tr (Fr.rf) F416 (by decide)), (jx426), (jx427), (Or.inl (by rw [gi_of eq422]; omega)), (by simp only [gi_of eq1, gi_of eq418, gi_of eq422, gi_of eq7]; omega), (by simp only [gi_of eq422, gi_of eq7]; omega)⟩ (Nat.le_of_ble_eq_true rfl) (Nat.le_of_ble_eq_true rfl) dX12_comesOut_91
      · skip
        have bd686 : (1 : Int) ≤ zi423.toInt ∧ zi423.toInt ≤ 64 := r_lt_y (Int32.not_le.mp cn684) bc_0 bd429 (by decide) (by decide)
        obtain ⟨qa688, eq687, kd689⟩ := rd_13044 ok417 kd900
        obtain ⟨qa691, eq690, kd692⟩ := rd_13039 ok417 kd900
        obtain ⟨qa694, eq693, kd695⟩ := rd_13040 ok417 kd900
        refine lv_aload_n hx hb dX12_comesOut_7 rfl (lv_at hl 0 rfl) ?_
        refine p_get (ci := 12) (v := .ref qa688) (C := RX12) (T := TX12) (N := 69) hx hb hT iw_X12 hown hK hw hW kd900 (by decide) rfl rfl 44 (by decide) eq687 (hT _ tb_1418) (fun _ h9 => h9) dX12_comesOut_8 ?_
        refine lv_aload_n hx hb dX12_comesOut_11 rfl (lv_at hl 0 rfl) ?_
        refine p_get (ci := 12) (v := .int zi423) (C := RX12) (T := TX12) (N := 69) hx hb hT iw_X12 hown hK hw hW kd900 (by decide) rfl rfl 45 (by decide) eq422 (hT _ tb_1419) (fun _ h9 => h9) dX12_comesOut_12 ?_
        refine lv_iconst (v := 1) hx hb dX12_comesOut_15 (by decide) ?_
        refine lv_isub hx hb dX12_comesOut_16 (lv_topi (fun zi696 ea697 => ?_))
        have bd698 : (0 : Int) ≤ zi696.toInt ∧ zi696.toInt ≤ 63 := b_isub ea697 bd686 bc_1 (by decide) (by decide) (by decide) (by decide)
        have qe699 : zi696.toInt = (zi423 : Int32).toInt - (1 : Int32).toInt := e_isub ea697 bd686 bc_1 (by decide) (by decide)
        have qe700 : zi696.toInt = zi423.toInt - 1 := by have ha : (1 : Int32).toInt = 1 := (by decide); rw [ha] at qe699; exact qe699
        obtain ⟨zi702, eq701⟩ := rd_89000 ok417 kd689 ((zi696 : Int32).toNatClampNeg)
        refine p_iald (v := zi702) hx hb hK hw hW kd689 (by decide) rfl (hW.len kd689 (n := 64) rfl (by decide)) (vp_b bd698 (by decide) (by decide)) eq701 dX12_comesOut_17 ?_
        refine lv_istore_n (lv' := [(2, .int zi702), (0, .ref qa900), (1, .int zi901)]) hx hb dX12_comesOut_18 rfl hl (by decide) rfl (fun ls hl => ?_)
        refine lv_iload_n hx hb dX12_comesOut_19 rfl (lv_at hl 0 rfl) ?_
        refine lv_bipush (v := 6) hx hb dX12_comesOut_20 (by decide) ?_
        refine lv_icmp_eq (tgt := 41) hx hb dX12_comesOut_22 (by decide) (fun cn703 => ?_) (fun cn703 => ?_)
        · skip
          have bd704 : (6 : Int) ≤ zi702.toInt ∧ zi702.toInt ≤ 6 := r_eq_x cn703 (b_all zi702) bc_6 (by decide) (by decide)
          rw [hQ]
          exact kz_v hx hb hr hlocks hS hp415 hw ⟨ok417, (Fr.tr (Fr.rf) F416 (by decide)), (jx426), (jx427), (Or.inr (Or.inl (by rw [gi_of eq422, show (zi423.toInt - 1).toNat = (zi696 : Int32).toNatClampNeg from by have := clampN (x := zi696) (by omega); omega, mA_of eq687 eq701]; omega))), (by simp only [gi_of eq1, gi_of eq418, gi_of eq422, gi_of eq7]; omega), (by simp only [gi_of eq422, gi_of eq7]; omega)⟩ (Nat.le_of_ble_eq_true rfl) (Nat.le_of_ble_eq_true rfl) dX12_comesOut_41
        · skip
          have tf705 : (zi702 : Int32).toInt ≠ (6 : Int32).toInt := fun e => cn703 (Int32.toInt_inj.mp e)
          have := toi bc_6
          refine lv_iload_n hx hb dX12_comesOut_25 rfl (lv_at hl 2 rfl) ?_
          refine lv_if_eq (tgt := 42) hx hb dX12_comesOut_26 (by decide) (fun cn706 => ?_) (fun cn706 => ?_)
          · skip
            have bd707 : (0 : Int) ≤ zi901.toInt ∧ zi901.toInt ≤ 0 := r_eq_x cn706 bd901 bc_0 (by decide) (by decide)
            refine lv_aload_n hx hb dX12_comesOut_42 rfl (lv_at hl 1 rfl) ?_
            refine lv_dup hx hb dX12_comesOut_43 rfl ?_
            refine p_get (ci := 12) (v := .int zi423) (C := RX12) (T := TX12) (N := 69) hx hb hT iw_X12 hown hK hw hW kd900 (by decide) rfl rfl 45 (by decide) eq422 (hT _ tb_1419) (fun _ h9 => h9) dX12_comesOut_44 ?_
            refine lv_iconst (v := 1) hx hb dX12_comesOut_47 (by decide) ?_
            refine lv_isub hx hb dX12_comesOut_48 (lv_topi (fun zi708 ea709 => ?_))
            have bd710 : (0 : Int) ≤ zi708.toInt ∧ zi708.toInt ≤ 63 := b_isub ea709 bd686 bc_1 (by decide) (by decide) (by decide) (by decide)
            have qe711 : zi708.toInt = (zi423 : Int32).toInt - (1 : Int32).toInt := e_isub ea709 bd686 bc_1 (by decide) (by decide)
            have qe712 : zi708.toInt = zi423.toInt - 1 := by have ha : (1 : Int32).toInt = 1 := (by decide); rw [ha] at qe711; exact qe711
            refine p_put (ci := 12) (v := .int zi708) (ty := .int) (C := RX12) (T := TX12) (N := 69) hx hb hT iw_X12 tyX12 tyX12_ok nmX12 hown hK hw hS hW kd900 (by decide) rfl rfl 45 (by decide) (hT _ tb_1419) (fun _ h9 => h9) rfl (by decide +kernel) rfl rfl dX12_comesOut_49 (fun hp713 eh714 H locs hw hS => ?_)
            have ok715 := wr_13045 bd710 (by decide) (by decide) ok417 kd900 eh714
            refine lv_aload_n hx hb dX12_comesOut_52 rfl (lv_at hl 1 rfl) ?_
            refine lv_iload_n hx hb dX12_comesOut_53 rfl (lv_at hl 0 rfl) ?_
            refine lv_bipush (v := 8) hx hb dX12_comesOut_54 (by decide) ?_
            have eq717 : hp713 qa900 38 = .int zi419 := Eq.trans (up_at eh714 (Or.inr (by decide))) eq418
            have eq718 : hp713 qa900 19 = .int zi5 := Eq.trans (up_at eh714 (Or.inr (by decide))) eq682
            have eq719 : hp713 qa900 12 = .int zi11 := Eq.trans (up_at eh714 (Or.inr (by decide))) eq683
            have jn730 : ∀ (zi728 : Int32) (H : Heap) (locs : List Loc) (ls : Array Slot), ((2 : Int) ≤ zi728.toInt ∧ zi728.toInt ≤ 5) → lv_has ls 3 [(0, .ref qa900), (1, .int zi901)] → PW G cy K ln Ls A hp713 H → va_S A s.heap H locs → W p l e ({ frames := 1, cells := 0, slots := 0, locals := 22 } : Room) s m ([.ref qa900, .int zi901] : List Value).toArray below meth c H locs 0 0 Q (F0 m 84 ls [.int zi728, .ref qa900]) := by
              intro zi728 H locs ls bd729 hl hw hS
              refine lv_iconst (v := 0) hx hb dX12_comesOut_84 (by decide) ?_
              refine kq_v hw hS hA (va_runV (As := [.int zi728, .int 0]) (rest := []) ⟨hx, hb, hml, hown, hT⟩ (cX12_emit_0 l G cy ev K ln Ls hW _ hp713 ok715 qa900 zi728 0 kd900 (b_wid2 bd729 (by decide) (by decide)) (by simp only [gi_of eq717]; omega)) (cwV 2 hT (good_V tb_1711 tb_1708 tb_1710 tb_73 tb_122) rfl rfl rfl (by decide +kernel) ⟨Nat.le_of_ble_eq_true rfl, Nat.le_of_ble_eq_true rfl⟩) (pool_preV (ci := 12) hK hE hS hA hw hW kd900 (by decide) rfl) rfl rfl hl.1 rfl (lv_room (Nat.le_of_ble_eq_true rfl)) dX12_comesOut_85 ⟨Nat.le_of_ble_eq_true rfl, Nat.le_of_ble_eq_true rfl⟩) (fun hp731 H locs hq734 hw hS => ?_)
              obtain ⟨ok732, F733, ⟨zi736, eq737, bd738⟩, xq739, rh740⟩ := hq734
              have hw : PW G cy K ln Ls A hp731 H := hw
              simp only [gi_of eq717, gi_of eq737] at rh740
              have ei741 : EIx hp731 qa900 gc0 1 := EI_pop ok417 kd900 jx426 eh714 (by rw [gi_of eq422]; omega) xq739 F733 (by rw [gi_of eq422]; omega) (by rw [gi_of eq422, show (zi423.toInt - 1).toNat = (zi696 : Int32).toNatClampNeg from by have := clampN (x := zi696) (by omega); omega, mA_of eq687 eq701]; omega) (by have := bd729; omega)
              have pd742 : LPx hp713 qa900 := LP_fr ok417 kd900 (Fr.put (cq := 13045) (Fr.rf) eh714 kd900 (cd_o (by decide)) (by decide)) (by decide) jx427
              have eq743 : hp713 qa900 38 = .int zi736 := eq737
              have lp744 : LPx hp731 qa900 := LP_emit ok715 kd900 pd742 xq739 F733 (by rw [gi_of eq743, gi_of eq718]; omega)
              refine lv_goto (tgt := 0) hx hb dX12_comesOut_88 (by decide) ?_
              have eq745 : hp731 qa900 45 = .int zi708 := Eq.trans (Fr.at (cq := 13045) F733 kd900 (cd_o (by decide)) (by decide)) (hp_self eh714)
              have eq746 : hp731 qa900 19 = .int zi5 := Eq.trans (Fr.at (cq := 13019) F733 kd900 (cd_o (by decide)) (by decide)) eq718
              have eq747 : hp731 qa900 12 = .int zi11 := Eq.trans (Fr.at (cq := 13012) F733 kd900 (cd_o (by decide)) (by decide)) eq719
              exact ih679 hp731 zi736 zi708 _ _ ls (by have := hm681; omega) ok732 (Fr.tr (Fr.put (cq := 13045) (Fr.tr (Fr.rf) F416 (by decide)) eh714 kd900 (cd_o (by decide)) (by decide)) F733 (by decide)) (b_wid2 bd738 (by decide) (by decide)) eq737 (b_wid2 bd710 (by decide) (by decide)) eq745 (by omega) (by omega) ei741 lp744 (lv_sub hl [0, 1] rfl) hw hS
            refine lv_icmp_ne (tgt := 63) hx hb dX12_comesOut_56 (by decide) (fun cn716 => ?_) (fun cn716 => ?_)
            · skip
              have tf748 : (zi702 : Int32).toInt ≠ (8 : Int32).toInt := fun e => cn716 (Int32.toInt_inj.mp e)
              have := toi bc_8
              refine lv_iload_n hx hb dX12_comesOut_63 rfl (lv_at hl 0 rfl) ?_
              refine lv_bipush (v := 9) hx hb dX12_comesOut_64 (by decide) ?_
              refine lv_icmp_ne (tgt := 73) hx hb dX12_comesOut_66 (by decide) (fun cn749 => ?_) (fun cn749 => ?_)
              · skip
                have tf750 : (zi702 : Int32).toInt ≠ (9 : Int32).toInt := fun e => cn749 (Int32.toInt_inj.mp e)
                have := toi bc_9
                refine lv_iload_n hx hb dX12_comesOut_73 rfl (lv_at hl 0 rfl) ?_
                refine lv_bipush (v := 10) hx hb dX12_comesOut_74 (by decide) ?_
                refine lv_icmp_ne (tgt := 83) hx hb dX12_comesOut_76 (by decide) (fun cn751 => ?_) (fun cn751 => ?_)
                · skip
                  have tf752 : (zi702 : Int32).toInt ≠ (10 : Int32).toInt := fun e => cn751 (Int32.toInt_inj.mp e)
                  have := toi bc_10
                  refine lv_iconst (v := 5) hx hb dX12_comesOut_83 (by decide) ?_
                  exact jn730 5 _ _ ls (b_wid2 bc_5 (by decide) (by decide)) (lv_sub hl [1, 2] rfl) hw hS
                · skip
                  have bd753 : (10 : Int) ≤ zi702.toInt ∧ zi702.toInt ≤ 10 := r_eq_x cn751 (b_all zi702) bc_10 (by decide) (by decide)
                  refine lv_iconst (v := 4) hx hb dX12_comesOut_79 (by decide) ?_
                  refine lv_goto (tgt := 84) hx hb dX12_comesOut_80 (by decide) ?_
                  exact jn730 4 _ _ ls (b_wid2 bc_4 (by decide) (by decide)) (lv_sub hl [1, 2] rfl) hw hS
              · skip
                have bd754 : (9 : Int) ≤ zi702.toInt ∧ zi702.toInt ≤ 9 := r_eq_x cn749 (b_all zi702) bc_9 (by decide) (by decide)
                refine lv_iconst (v := 3) hx hb dX12_comesOut_69 (by decide) ?_
                refine lv_goto (tgt := 84) hx hb dX12_comesOut_70 (by decide) ?_
                exact jn730 3 _ _ ls (b_wid2 bc_3 (by decide) (by decide)) (lv_sub hl [1, 2] rfl) hw hS
            · skip
              have bd755 : (8 : Int) ≤ zi702.toInt ∧ zi702.toInt ≤ 8 := r_eq_x cn716 (b_all zi702) bc_8 (by decide) (by decide)
              refine lv_iconst (v := 2) hx hb dX12_comesOut_59 (by decide) ?_
              refine lv_goto (tgt := 84) hx hb dX12_comesOut_60 (by decide) ?_
              exact jn730 2 _ _ ls (b_wid2 bc_2 (by decide) (by decide)) (lv_sub hl [1, 2] rfl) hw hS
          · skip
            have tf756 : (zi901 : Int32).toInt ≠ (0 : Int32).toInt := fun e => cn706 (Int32.toInt_inj.mp e)
            have := toi bc_0
            have bd757 : (1 : Int) ≤ zi901.toInt ∧ zi901.toInt ≤ 1 := r_ne_lo cn706 bd901 (toi bc_0) (by decide) (by decide)
            refine lv_iload_n hx hb dX12_comesOut_29 rfl (lv_at hl 0 rfl) ?_
            refine lv_bipush (v := 8) hx hb dX12_comesOut_30 (by decide) ?_
            refine lv_icmp_eq (tgt := 41) hx hb dX12_comesOut_32 (by decide) (fun cn758 => ?_) (fun cn758 => ?_)
            · skip
              have bd759 : (8 : Int) ≤ zi702.toInt ∧ zi702.toInt ≤ 8 := r_eq_x cn758 (b_all zi702) bc_8 (by decide) (by decide)
              rw [hQ]
              exact kz_v hx hb hr hlocks hS hp415 hw ⟨ok417, (Fr.tr (Fr.rf) F416 (by decide)), (jx426), (jx427), (Or.inr (Or.inr ⟨by omega, Or.inl (by rw [gi_of eq422, show (zi423.toInt - 1).toNat = (zi696 : Int32).toNatClampNeg from by have := clampN (x := zi696) (by omega); omega, mA_of eq687 eq701]; omega)⟩)), (by simp only [gi_of eq1, gi_of eq418, gi_of eq422, gi_of eq7]; omega), (by simp only [gi_of eq422, gi_of eq7]; omega)⟩ (Nat.le_of_ble_eq_true rfl) (Nat.le_of_ble_eq_true rfl) dX12_comesOut_41
            · skip
              have tf760 : (zi702 : Int32).toInt ≠ (8 : Int32).toInt := fun e => cn758 (Int32.toInt_inj.mp e)
              have := toi bc_8
              refine lv_iload_n hx hb dX12_comesOut_35 rfl (lv_at hl 0 rfl) ?_
              refine lv_bipush (v := 9) hx hb dX12_comesOut_36 (by decide) ?_
              refine lv_icmp_ne (tgt := 42) hx hb dX12_comesOut_38 (by decide) (fun cn761 => ?_) (fun cn761 => ?_)
              · skip
                have tf762 : (zi702 : Int32).toInt ≠ (9 : Int32).toInt := fun e => cn761 (Int32.toInt_inj.mp e)
                have := toi bc_9
                refine lv_aload_n hx hb dX12_comesOut_42 rfl (lv_at hl 1 rfl) ?_
                refine lv_dup hx hb dX12_comesOut_43 rfl ?_
                refine p_get (ci := 12) (v := .int zi423) (C := RX12) (T := TX12) (N := 69) hx hb hT iw_X12 hown hK hw hW kd900 (by decide) rfl rfl 45 (by decide) eq422 (hT _ tb_1419) (fun _ h9 => h9) dX12_comesOut_44 ?_
                refine lv_iconst (v := 1) hx hb dX12_comesOut_47 (by decide) ?_
                refine lv_isub hx hb dX12_comesOut_48 (lv_topi (fun zi763 ea764 => ?_))
                have bd765 : (0 : Int) ≤ zi763.toInt ∧ zi763.toInt ≤ 63 := b_isub ea764 bd686 bc_1 (by decide) (by decide) (by decide) (by decide)
                have qe766 : zi763.toInt = (zi423 : Int32).toInt - (1 : Int32).toInt := e_isub ea764 bd686 bc_1 (by decide) (by decide)
                have qe767 : zi763.toInt = zi423.toInt - 1 := by have ha : (1 : Int32).toInt = 1 := (by decide); rw [ha] at qe766; exact qe766
                refine p_put (ci := 12) (v := .int zi763) (ty := .int) (C := RX12) (T := TX12) (N := 69) hx hb hT iw_X12 tyX12 tyX12_ok nmX12 hown hK hw hS hW kd900 (by decide) rfl rfl 45 (by decide) (hT _ tb_1419) (fun _ h9 => h9) rfl (by decide +kernel) rfl rfl dX12_comesOut_49 (fun hp768 eh769 H locs hw hS => ?_)
                have ok770 := wr_13045 bd765 (by decide) (by decide) ok417 kd900 eh769
                refine lv_aload_n hx hb dX12_comesOut_52 rfl (lv_at hl 1 rfl) ?_
                refine lv_iload_n hx hb dX12_comesOut_53 rfl (lv_at hl 0 rfl) ?_
                refine lv_bipush (v := 8) hx hb dX12_comesOut_54 (by decide) ?_
                have eq772 : hp768 qa900 38 = .int zi419 := Eq.trans (up_at eh769 (Or.inr (by decide))) eq418
                have eq773 : hp768 qa900 19 = .int zi5 := Eq.trans (up_at eh769 (Or.inr (by decide))) eq682
                have eq774 : hp768 qa900 12 = .int zi11 := Eq.trans (up_at eh769 (Or.inr (by decide))) eq683
                have jn785 : ∀ (zi783 : Int32) (H : Heap) (locs : List Loc) (ls : Array Slot), ((2 : Int) ≤ zi783.toInt ∧ zi783.toInt ≤ 5) → lv_has ls 3 [(0, .ref qa900), (1, .int zi901)] → PW G cy K ln Ls A hp768 H → va_S A s.heap H locs → W p l e ({ frames := 1, cells := 0, slots := 0, locals := 22 } : Room) s m ([.ref qa900, .int zi901] : List Value).toArray below meth c H locs 0 0 Q (F0 m 84 ls [.int zi783, .ref qa900]) := by
                  intro zi783 H locs ls bd784 hl hw hS
                  refine lv_iconst (v := 0) hx hb dX12_comesOut_84 (by decide) ?_
                  refine kq_v hw hS hA (va_runV (As := [.int zi783, .int 0]) (rest := []) ⟨hx, hb, hml, hown, hT⟩ (cX12_emit_0 l G cy ev K ln Ls hW _ hp768 ok770 qa900 zi783 0 kd900 (b_wid2 bd784 (by decide) (by decide)) (by simp only [gi_of eq772]; omega)) (cwV 2 hT (good_V tb_1711 tb_1708 tb_1710 tb_73 tb_122) rfl rfl rfl (by decide +kernel) ⟨Nat.le_of_ble_eq_true rfl, Nat.le_of_ble_eq_true rfl⟩) (pool_preV (ci := 12) hK hE hS hA hw hW kd900 (by decide) rfl) rfl rfl hl.1 rfl (lv_room (Nat.le_of_ble_eq_true rfl)) dX12_comesOut_85 ⟨Nat.le_of_ble_eq_true rfl, Nat.le_of_ble_eq_true rfl⟩) (fun hp786 H locs hq789 hw hS => ?_)
                  obtain ⟨ok787, F788, ⟨zi791, eq792, bd793⟩, xq794, rh795⟩ := hq789
                  have hw : PW G cy K ln Ls A hp786 H := hw
                  simp only [gi_of eq772, gi_of eq792] at rh795
                  have ei796 : EIx hp786 qa900 gc0 1 := EI_pop ok417 kd900 jx426 eh769 (by rw [gi_of eq422]; omega) xq794 F788 (by rw [gi_of eq422]; omega) (by rw [gi_of eq422, show (zi423.toInt - 1).toNat = (zi696 : Int32).toNatClampNeg from by have := clampN (x := zi696) (by omega); omega, mA_of eq687 eq701]; omega) (by have := bd784; omega)
                  have pd797 : LPx hp768 qa900 := LP_fr ok417 kd900 (Fr.put (cq := 13045) (Fr.rf) eh769 kd900 (cd_o (by decide)) (by decide)) (by decide) jx427
                  have eq798 : hp768 qa900 38 = .int zi791 := eq792
                  have lp799 : LPx hp786 qa900 := LP_emit ok770 kd900 pd797 xq794 F788 (by rw [gi_of eq798, gi_of eq773]; omega)
                  refine lv_goto (tgt := 0) hx hb dX12_comesOut_88 (by decide) ?_
                  have eq800 : hp786 qa900 45 = .int zi763 := Eq.trans (Fr.at (cq := 13045) F788 kd900 (cd_o (by decide)) (by decide)) (hp_self eh769)
                  have eq801 : hp786 qa900 19 = .int zi5 := Eq.trans (Fr.at (cq := 13019) F788 kd900 (cd_o (by decide)) (by decide)) eq773
                  have eq802 : hp786 qa900 12 = .int zi11 := Eq.trans (Fr.at (cq := 13012) F788 kd900 (cd_o (by decide)) (by decide)) eq774
                  exact ih679 hp786 zi791 zi763 _ _ ls (by have := hm681; omega) ok787 (Fr.tr (Fr.put (cq := 13045) (Fr.tr (Fr.rf) F416 (by decide)) eh769 kd900 (cd_o (by decide)) (by decide)) F788 (by decide)) (b_wid2 bd793 (by decide) (by decide)) eq792 (b_wid2 bd765 (by decide) (by decide)) eq800 (by omega) (by omega) ei796 lp799 (lv_sub hl [0, 1] rfl) hw hS
                refine lv_icmp_ne (tgt := 63) hx hb dX12_comesOut_56 (by decide) (fun cn771 => ?_) (fun cn771 => ?_)
                · skip
                  have tf803 : (zi702 : Int32).toInt ≠ (8 : Int32).toInt := fun e => cn771 (Int32.toInt_inj.mp e)
                  have := toi bc_8
                  refine lv_iload_n hx hb dX12_comesOut_63 rfl (lv_at hl 0 rfl) ?_
                  refine lv_bipush (v := 9) hx hb dX12_comesOut_64 (by decide) ?_
                  refine lv_icmp_ne (tgt := 73) hx hb dX12_comesOut_66 (by decide) (fun cn804 => ?_) (fun cn804 => ?_)
                  · skip
                    have tf805 : (zi702 : Int32).toInt ≠ (9 : Int32).toInt := fun e => cn804 (Int32.toInt_inj.mp e)
                    have := toi bc_9
                    refine lv_iload_n hx hb dX12_comesOut_73 rfl (lv_at hl 0 rfl) ?_
                    refine lv_bipush (v := 10) hx hb dX12_comesOut_74 (by decide) ?_
                    refine lv_icmp_ne (tgt := 83) hx hb dX12_comesOut_76 (by decide) (fun cn806 => ?_) (fun cn806 => ?_)
                    · skip
                      have tf807 : (zi702 : Int32).toInt ≠ (10 : Int32).toInt := fun e => cn806 (Int32.toInt_inj.mp e)
                      have := toi bc_10
                      refine lv_iconst (v := 5) hx hb dX12_comesOut_83 (by decide) ?_
                      exact jn785 5 _ _ ls (b_wid2 bc_5 (by decide) (by decide)) (lv_sub hl [1, 2] rfl) hw hS
                    · skip
                      have bd808 : (10 : Int) ≤ zi702.toInt ∧ zi702.toInt ≤ 10 := r_eq_x cn806 (b_all zi702) bc_10 (by decide) (by decide)
                      refine lv_iconst (v := 4) hx hb dX12_comesOut_79 (by decide) ?_
                      refine lv_goto (tgt := 84) hx hb dX12_comesOut_80 (by decide) ?_
                      exact jn785 4 _ _ ls (b_wid2 bc_4 (by decide) (by decide)) (lv_sub hl [1, 2] rfl) hw hS
                  · skip
                    have bd809 : (9 : Int) ≤ zi702.toInt ∧ zi702.toInt ≤ 9 := r_eq_x cn804 (b_all zi702) bc_9 (by decide) (by decide)
                    refine lv_iconst (v := 3) hx hb dX12_comesOut_69 (by decide) ?_
                    refine lv_goto (tgt := 84) hx hb dX12_comesOut_70 (by decide) ?_
                    exact jn785 3 _ _ ls (b_wid2 bc_3 (by decide) (by decide)) (lv_sub hl [1, 2] rfl) hw hS
                · skip
                  have bd810 : (8 : Int) ≤ zi702.toInt ∧ zi702.toInt ≤ 8 := r_eq_x cn771 (b_all zi702) bc_8 (by decide) (by decide)
                  refine lv_iconst (v := 2) hx hb dX12_comesOut_59 (by decide) ?_
                  refine lv_goto (tgt := 84) hx hb dX12_comesOut_60 (by decide) ?_
                  exact jn785 2 _ _ ls (b_wid2 bc_2 (by decide) (by decide)) (lv_sub hl [1, 2] rfl) hw hS
              · skip
                have bd811 : (9 : Int) ≤ zi702.toInt ∧ zi702.toInt ≤ 9 := r_eq_x cn761 (b_all zi702) bc_9 (by decide) (by decide)
                rw [hQ]
                exact kz_v hx hb hr hlocks hS hp415 hw ⟨ok417, (Fr.tr (Fr.rf) F416 (by decide)), (jx426), (jx427), (Or.inr (Or.inr ⟨by omega, Or.inr (by rw [gi_of eq422, show (zi423.toInt - 1).toNat = (zi696 : Int32).toNatClampNeg from by have := clampN (x := zi696) (by omega); omega, mA_of eq687 eq701]; omega)⟩)), (by simp only [gi_of eq1, gi_of eq418, gi_of eq422, gi_of eq7]; omega), (by simp only [gi_of eq422, gi_of eq7]; omega)⟩ (Nat.le_of_ble_eq_true rfl) (Nat.le_of_ble_eq_true rfl) dX12_comesOut_41
  exact lp680 _ hp0 zi2 zi8 _ _ ls (lp_in _) ok0 (Fr.rf) (b_wid2 bd3 (by decide) (by decide)) eq1 (b_wid2 bd9 (by decide) (by decide)) eq7 (by omega) (by omega) pdEI1 pdLPx (lv_sub hl [0, 1] rfl) hw hS

set_option maxRecDepth 100000 in
set_option maxHeartbeats 4000000 in
theorem cX12_expression_0 (l : Launch) (G : va_G) (cy : Nat → ClassId) (ev : Ew) (K ln : Nat → Nat) (Ls : List Nat) (hW : SW K ln Ls) (sz : Nat) (hp0 : Nat → Nat → Value) (ok0 : Ok K hp0) (qa900 : Nat) (kd900 : K qa900 = 13) (rp0 : (gi hp0 qa900 12) = 0) (rp1 : (gi hp0 qa900 38) ≤ 420*(gi hp0 qa900 19) + (gi hp0 qa900 11) + (gi hp0 qa900 13)) (pdLPx : LPx hp0 qa900) : Met l yX12_expression (WS yX12_expression cX12_expression 3 none) { frames := 3, cells := 0, slots := 0, locals := 61 } (PB2 [.ref qa900] sz G cy ev (va_pl Ls (cellOf cy K ln hp0))) (QBv (S := (Nat → Nat → Value)) (fun u : (Nat → Nat → Value) => Ok K u ∧ Fr [13011, 13012, 13013, 13014, 13038, 13045, 84000, 85000, 89000] K hp0 u ∧ (LPx u qa900) ∧ (gi u qa900 13 = 0 → gi hp0 qa900 38 < gi u qa900 38 ∧ CF (mA u qa900 39) (mA u qa900 40) (gi hp0 qa900 38).toNat (gi u qa900 38 - gi hp0 qa900 38).toNat) ∧ (4*(gi u qa900 11) + (gi u qa900 13) ≥ 4*(gi hp0 qa900 11) + (gi hp0 qa900 13)) ∧ ((gi u qa900 13) ≥ (gi hp0 qa900 13)) ∧ ((gi u qa900 12) ≤ 7*(gi u qa900 13)) ∧ ((gi u qa900 38) ≤ 420*(gi u qa900 19) + (gi u qa900 11) + (gi u qa900 13))) G (fun u => va_pl Ls (cellOf cy K ln u)) (va_A (va_pl Ls (cellOf cy K ln hp0)) sz)) 0 0 (va_A (va_pl Ls (cellOf cy K ln hp0)) sz) := by
  refine met_of2 (y := yX12_expression) (L := 3) (av := [.ref qa900]) (Qc := fun A => QBv (S := (Nat → Nat → Value)) (fun u : (Nat → Nat → Value) => Ok K u ∧ Fr [13011, 13012, 13013, 13014, 13038, 13045, 84000, 85000, 89000] K hp0 u ∧ (LPx u qa900) ∧ (gi u qa900 13 = 0 → gi hp0 qa900 38 < gi u qa900 38 ∧ CF (mA u qa900 39) (mA u qa900 40) (gi hp0 qa900 38).toNat (gi u qa900 38 - gi hp0 qa900 38).toNat) ∧ (4*(gi u qa900 11) + (gi u qa900 13) ≥ 4*(gi hp0 qa900 11) + (gi hp0 qa900 13)) ∧ ((gi u qa900 13) ≥ (gi hp0 qa900 13)) ∧ ((gi u qa900 12) ≤ 7*(gi u qa900 13)) ∧ ((gi u qa900 38) ≤ 420*(gi u qa900 19) + (gi u qa900 11) + (gi u qa900 13))) G (fun u => va_pl Ls (cellOf cy K ln u)) A) (plainFor_of_name (by decide)) (Nat.le_of_ble_eq_true rfl) ?_
  intro p e s m below meth c hsz hx hb hr hml hown hT hlocks hin hK A hA hE hw hS ls hl
  have hw : PW G cy K ln Ls A hp0 s.heap := hw
  have hown : s.vm.findClass "LieClockModel" = some m.cls := hown
  have hl : lv_has ls 3 [(0, .ref qa900)] := hl
  obtain ⟨Q, hQ⟩ : ∃ Q : State → Prop, Q = MQ below (QBv (S := (Nat → Nat → Value)) (fun u : (Nat → Nat → Value) => Ok K u ∧ Fr [13011, 13012, 13013, 13014, 13038, 13045, 84000, 85000, 89000] K hp0 u ∧ (LPx u qa900) ∧ (gi u qa900 13 = 0 → gi hp0 qa900 38 < gi u qa900 38 ∧ CF (mA u qa900 39) (mA u qa900 40) (gi hp0 qa900 38).toNat (gi u qa900 38 - gi hp0 qa900 38).toNat) ∧ (4*(gi u qa900 11) + (gi u qa900 13) ≥ 4*(gi hp0 qa900 11) + (gi hp0 qa900 13)) ∧ ((gi u qa900 13) ≥ (gi hp0 qa900 13)) ∧ ((gi u qa900 12) ≤ 7*(gi u qa900 13)) ∧ ((gi u qa900 38) ≤ 420*(gi u qa900 19) + (gi u qa900 11) + (gi u qa900 13))) G (fun u => va_pl Ls (cellOf cy K ln u)) A) ([.ref qa900] : List Value).toArray s 0 0 A := ⟨_, rfl⟩
  rw [← hQ]
  obtain ⟨zi2, eq1, bd3⟩ := rd_13038 ok0 kd900
  obtain ⟨zi5, eq4, bd6⟩ := rd_13013 ok0 kd900
  obtain ⟨zi8, eq7, bd9⟩ := rd_13012 ok0 kd900
  obtain ⟨zi11, eq10, bd12⟩ := rd_13019 ok0 kd900
  obtain ⟨zi14, eq13, bd15⟩ := rd_13011 ok0 kd900
  have rq0 := rp0
  simp only [gi_of eq7] at rq0
  have rq1 := rp1
  simp only [gi_of eq1, gi_of eq4, gi_of eq10, gi_of eq13] at rq1
  obtain ⟨gc0, hgc0⟩ : ∃ x : Int, x = gi hp0 qa900 38 := ⟨_, rfl⟩
  obtain ⟨zi17, eq16, bd18⟩ := rd_13045 ok0 kd900
  have bd19 : (0 : Int) ≤ zi8.toInt ∧ zi8.toInt ≤ 0 := (by omega)
  refine lv_aload_n hx hb dX12_expression_0 rfl (lv_at hl 0 rfl) ?_
  refine lv_iconst (v := 0) hx hb dX12_expression_1 (by decide) ?_
  refine p_put (ci := 12) (v := .int 0) (ty := .int) (C := RX12) (T := TX12) (N := 69) hx hb hT iw_X12 tyX12 tyX12_ok nmX12 hown hK hw hS hW kd900 (by decide) rfl rfl 45 (by decide) (hT _ tb_1419) (fun _ h9 => h9) rfl (by decide +kernel) rfl rfl dX12_expression_2 (fun hp20 eh21 H locs hw hS => ?_)
  have ok22 := wr_13045 bc_0 (by decide) (by decide) ok0 kd900 eh21
  have eq24 : hp20 qa900 12 = .int zi8 := Eq.trans (up_at eh21 (Or.inr (by decide))) eq7
  have eq25 : hp20 qa900 38 = .int zi2 := Eq.trans (up_at eh21 (Or.inr (by decide))) eq1
  have ei23 : EIx hp20 qa900 gc0 0 := by rw [hgc0, gi_of eq1, ← gi_of eq25]; exact EI_zero (by rw [gi_of (hp_self eh21)]; decide) (by rw [gi_of eq24]; omega) (by rw [gi_of eq25]; omega)
  refine lv_aload_n hx hb dX12_expression_5 rfl (lv_at hl 0 rfl) ?_
  refine p_get (ci := 12) (v := .int zi8) (C := RX12) (T := TX12) (N := 69) hx hb hT iw_X12 hown hK hw hW kd900 (by decide) rfl rfl 12 (by decide) eq24 (hT _ tb_1386) (fun _ h9 => h9) dX12_expression_6 ?_
  refine lv_istore_n (lv' := [(1, .int zi8), (0, .ref qa900)]) hx hb dX12_expression_9 rfl hl (by decide) rfl (fun ls hl => ?_)
  refine lv_iconst (v := 1) hx hb dX12_expression_10 (by decide) ?_
  refine lv_istore_n (lv' := [(2, .int 1), (1, .int zi8), (0, .ref qa900)]) hx hb dX12_expression_11 rfl hl (by decide) rfl (fun ls hl => ?_)
  have eq26 : hp20 qa900 11 = .int zi14 := Eq.trans (up_at eh21 (Or.inr (by decide))) eq13
  have eq27 : hp20 qa900 13 = .int zi5 := Eq.trans (up_at eh21 (Or.inr (by decide))) eq4
  have eq28 : hp20 qa900 19 = .int zi11 := Eq.trans (up_at eh21 (Or.inr (by decide))) eq10
  have eq14029 : hp8553 qa900 19 = .int zi11 := Eq.trans (Fr.at (cq := 13019) F8554 kd900 (cd_o (by decide)) (by decide)) eq28
  have lp14027 : ∀ (n14025 : Nat) (hp8553 : Nat → Nat → Value) (zi8557 : Int32) (zi8559 : Int32) (zi8561 : Int32) (zi8563 : Int32) (zi8565 : Int32) (H : Heap) (locs : List Loc) (ls : Array Slot), 1602 - 4*zi8557.toInt - zi8559.toInt < (n14025 : Int) → Ok K hp8553 → Fr [13011, 13012, 13013, 13014, 13038, 13045, 84000, 85000, 89000] K hp20 hp8553 → ((0 : Int) ≤ zi8557.toInt ∧ zi8557.toInt ≤ 400) → hp8553 qa900 11 = .int zi8557 → ((0 : Int) ≤ zi8559.toInt ∧ zi8559.toInt ≤ 2) → hp8553 qa900 13 = .int zi8559 → ((0 : Int) ≤ zi8561.toInt ∧ zi8561.toInt ≤ 7) → hp8553 qa900 12 = .int zi8561 → ((0 : Int) ≤ zi8563.toInt ∧ zi8563.toInt ≤ 840) → hp8553 qa900 38 = .int zi8563 → ((0 : Int) ≤ zi8565.toInt ∧ zi8565.toInt ≤ 24) → hp8553 qa900 45 = .int zi8565 → (4*zi8557.toInt + zi8559.toInt ≥ 4*zi14.toInt + zi5.toInt) → (zi8559.toInt ≥ zi5.toInt) → (zi8561.toInt ≤ 6 + zi8559.toInt) → (zi8563.toInt + zi8565.toInt ≤ 420*zi11.toInt + zi8557.toInt + zi8559.toInt) → (EIx hp8553 qa900 gc0 0) → (LPx hp8553 qa900) → lv_has ls 3 [(0, .ref qa900), (1, .int zi8), (2, .int 1)] → PW G cy K ln Ls A hp8553 H → va_S A s.heap H locs → W p l e ({ frames := 3, cells := 0, slots := 0, locals := 61 } : Room) s m ([.ref qa900] : List Value).toArray below meth c H locs 0 0 Q (F0 m 12 ls []) := by
    intro n14025
    induction n14025 with
    | zero =>
      intro hp8553 zi8557 zi8559 zi8561 zi8563 zi8565 H locs ls hm14028 ok8555 F8554 bd8572 eq8556 bd8573 eq8558 bd8574 eq8560 bd8575 eq8562 bd8576 eq8564 rq8566 rq8567 rq8568 rq8569 jx8570 jx8571 hl hw hS
      exact absurd hm14028 (by omega)
    | succ n14025 ih14026 =>
      intro hp8553 zi8557 zi8559 zi8561 zi8563 zi8565 H locs ls hm14028 ok8555 F8554 bd8572 eq8556 bd8573 eq8558 bd8574 eq8560 bd8575 eq8562 bd8576 eq8564 rq8566 rq8567 rq8568 rq8569 jx8570 jx8571 hl hw hS
      refine lv_iload_n hx hb dX12_expression_12 rfl (lv_at hl 2 rfl) ?_
      refine lv_if_eq (tgt := 272) hx hb dX12_expression_13 (by decide) (fun c => absurd c (d_ne bc_1 bc_0 (by decide))) (fun _ => ?_)
      refine lv_aload_n hx hb dX12_expression_16 rfl (lv_at hl 0 rfl) ?_
      refine p_get (ci := 12) (v := .int zi8559) (C := RX12) (T := TX12) (N := 69) hx hb hT iw_X12 hown hK hw hW kd900 (by decide) rfl rfl 13 (by decide) eq8558 (hT _ tb_1387) (fun _ h9 => h9) dX12_expression_17 ?_
      refine lv_if_ne (tgt := 272) hx hb dX12_expression_20 (by decide) (fun cn14030 => ?_) (fun cn14030 => ?_)
      · skip
        have tf14031 : (zi8559 : Int32).toInt ≠ (0 : Int32).toInt := fun e => cn14030 (Int32.toInt_inj.mp e)
        have := toi bc_0
        have bd14032 : (1 : Int) ≤ zi8559.toInt ∧ zi8559.toInt ≤ 2 := r_ne_lo cn14030 bd8573 (toi bc_0) (by decide) (by decide)
        rw [hQ]
        exact kz_v hx hb hr hlocks hS hp8553 hw ⟨ok8555, (Fr.tr (Fr.put (cq := 13045) (Fr.rf) eh21 kd900 (cd_o (by decide)) (by decide)) F8554 (by decide)), (jx8571), (fun h => absurd h (by rw [gi_of eq8558]; omega)), (by simp only [gi_of eq13, gi_of eq4, gi_of eq8556, gi_of eq8558]; omega), (by simp only [gi_of eq4, gi_of eq8558]; omega), (by simp only [gi_of eq8558, gi_of eq8560]; omega), (by simp only [gi_of eq14029, gi_of eq8556, gi_of eq8558, gi_of eq8562]; omega)⟩ (Nat.le_of_ble_eq_true rfl) (Nat.le_of_ble_eq_true rfl) dX12_expression_272
      · skip
        have bd14033 : (0 : Int) ≤ zi8559.toInt ∧ zi8559.toInt ≤ 0 := r_eq_x cn14030 bd8573 bc_0 (by decide) (by decide)
        have eq14813 : hp14504 qa900 38 = .int zi8563 := Eq.trans (Fr.at (cq := 13038) F14505 kd900 (cd_o (by decide)) (by decide)) eq8562
        have eq14814 : hp14504 qa900 19 = .int zi11 := Eq.trans (Fr.at (cq := 13019) F14505 kd900 (cd_o (by decide)) (by decide)) eq14029
        have lp14811 : ∀ (n14809 : Nat) (hp14504 : Nat → Nat → Value) (zi14510 : Int32) (zi14514 : Int32) (zi14516 : Int32) (zi14518 : Int32) (H : Heap) (locs : List Loc) (ls : Array Slot), 1602 - 4*zi14510.toInt - zi14514.toInt < (n14809 : Int) → Ok K hp14504 → Fr [13011, 13012, 13013, 13014, 13045, 89000] K hp8553 hp14504 → ((0 : Int) ≤ zi14510.toInt ∧ zi14510.toInt ≤ 400) → hp14504 qa900 11 = .int zi14510 → ((0 : Int) ≤ zi14514.toInt ∧ zi14514.toInt ≤ 2) → hp14504 qa900 13 = .int zi14514 → ((0 : Int) ≤ zi14516.toInt ∧ zi14516.toInt ≤ 7) → hp14504 qa900 12 = .int zi14516 → ((0 : Int) ≤ zi14518.toInt ∧ zi14518.toInt ≤ 24) → hp14504 qa900 45 = .int zi14518 → (4*zi14510.toInt + zi14514.toInt ≥ 4*zi8557.toInt + zi8559.toInt) → (zi14514.toInt ≥ zi8559.toInt) → (zi14516.toInt ≤ 6 + zi14514.toInt) → (zi8563.toInt + zi14518.toInt ≤ 420*zi11.toInt + zi14510.toInt + zi14514.toInt) → (EIx hp14504 qa900 gc0 0) → (LPx hp14504 qa900) → lv_has ls 3 [(0, .ref qa900), (1, .int zi8)] → PW G cy K ln Ls A hp14504 H → va_S A s.heap H locs → W p l e ({ frames := 3, cells := 0, slots := 0, locals := 61 } : Room) s m ([.ref qa900] : List Value).toArray below meth c H locs 0 0 Q (F0 m 23 ls []) := by
          intro n14809
          induction n14809 with
          | zero =>
            intro hp14504 zi14510 zi14514 zi14516 zi14518 H locs ls hm14812 ok14506 F14505 bd14525 eq14509 bd14526 eq14513 bd14527 eq14515 bd14528 eq14517 rq14519 rq14520 rq14521 rq14522 jx14523 jx14524 hl hw hS
            exact absurd hm14812 (by omega)
          | succ n14809 ih14810 =>
            intro hp14504 zi14510 zi14514 zi14516 zi14518 H locs ls hm14812 ok14506 F14505 bd14525 eq14509 bd14526 eq14513 bd14527 eq14515 bd14528 eq14517 rq14519 rq14520 rq14521 rq14522 jx14523 jx14524 hl hw hS
            refine lv_aload_n hx hb dX12_expression_23 rfl (lv_at hl 0 rfl) ?_
            refine lv_bipush (v := 6) hx hb dX12_expression_24 (by decide) ?_
            obtain ⟨qa14816, eq14815, kd14817⟩ := rd_13005 ok14506 kd900
            obtain ⟨zi14819, eq14818⟩ := rd_62000 ok14506 kd14817 ((zi14510 : Int32).toNatClampNeg)
            refine kq_i hw hS hA (va_runV (As := [.int 6]) (rest := []) ⟨hx, hb, hml, hown, hT⟩ (cX12_is_0 l G cy ev K ln Ls hW _ hp14504 ok14506 qa900 6 kd900) (cwV 1 hT (good_V tb_1623 tb_1620 tb_1622 tb_52 tb_122) rfl rfl rfl (by decide +kernel) ⟨Nat.le_of_ble_eq_true rfl, Nat.le_of_ble_eq_true rfl⟩) (pool_preV (ci := 12) hK hE hS hA hw hW kd900 (by decide) rfl) rfl rfl hl.1 rfl (lv_room (Nat.le_of_ble_eq_true rfl)) dX12_expression_26 ⟨Nat.le_of_ble_eq_true rfl, Nat.le_of_ble_eq_true rfl⟩) (fun zi14824 hp14820 H locs hq14823 hw hS => ?_)
            obtain ⟨ok14821, F14822, bd14825, hc14826, rh14827, rh14828, rh14829⟩ := hq14823
            obtain rfl : hp14504 = hp14820 := (Fr.nil F14822).symm
            have hw : PW G cy K ln Ls A hp14504 H := hw
            rcases b01 bd14825 with cn14830 | cn14830
            · skip
              subst cn14830
              have rh14831 := rh14829 rfl
              simp only [ge_of eq14815 eq14509 eq14818, gi_of eq14513, toi bc_6] at rh14831
              refine lv_if_eq (tgt := 84) hx hb dX12_expression_29 (by decide) (fun _ => ?_) (fun c => absurd (d_eq bc_0 bc_0) c)
              have el14832 := EI_lin jx14523
              rw [gi_of eq14517, gi_of eq14515, gi_of eq14813] at el14832
              refine lv_aload_n hx hb dX12_expression_84 rfl (lv_at hl 0 rfl) ?_
              refine kq_v hw hS hA (va_runV (As := []) (rest := []) ⟨hx, hb, hml, hown, hT⟩ (cX12_unit_0 l G cy ev K ln Ls hW _ hp14504 ok14506 qa900 gc0 kd900 (by simp only [gi_of eq14813, gi_of eq14513, gi_of eq14814, gi_of eq14509, gi_of eq14517]; omega) jx14523 jx14524) (cwV 0 hT (good_V tb_1707 tb_1704 tb_1706 tb_72 tb_122) rfl rfl rfl (by decide +kernel) ⟨Nat.le_of_ble_eq_true rfl, Nat.le_of_ble_eq_true rfl⟩) (pool_preV (ci := 12) hK hE hS hA hw hW kd900 (by decide) rfl) rfl rfl hl.1 rfl (lv_room (Nat.le_of_ble_eq_true rfl)) dX12_expression_85 ⟨Nat.le_of_ble_eq_true rfl, Nat.le_of_ble_eq_true rfl⟩) (fun hp14833 H locs hq14836 hw hS => ?_)
              obtain ⟨ok14834, F14835, xq14838, xq14839, rh14840, rh14841, rh14842, rh14843⟩ := hq14836
              have hw : PW G cy K ln Ls A hp14833 H := hw
              obtain ⟨zi14845, eq14844, bd14846⟩ := rd_13013 ok14834 kd900
              obtain ⟨zi14848, eq14847, bd14849⟩ := rd_13011 ok14834 kd900
              simp only [gi_of eq14509, gi_of eq14513, gi_of eq14844, gi_of eq14847] at rh14840
              simp only [gi_of eq14513, gi_of eq14844] at rh14841
              simp only [gi_of eq14509, gi_of eq14844, gi_of eq14847] at rh14842
              obtain ⟨zi14851, eq14850, bd14852⟩ := rd_13038 ok14834 kd900
              have eq14853 : hp14833 qa900 19 = .int zi11 := Eq.trans (Fr.at (cq := 13019) F14835 kd900 (cd_o (by decide)) (by decide)) eq14814
              have eq14854 : hp14833 qa900 45 = .int zi14518 := Eq.trans (Fr.at (cq := 13045) F14835 kd900 (cd_o (by decide)) (by decide)) eq14517
              simp only [gi_of eq14844, gi_of eq14847, gi_of eq14850, gi_of eq14853, gi_of eq14854] at rh14843
              refine lv_aload_n hx hb dX12_expression_88 rfl (lv_at hl 0 rfl) ?_
              refine p_get (ci := 12) (v := .int zi14845) (C := RX12) (T := TX12) (N := 69) hx hb hT iw_X12 hown hK hw hW kd900 (by decide) rfl rfl 13 (by decide) eq14844 (hT _ tb_1387) (fun _ h9 => h9) dX12_expression_89 ?_
              have eq14856 : hp14833 qa900 12 = .int zi14516 := Eq.trans (Fr.at (cq := 13012) F14835 kd900 (cd_o (by decide)) (by decide)) eq14515
              refine lv_if_le (tgt := 96) hx hb dX12_expression_92 (by decide) (fun cn14855 => ?_) (fun cn14855 => ?_)
              · skip
                have bd14857 : (0 : Int) ≤ zi14845.toInt ∧ zi14845.toInt ≤ 0 := r_le_x cn14855 bd14846 bc_0 (by decide) (by decide)
                have jn15450 : ∀ (hp15426 : Nat → Nat → Value) (zi15430 : Int32) (zi15432 : Int32) (zi15434 : Int32) (zi15436 : Int32) (zi15438 : Int32) (H : Heap) (locs : List Loc) (ls : Array Slot), Ok K hp15426 → Fr [13011, 13012, 13013, 13014, 13038, 13045, 84000, 85000] K hp14833 hp15426 → ((0 : Int) ≤ zi15430.toInt ∧ zi15430.toInt ≤ 400) → hp15426 qa900 11 = .int zi15430 → ((0 : Int) ≤ zi15432.toInt ∧ zi15432.toInt ≤ 2) → hp15426 qa900 13 = .int zi15432 → ((0 : Int) ≤ zi15434.toInt ∧ zi15434.toInt ≤ 7) → hp15426 qa900 12 = .int zi15434 → ((0 : Int) ≤ zi15436.toInt ∧ zi15436.toInt ≤ 840) → hp15426 qa900 38 = .int zi15436 → ((0 : Int) ≤ zi15438.toInt ∧ zi15438.toInt ≤ 24) → hp15426 qa900 45 = .int zi15438 → (4*zi15430.toInt + zi15432.toInt ≥ 4*zi14848.toInt + zi14845.toInt) → (zi15432.toInt ≥ zi14845.toInt) → (zi15434.toInt ≤ 6 + zi15432.toInt) → (zi15436.toInt + zi15438.toInt ≤ 420*zi11.toInt + zi15430.toInt + zi15432.toInt) → (EIx hp15426 qa900 gc0 1) → (LPx hp15426 qa900) → lv_has ls 3 [(0, .ref qa900), (1, .int zi8)] → PW G cy K ln Ls A hp15426 H → va_S A s.heap H locs → W p l e ({ frames := 3, cells := 0, slots := 0, locals := 61 } : Room) s m ([.ref qa900] : List Value).toArray below meth c H locs 0 0 Q (F0 m 145 ls []) := by
                  intro hp15426 zi15430 zi15432 zi15434 zi15436 zi15438 H locs ls ok15428 F15427 bd15445 eq15429 bd15446 eq15431 bd15447 eq15433 bd15448 eq15435 bd15449 eq15437 rq15439 rq15440 rq15441 rq15442 jx15443 jx15444 hl hw hS
                  have el15451 := EI_lin jx15443
                  rw [gi_of eq15437, gi_of eq15433, gi_of eq15435] at el15451
                  have bd15452 : (0 : Int) ≤ zi15438.toInt ∧ zi15438.toInt ≤ 23 := (by omega)
                  refine lv_aload_n hx hb dX12_expression_145 rfl (lv_at hl 0 rfl) ?_
                  refine lv_bipush (v := 8) hx hb dX12_expression_146 (by decide) ?_
                  have eq15453 : hp15426 qa900 5 = .ref qa14816 := Eq.trans (Fr.at (cq := 13005) F15427 kd900 (cd_o (by decide)) (by decide)) (Eq.trans (Fr.at (cq := 13005) F14835 kd900 (cd_o (by decide)) (by decide)) eq14815)
                  obtain ⟨zi15455, eq15454⟩ := rd_62000 ok15428 kd14817 ((zi15430 : Int32).toNatClampNeg)
                  refine kq_i hw hS hA (va_runV (As := [.int 8]) (rest := []) ⟨hx, hb, hml, hown, hT⟩ (cX12_is_0 l G cy ev K ln Ls hW _ hp15426 ok15428 qa900 8 kd900) (cwV 1 hT (good_V tb_1623 tb_1620 tb_1622 tb_52 tb_122) rfl rfl rfl (by decide +kernel) ⟨Nat.le_of_ble_eq_true rfl, Nat.le_of_ble_eq_true rfl⟩) (pool_preV (ci := 12) hK hE hS hA hw hW kd900 (by decide) rfl) rfl rfl hl.1 rfl (lv_room (Nat.le_of_ble_eq_true rfl)) dX12_expression_148 ⟨Nat.le_of_ble_eq_true rfl, Nat.le_of_ble_eq_true rfl⟩) (fun zi15460 hp15456 H locs hq15459 hw hS => ?_)
                  obtain ⟨ok15457, F15458, bd15461, hc15462, rh15463, rh15464, rh15465⟩ := hq15459
                  obtain rfl : hp15426 = hp15456 := (Fr.nil F15458).symm
                  have hw : PW G cy K ln Ls A hp15426 H := hw
                  have eq15467 : hp15426 qa900 19 = .int zi11 := Eq.trans (Fr.at (cq := 13019) F15427 kd900 (cd_o (by decide)) (by decide)) eq14853
                  rcases b01 bd15461 with cn15466 | cn15466
                  · skip
                    subst cn15466
                    have rh15468 := rh15465 rfl
                    simp only [ge_of eq15453 eq15429 eq15454, gi_of eq15431, toi bc_8] at rh15468
                    refine lv_if_ne (tgt := 181) hx hb dX12_expression_151 (by decide) (fun c => absurd (d_eq bc_0 bc_0) c) (fun _ => ?_)
                    refine lv_aload_n hx hb dX12_expression_154 rfl (lv_at hl 0 rfl) ?_
                    refine lv_bipush (v := 9) hx hb dX12_expression_155 (by decide) ?_
                    refine kq_i hw hS hA (va_runV (As := [.int 9]) (rest := []) ⟨hx, hb, hml, hown, hT⟩ (cX12_is_0 l G cy ev K ln Ls hW _ hp15426 ok15428 qa900 9 kd900) (cwV 1 hT (good_V tb_1623 tb_1620 tb_1622 tb_52 tb_122) rfl rfl rfl (by decide +kernel) ⟨Nat.le_of_ble_eq_true rfl, Nat.le_of_ble_eq_true rfl⟩) (pool_preV (ci := 12) hK hE hS hA hw hW kd900 (by decide) rfl) rfl rfl hl.1 rfl (lv_room (Nat.le_of_ble_eq_true rfl)) dX12_expression_157 ⟨Nat.le_of_ble_eq_true rfl, Nat.le_of_ble_eq_true rfl⟩) (fun zi15473 hp15469 H locs hq15472 hw hS => ?_)
                    obtain ⟨ok15470, F15471, bd15474, hc15475, rh15476, rh15477, rh15478⟩ := hq15472
                    obtain rfl : hp15426 = hp15469 := (Fr.nil F15471).symm
                    have hw : PW G cy K ln Ls A hp15426 H := hw
                    rcases b01 bd15474 with cn15479 | cn15479
                    · skip
                      subst cn15479
                      have rh15480 := rh15478 rfl
                      simp only [ge_of eq15453 eq15429 eq15454, gi_of eq15431, toi bc_9] at rh15480
                      refine lv_if_ne (tgt := 181) hx hb dX12_expression_160 (by decide) (fun c => absurd (d_eq bc_0 bc_0) c) (fun _ => ?_)
                      refine lv_aload_n hx hb dX12_expression_163 rfl (lv_at hl 0 rfl) ?_
                      refine lv_bipush (v := 10) hx hb dX12_expression_164 (by decide) ?_
                      refine kq_i hw hS hA (va_runV (As := [.int 10]) (rest := []) ⟨hx, hb, hml, hown, hT⟩ (cX12_is_0 l G cy ev K ln Ls hW _ hp15426 ok15428 qa900 10 kd900) (cwV 1 hT (good_V tb_1623 tb_1620 tb_1622 tb_52 tb_122) rfl rfl rfl (by decide +kernel) ⟨Nat.le_of_ble_eq_true rfl, Nat.le_of_ble_eq_true rfl⟩) (pool_preV (ci := 12) hK hE hS hA hw hW kd900 (by decide) rfl) rfl rfl hl.1 rfl (lv_room (Nat.le_of_ble_eq_true rfl)) dX12_expression_166 ⟨Nat.le_of_ble_eq_true rfl, Nat.le_of_ble_eq_true rfl⟩) (fun zi15485 hp15481 H locs hq15484 hw hS => ?_)
                      obtain ⟨ok15482, F15483, bd15486, hc15487, rh15488, rh15489, rh15490⟩ := hq15484
                      obtain rfl : hp15426 = hp15481 := (Fr.nil F15483).symm
                      have hw : PW G cy K ln Ls A hp15426 H := hw
                      rcases b01 bd15486 with cn15491 | cn15491
                      · skip
                        subst cn15491
                        have rh15492 := rh15490 rfl
                        simp only [ge_of eq15453 eq15429 eq15454, gi_of eq15431, toi bc_10] at rh15492
                        refine lv_if_ne (tgt := 181) hx hb dX12_expression_169 (by decide) (fun c => absurd (d_eq bc_0 bc_0) c) (fun _ => ?_)
                        refine lv_aload_n hx hb dX12_expression_172 rfl (lv_at hl 0 rfl) ?_
                        refine lv_bipush (v := 15) hx hb dX12_expression_173 (by decide) ?_
                        refine kq_i hw hS hA (va_runV (As := [.int 15]) (rest := []) ⟨hx, hb, hml, hown, hT⟩ (cX12_is_0 l G cy ev K ln Ls hW _ hp15426 ok15428 qa900 15 kd900) (cwV 1 hT (good_V tb_1623 tb_1620 tb_1622 tb_52 tb_122) rfl rfl rfl (by decide +kernel) ⟨Nat.le_of_ble_eq_true rfl, Nat.le_of_ble_eq_true rfl⟩) (pool_preV (ci := 12) hK hE hS hA hw hW kd900 (by decide) rfl) rfl rfl hl.1 rfl (lv_room (Nat.le_of_ble_eq_true rfl)) dX12_expression_175 ⟨Nat.le_of_ble_eq_true rfl, Nat.le_of_ble_eq_true rfl⟩) (fun zi15497 hp15493 H locs hq15496 hw hS => ?_)
                        obtain ⟨ok15494, F15495, bd15498, hc15499, rh15500, rh15501, rh15502⟩ := hq15496
                        obtain rfl : hp15426 = hp15493 := (Fr.nil F15495).symm
                        have hw : PW G cy K ln Ls A hp15426 H := hw
                        rcases b01 bd15498 with cn15503 | cn15503
                        · skip
                          subst cn15503
                          have rh15504 := rh15502 rfl
                          simp only [ge_of eq15453 eq15429 eq15454, gi_of eq15431, toi bc_15] at rh15504
                          refine lv_if_eq (tgt := 185) hx hb dX12_expression_178 (by decide) (fun _ => ?_) (fun c => absurd (d_eq bc_0 bc_0) c)
                          refine lv_iconst (v := 0) hx hb dX12_expression_185 (by decide) ?_
                          refine lv_istore_n (lv' := [(2, .int 0), (0, .ref qa900), (1, .int zi8)]) hx hb dX12_expression_186 rfl hl (by decide) rfl (fun ls hl => ?_)
                          refine lv_iload_n hx hb dX12_expression_187 rfl (lv_at hl 0 rfl) ?_
                          refine lv_if_ne (tgt := 210) hx hb dX12_expression_188 (by decide) (fun c => absurd (d_eq bc_0 bc_0) c) (fun _ => ?_)
                          refine lv_aload_n hx hb dX12_expression_191 rfl (lv_at hl 1 rfl) ?_
                          refine p_get (ci := 12) (v := .int zi15434) (C := RX12) (T := TX12) (N := 69) hx hb hT iw_X12 hown hK hw hW kd900 (by decide) rfl rfl 12 (by decide) eq15433 (hT _ tb_1386) (fun _ h9 => h9) dX12_expression_192 ?_
                          refine lv_iload_n hx hb dX12_expression_195 rfl (lv_at hl 2 rfl) ?_
                          refine lv_icmp_le (tgt := 204) hx hb dX12_expression_196 (by decide) (fun cn15505 => ?_) (fun cn15505 => ?_)
                          · skip
                            have tf15506 : zi15434.toInt ≤ zi8.toInt := (fa_le _ _).mp cn15505
                            have bd15507 : (0 : Int) ≤ zi15434.toInt ∧ zi15434.toInt ≤ 0 := r_le_x cn15505 bd15447 bd19 (by decide) (by decide)
                            refine lv_aload_n hx hb dX12_expression_204 rfl (lv_at hl 1 rfl) ?_
                            refine lv_iconst (v := 0) hx hb dX12_expression_205 (by decide) ?_
                            refine kq_v hw hS hA (va_runV (As := [.int 0]) (rest := []) ⟨hx, hb, hml, hown, hT⟩ (cX12_comesOut_0 l G cy ev K ln Ls hW _ hp15426 ok15428 qa900 0 gc0 kd900 (b_wid2 bc_0 (by decide) (by decide)) (by simp only [gi_of eq15435, gi_of eq15467, gi_of eq15437]; omega) (by simp only [gi_of eq15437]; omega) jx15443 jx15444) (cwV 1 hT (good_V tb_1715 tb_1712 tb_1714 tb_74 tb_122) rfl rfl rfl (by decide +kernel) ⟨Nat.le_of_ble_eq_true rfl, Nat.le_of_ble_eq_true rfl⟩) (pool_preV (ci := 12) hK hE hS hA hw hW kd900 (by decide) rfl) rfl rfl hl.1 rfl (lv_room (Nat.le_of_ble_eq_true rfl)) dX12_expression_206 ⟨Nat.le_of_ble_eq_true rfl, Nat.le_of_ble_eq_true rfl⟩) (fun hp15508 H locs hq15511 hw hS => ?_)
                            obtain ⟨ok15509, F15510, xq15513, xq15514, xq15515, rh15516, rh15517⟩ := hq15511
                            have hw : PW G cy K ln Ls A hp15508 H := hw
                            obtain ⟨zi15519, eq15518, bd15520⟩ := rd_13038 ok15509 kd900
                            obtain ⟨zi15522, eq15521, bd15523⟩ := rd_13045 ok15509 kd900
                            simp only [gi_of eq15435, gi_of eq15437, gi_of eq15518, gi_of eq15521] at rh15516
                            simp only [gi_of eq15437, gi_of eq15521] at rh15517
                            have eq15524 : hp15508 qa900 13 = .int zi15432 := Eq.trans (Fr.at (cq := 13013) F15510 kd900 (cd_o (by decide)) (by decide)) eq15431
                            have eq15525 : hp15508 qa900 11 = .int zi15430 := Eq.trans (Fr.at (cq := 13011) F15510 kd900 (cd_o (by decide)) (by decide)) eq15429
                            have eq15526 : hp15508 qa900 12 = .int zi15434 := Eq.trans (Fr.at (cq := 13012) F15510 kd900 (cd_o (by decide)) (by decide)) eq15433
                            have eq15527 : hp15508 qa900 19 = .int zi11 := Eq.trans (Fr.at (cq := 13019) F15510 kd900 (cd_o (by decide)) (by decide)) eq15467
                            rw [hQ]
                            exact kz_v hx hb hr hlocks hS hp15508 hw ⟨ok15509, (Fr.tr (Fr.tr (Fr.tr (Fr.tr (Fr.tr (Fr.put (cq := 13045) (Fr.rf) eh21 kd900 (cd_o (by decide)) (by decide)) F8554 (by decide)) F14505 (by decide)) F14835 (by decide)) F15427 (by decide)) F15510 (by decide)), (xq15514), (fun _ => by rw [← hgc0]; exact ei_end xq15513), (by simp only [gi_of eq13, gi_of eq15524, gi_of eq15525, gi_of eq4]; omega), (by simp only [gi_of eq15524, gi_of eq4]; omega), (by simp only [gi_of eq15524, gi_of eq15526]; omega), (by simp only [gi_of eq15518, gi_of eq15524, gi_of eq15525, gi_of eq15527]; omega)⟩ (Nat.le_of_ble_eq_true rfl) (Nat.le_of_ble_eq_true rfl) dX12_expression_209
                          · skip
                            have tf15528 : zi8.toInt < zi15434.toInt := (fa_lt _ _).mp (Int32.not_le.mp cn15505)
                            have bd15529 : (1 : Int) ≤ zi15434.toInt ∧ zi15434.toInt ≤ 7 := r_lt_y (Int32.not_le.mp cn15505) bd19 bd15447 (by decide) (by decide)
                            refine lv_aload_n hx hb dX12_expression_199 rfl (lv_at hl 1 rfl) ?_
                            refine lv_iconst (v := 1) hx hb dX12_expression_200 (by decide) ?_
                            refine kq_v hw hS hA (va_runV (As := [.int 1]) (rest := []) ⟨hx, hb, hml, hown, hT⟩ (cX12_fail_0 l G cy ev K ln Ls hW _ hp15426 ok15428 qa900 1 kd900 (b_wid2 bc_1 (by decide) (by decide))) (cwV 1 hT (good_V tb_1635 tb_1632 tb_1634 tb_55 tb_122) rfl rfl rfl (by decide +kernel) ⟨Nat.le_of_ble_eq_true rfl, Nat.le_of_ble_eq_true rfl⟩) (pool_preV (ci := 12) hK hE hS hA hw hW kd900 (by decide) rfl) rfl rfl hl.1 rfl (lv_room (Nat.le_of_ble_eq_true rfl)) dX12_expression_201 ⟨Nat.le_of_ble_eq_true rfl, Nat.le_of_ble_eq_true rfl⟩) (fun hp15530 H locs hq15533 hw hS => ?_)
                            obtain ⟨ok15531, F15532, ⟨zi15535, eq15536, bd15537⟩, rh15538⟩ := hq15533
                            have hw : PW G cy K ln Ls A hp15530 H := hw
                            simp only [gi_of eq15431, gi_of eq15536] at rh15538
                            refine lv_aload_n hx hb dX12_expression_204 rfl (lv_at hl 1 rfl) ?_
                            refine lv_iconst (v := 0) hx hb dX12_expression_205 (by decide) ?_
                            have eq15539 : hp15530 qa900 38 = .int zi15436 := Eq.trans (Fr.at (cq := 13038) F15532 kd900 (cd_o (by decide)) (by decide)) eq15435
                            have eq15540 : hp15530 qa900 19 = .int zi11 := Eq.trans (Fr.at (cq := 13019) F15532 kd900 (cd_o (by decide)) (by decide)) eq15467
                            have eq15541 : hp15530 qa900 45 = .int zi15438 := Eq.trans (Fr.at (cq := 13045) F15532 kd900 (cd_o (by decide)) (by decide)) eq15437
                            have pd15542 : EIx hp15530 qa900 gc0 1 := EI_fr ok15428 kd900 (Fr.tr (Fr.rf) F15532 (by decide)) (by decide) jx15443
                            have pd15543 : LPx hp15530 qa900 := LP_fr ok15428 kd900 (Fr.tr (Fr.rf) F15532 (by decide)) (by decide) jx15444
                            refine kq_v hw hS hA (va_runV (As := [.int 0]) (rest := []) ⟨hx, hb, hml, hown, hT⟩ (cX12_comesOut_0 l G cy ev K ln Ls hW _ hp15530 ok15531 qa900 0 gc0 kd900 (b_wid2 bc_0 (by decide) (by decide)) (by simp only [gi_of eq15539, gi_of eq15540, gi_of eq15541]; omega) (by simp only [gi_of eq15541]; omega) pd15542 pd15543) (cwV 1 hT (good_V tb_1715 tb_1712 tb_1714 tb_74 tb_122) rfl rfl rfl (by decide +kernel) ⟨Nat.le_of_ble_eq_true rfl, Nat.le_of_ble_eq_true rfl⟩) (pool_preV (ci := 12) hK hE hS hA hw hW kd900 (by decide) rfl) rfl rfl hl.1 rfl (lv_room (Nat.le_of_ble_eq_true rfl)) dX12_expression_206 ⟨Nat.le_of_ble_eq_true rfl, Nat.le_of_ble_eq_true rfl⟩) (fun hp15544 H locs hq15547 hw hS => ?_)
                            obtain ⟨ok15545, F15546, xq15549, xq15550, xq15551, rh15552, rh15553⟩ := hq15547
                            have hw : PW G cy K ln Ls A hp15544 H := hw
                            obtain ⟨zi15555, eq15554, bd15556⟩ := rd_13038 ok15545 kd900
                            obtain ⟨zi15558, eq15557, bd15559⟩ := rd_13045 ok15545 kd900
                            simp only [gi_of eq15539, gi_of eq15541, gi_of eq15554, gi_of eq15557] at rh15552
                            simp only [gi_of eq15541, gi_of eq15557] at rh15553
                            have eq15560 : hp15544 qa900 13 = .int zi15535 := Eq.trans (Fr.at (cq := 13013) F15546 kd900 (cd_o (by decide)) (by decide)) eq15536
                            have eq15561 : hp15544 qa900 11 = .int zi15430 := Eq.trans (Fr.at (cq := 13011) F15546 kd900 (cd_o (by decide)) (by decide)) (Eq.trans (Fr.at (cq := 13011) F15532 kd900 (cd_o (by decide)) (by decide)) eq15429)
                            have eq15562 : hp15544 qa900 12 = .int zi15434 := Eq.trans (Fr.at (cq := 13012) F15546 kd900 (cd_o (by decide)) (by decide)) (Eq.trans (Fr.at (cq := 13012) F15532 kd900 (cd_o (by decide)) (by decide)) eq15433)
                            have eq15563 : hp15544 qa900 19 = .int zi11 := Eq.trans (Fr.at (cq := 13019) F15546 kd900 (cd_o (by decide)) (by decide)) eq15540
                            rw [hQ]
                            exact kz_v hx hb hr hlocks hS hp15544 hw ⟨ok15545, (Fr.tr (Fr.tr (Fr.tr (Fr.tr (Fr.tr (Fr.tr (Fr.put (cq := 13045) (Fr.rf) eh21 kd900 (cd_o (by decide)) (by decide)) F8554 (by decide)) F14505 (by decide)) F14835 (by decide)) F15427 (by decide)) F15532 (by decide)) F15546 (by decide)), (xq15550), (fun _ => by rw [← hgc0]; exact ei_end xq15549), (by simp only [gi_of eq13, gi_of eq15560, gi_of eq15561, gi_of eq4]; omega), (by simp only [gi_of eq15560, gi_of eq4]; omega), (by simp only [gi_of eq15560, gi_of eq15562]; omega), (by simp only [gi_of eq15554, gi_of eq15560, gi_of eq15561, gi_of eq15563]; omega)⟩ (Nat.le_of_ble_eq_true rfl) (Nat.le_of_ble_eq_true rfl) dX12_expression_209
                        · skip
                          subst cn15503
                          obtain ⟨zi15564, eq15565, bd15566⟩ := hc15499 rfl
                          have hx15567 : zi15432 = zi15564 := Value.int.inj (Eq.trans (Eq.symm eq15431) eq15565)
                          subst hx15567
                          have bd15568 : (0 : Int) ≤ zi15432.toInt ∧ zi15432.toInt ≤ 0 := b_meet bd15446 bd15566 (by decide) (by decide)
                          have rh15569 := rh15500 rfl
                          simp only [ge_of eq15453 eq15429 eq15454, toi bc_15] at rh15569
                          have rh15570 := rh15501 rfl
                          simp only [gi_of eq15431] at rh15570
                          refine lv_if_eq (tgt := 185) hx hb dX12_expression_178 (by decide) (fun c => absurd c (d_ne bc_1 bc_0 (by decide))) (fun _ => ?_)
                          refine lv_iconst (v := 1) hx hb dX12_expression_181 (by decide) ?_
                          refine lv_goto (tgt := 186) hx hb dX12_expression_182 (by decide) ?_
                          refine lv_istore_n (lv' := [(2, .int 1), (0, .ref qa900), (1, .int zi8)]) hx hb dX12_expression_186 rfl hl (by decide) rfl (fun ls hl => ?_)
                          refine lv_iload_n hx hb dX12_expression_187 rfl (lv_at hl 0 rfl) ?_
                          refine lv_if_ne (tgt := 210) hx hb dX12_expression_188 (by decide) (fun _ => ?_) (fun c => absurd c (d_ne bc_1 bc_0 (by decide)))
                          refine lv_aload_n hx hb dX12_expression_210 rfl (lv_at hl 1 rfl) ?_
                          refine lv_aload_n hx hb dX12_expression_211 rfl (lv_at hl 1 rfl) ?_
                          refine lv_bipush (v := 10) hx hb dX12_expression_212 (by decide) ?_
                          refine kq_i hw hS hA (va_runV (As := [.int 10]) (rest := [.ref qa900]) ⟨hx, hb, hml, hown, hT⟩ (cX12_is_0 l G cy ev K ln Ls hW _ hp15426 ok15428 qa900 10 kd900) (cwV 1 hT (good_V tb_1623 tb_1620 tb_1622 tb_52 tb_122) rfl rfl rfl (by decide +kernel) ⟨Nat.le_of_ble_eq_true rfl, Nat.le_of_ble_eq_true rfl⟩) (pool_preV (ci := 12) hK hE hS hA hw hW kd900 (by decide) rfl) rfl rfl hl.1 rfl (lv_room (Nat.le_of_ble_eq_true rfl)) dX12_expression_214 ⟨Nat.le_of_ble_eq_true rfl, Nat.le_of_ble_eq_true rfl⟩) (fun zi15575 hp15571 H locs hq15574 hw hS => ?_)
                          obtain ⟨ok15572, F15573, bd15576, hc15577, rh15578, rh15579, rh15580⟩ := hq15574
                          obtain rfl : hp15426 = hp15571 := (Fr.nil F15573).symm
                          have hw : PW G cy K ln Ls A hp15426 H := hw
                          rcases b01 bd15576 with cn15581 | cn15581
                          · skip
                            subst cn15581
                            have rh15582 := rh15580 rfl
                            simp only [ge_of eq15453 eq15429 eq15454, gi_of eq15431, toi bc_10] at rh15582
                            refine lv_if_ne (tgt := 229) hx hb dX12_expression_217 (by decide) (fun c => absurd (d_eq bc_0 bc_0) c) (fun _ => ?_)
                            refine lv_aload_n hx hb dX12_expression_220 rfl (lv_at hl 1 rfl) ?_
                            refine lv_bipush (v := 15) hx hb dX12_expression_221 (by decide) ?_
                            refine kq_i hw hS hA (va_runV (As := [.int 15]) (rest := [.ref qa900]) ⟨hx, hb, hml, hown, hT⟩ (cX12_is_0 l G cy ev K ln Ls hW _ hp15426 ok15428 qa900 15 kd900) (cwV 1 hT (good_V tb_1623 tb_1620 tb_1622 tb_52 tb_122) rfl rfl rfl (by decide +kernel) ⟨Nat.le_of_ble_eq_true rfl, Nat.le_of_ble_eq_true rfl⟩) (pool_preV (ci := 12) hK hE hS hA hw hW kd900 (by decide) rfl) rfl rfl hl.1 rfl (lv_room (Nat.le_of_ble_eq_true rfl)) dX12_expression_223 ⟨Nat.le_of_ble_eq_true rfl, Nat.le_of_ble_eq_true rfl⟩) (fun zi15587 hp15583 H locs hq15586 hw hS => ?_)
                            obtain ⟨ok15584, F15585, bd15588, hc15589, rh15590, rh15591, rh15592⟩ := hq15586
                            obtain rfl : hp15426 = hp15583 := (Fr.nil F15585).symm
                            have hw : PW G cy K ln Ls A hp15426 H := hw
                            rcases b01 bd15588 with cn15593 | cn15593
                            · skip
                              subst cn15593
                              have rh15594 := rh15592 rfl
                              simp only [ge_of eq15453 eq15429 eq15454, gi_of eq15431, toi bc_15] at rh15594
                              refine lv_if_eq (tgt := 233) hx hb dX12_expression_226 (by decide) (fun _ => ?_) (fun c => absurd (d_eq bc_0 bc_0) c)
                              refine lv_iconst (v := 0) hx hb dX12_expression_233 (by decide) ?_
                              refine kq_v hw hS hA (va_runV (As := [.int 0]) (rest := []) ⟨hx, hb, hml, hown, hT⟩ (cX12_comesOut_0 l G cy ev K ln Ls hW _ hp15426 ok15428 qa900 0 gc0 kd900 (b_wid2 bc_0 (by decide) (by decide)) (by simp only [gi_of eq15435, gi_of eq15467, gi_of eq15437]; omega) (by simp only [gi_of eq15437]; omega) jx15443 jx15444) (cwV 1 hT (good_V tb_1715 tb_1712 tb_1714 tb_74 tb_122) rfl rfl rfl (by decide +kernel) ⟨Nat.le_of_ble_eq_true rfl, Nat.le_of_ble_eq_true rfl⟩) (pool_preV (ci := 12) hK hE hS hA hw hW kd900 (by decide) rfl) rfl rfl hl.1 rfl (lv_room (Nat.le_of_ble_eq_true rfl)) dX12_expression_234 ⟨Nat.le_of_ble_eq_true rfl, Nat.le_of_ble_eq_true rfl⟩) (fun hp15595 H locs hq15598 hw hS => ?_)
                              obtain ⟨ok15596, F15597, xq15600, xq15601, xq15602, rh15603, rh15604⟩ := hq15598
                              have hw : PW G cy K ln Ls A hp15595 H := hw
                              obtain ⟨zi15606, eq15605, bd15607⟩ := rd_13038 ok15596 kd900
                              obtain ⟨zi15609, eq15608, bd15610⟩ := rd_13045 ok15596 kd900
                              simp only [gi_of eq15435, gi_of eq15437, gi_of eq15605, gi_of eq15608] at rh15603
                              simp only [gi_of eq15437, gi_of eq15608] at rh15604
                              have el15611 := EI_lin xq15600
                              have eq15612 : hp15595 qa900 12 = .int zi15434 := Eq.trans (Fr.at (cq := 13012) F15597 kd900 (cd_o (by decide)) (by decide)) eq15433
                              rw [gi_of eq15608, gi_of eq15612, gi_of eq15605] at el15611
                              obtain ⟨qa15614, eq15613, kd15615⟩ := rd_13044 ok15596 kd900
                              obtain ⟨qa15617, eq15616, kd15618⟩ := rd_13039 ok15596 kd900
                              obtain ⟨qa15620, eq15619, kd15621⟩ := rd_13040 ok15596 kd900
                              have bd15622 : (0 : Int) ≤ zi15609.toInt ∧ zi15609.toInt ≤ 23 := (by omega)
                              refine lv_aload_n hx hb dX12_expression_237 rfl (lv_at hl 1 rfl) ?_
                              refine p_get (ci := 12) (v := .ref qa15614) (C := RX12) (T := TX12) (N := 69) hx hb hT iw_X12 hown hK hw hW kd900 (by decide) rfl rfl 44 (by decide) eq15613 (hT _ tb_1418) (fun _ h9 => h9) dX12_expression_238 ?_
                              refine lv_aload_n hx hb dX12_expression_241 rfl (lv_at hl 1 rfl) ?_
                              refine p_get (ci := 12) (v := .int zi15609) (C := RX12) (T := TX12) (N := 69) hx hb hT iw_X12 hown hK hw hW kd900 (by decide) rfl rfl 45 (by decide) eq15608 (hT _ tb_1419) (fun _ h9 => h9) dX12_expression_242 ?_
                              refine lv_aload_n hx hb dX12_expression_245 rfl (lv_at hl 1 rfl) ?_
                              have eq15623 : hp15595 qa900 5 = .ref qa14816 := Eq.trans (Fr.at (cq := 13005) F15597 kd900 (cd_o (by decide)) (by decide)) eq15453
                              refine p_get (ci := 12) (v := .ref qa14816) (C := RX12) (T := TX12) (N := 69) hx hb hT iw_X12 hown hK hw hW kd900 (by decide) rfl rfl 5 (by decide) eq15623 (hT _ tb_1379) (fun _ h9 => h9) dX12_expression_246 ?_
                              refine lv_aload_n hx hb dX12_expression_249 rfl (lv_at hl 1 rfl) ?_
                              have eq15624 : hp15595 qa900 11 = .int zi15430 := Eq.trans (Fr.at (cq := 13011) F15597 kd900 (cd_o (by decide)) (by decide)) eq15429
                              refine p_get (ci := 12) (v := .int zi15430) (C := RX12) (T := TX12) (N := 69) hx hb hT iw_X12 hown hK hw hW kd900 (by decide) rfl rfl 11 (by decide) eq15624 (hT _ tb_1385) (fun _ h9 => h9) dX12_expression_250 ?_
                              have eq15625 : hp15595 qa14816 (zi15430 : Int32).toNatClampNeg = .int zi15455 := Eq.trans (Fr.at (cq := 62000) F15597 kd14817 (cd_a (by decide)) (by decide)) eq15454
                              refine p_iald (v := zi15455) hx hb hK hw hW kd14817 (by decide) rfl (hW.len kd14817 (n := 403) rfl (by decide)) (vp_b bd15445 (by decide) (by decide)) eq15625 dX12_expression_253 ?_
                              refine p_iast (x := zi15455) hx hb hK hw hS hW kd15615 (by decide) rfl (hW.len kd15615 (n := 64) rfl (by decide)) (vp_b bd15622 (by decide) (by decide)) dX12_expression_254 (fun hp15626 eh15627 H locs hw hS => ?_)
                              have ok15628 := wr_89000 ok15596 kd15615 eh15627
                              refine lv_aload_n hx hb dX12_expression_255 rfl (lv_at hl 1 rfl) ?_
                              refine lv_dup hx hb dX12_expression_256 rfl ?_
                              have eq15629 : hp15626 qa900 45 = .int zi15609 := Eq.trans (up_at eh15627 (Or.inl (kd_ne kd900 kd15615 (by decide)))) eq15608
                              refine p_get (ci := 12) (v := .int zi15609) (C := RX12) (T := TX12) (N := 69) hx hb hT iw_X12 hown hK hw hW kd900 (by decide) rfl rfl 45 (by decide) eq15629 (hT _ tb_1419) (fun _ h9 => h9) dX12_expression_257 ?_
                              refine lv_iconst (v := 1) hx hb dX12_expression_260 (by decide) ?_
                              refine lv_iadd hx hb dX12_expression_261 (lv_topi (fun zi15630 ea15631 => ?_))
                              have bd15632 : (1 : Int) ≤ zi15630.toInt ∧ zi15630.toInt ≤ 24 := b_iadd ea15631 bd15622 bc_1 (by decide) (by decide) (by decide) (by decide)
                              have qe15633 : zi15630.toInt = (zi15609 : Int32).toInt + (1 : Int32).toInt := e_iadd ea15631 bd15622 bc_1 (by decide) (by decide)
                              have qe15634 : zi15630.toInt = zi15609.toInt + 1 := by have ha : (1 : Int32).toInt = 1 := (by decide); rw [ha] at qe15633; exact qe15633
                              refine p_put (ci := 12) (v := .int zi15630) (ty := .int) (C := RX12) (T := TX12) (N := 69) hx hb hT iw_X12 tyX12 tyX12_ok nmX12 hown hK hw hS hW kd900 (by decide) rfl rfl 45 (by decide) (hT _ tb_1419) (fun _ h9 => h9) rfl (by decide +kernel) rfl rfl dX12_expression_262 (fun hp15635 eh15636 H locs hw hS => ?_)
                              have ok15637 := wr_13045 bd15632 (by decide) (by decide) ok15628 kd900 eh15636
                              refine lv_aload_n hx hb dX12_expression_265 rfl (lv_at hl 1 rfl) ?_
                              have eq15638 : hp15635 qa900 13 = .int zi15432 := Eq.trans (up_at eh15636 (Or.inr (by decide))) (Eq.trans (up_at eh15627 (Or.inl (kd_ne kd900 kd15615 (by decide)))) (Eq.trans (Fr.at (cq := 13013) F15597 kd900 (cd_o (by decide)) (by decide)) eq15431))
                              have eq15639 : hp15635 qa900 11 = .int zi15430 := Eq.trans (up_at eh15636 (Or.inr (by decide))) (Eq.trans (up_at eh15627 (Or.inl (kd_ne kd900 kd15615 (by decide)))) eq15624)
                              refine kq_v hw hS hA (va_runV (As := []) (rest := []) ⟨hx, hb, hml, hown, hT⟩ (cX12_goesOn_0 l G cy ev K ln Ls hW _ hp15635 ok15637 qa900 kd900) (cwV 0 hT (good_V tb_1639 tb_1636 tb_1638 tb_56 tb_122) rfl rfl rfl (by decide +kernel) ⟨Nat.le_of_ble_eq_true rfl, Nat.le_of_ble_eq_true rfl⟩) (pool_preV (ci := 12) hK hE hS hA hw hW kd900 (by decide) rfl) rfl rfl hl.1 rfl (lv_room (Nat.le_of_ble_eq_true rfl)) dX12_expression_266 ⟨Nat.le_of_ble_eq_true rfl, Nat.le_of_ble_eq_true rfl⟩) (fun hp15640 H locs hq15643 hw hS => ?_)
                              obtain ⟨ok15641, F15642, ⟨zi15645, eq15646, bd15647⟩, rh15648, rh15649, rh15650⟩ := hq15643
                              have hw : PW G cy K ln Ls A hp15640 H := hw
                              obtain ⟨zi15652, eq15651, bd15653⟩ := rd_13013 ok15641 kd900
                              simp only [gi_of eq15638, gi_of eq15639, gi_of eq15646, gi_of eq15651] at rh15648
                              simp only [gi_of eq15638, gi_of eq15651] at rh15649
                              simp only [gi_of eq15639, gi_of eq15646, gi_of eq15651] at rh15650
                              have eq15654 : hp15640 qa900 44 = .ref qa15614 := Eq.trans (Fr.at (cq := 13044) F15642 kd900 (cd_o (by decide)) (by decide)) (Eq.trans (up_at eh15636 (Or.inr (by decide))) (Eq.trans (up_at eh15627 (Or.inl (kd_ne kd900 kd15615 (by decide)))) eq15613))
                              have eq15656 : hp15640 qa900 45 = .int zi15630 := Eq.trans (Fr.at (cq := 13045) F15642 kd900 (cd_o (by decide)) (by decide)) (hp_self eh15636)
                              have eq15657 : hp15640 qa900 12 = .int zi15434 := Eq.trans (Fr.at (cq := 13012) F15642 kd900 (cd_o (by decide)) (by decide)) (Eq.trans (up_at eh15636 (Or.inr (by decide))) (Eq.trans (up_at eh15627 (Or.inl (kd_ne kd900 kd15615 (by decide)))) eq15612))
                              have eq15658 : hp15640 qa900 39 = .ref qa15617 := Eq.trans (Fr.at (cq := 13039) F15642 kd900 (cd_o (by decide)) (by decide)) (Eq.trans (up_at eh15636 (Or.inr (by decide))) (Eq.trans (up_at eh15627 (Or.inl (kd_ne kd900 kd15615 (by decide)))) eq15616))
                              have eq15659 : hp15640 qa900 40 = .ref qa15620 := Eq.trans (Fr.at (cq := 13040) F15642 kd900 (cd_o (by decide)) (by decide)) (Eq.trans (up_at eh15636 (Or.inr (by decide))) (Eq.trans (up_at eh15627 (Or.inl (kd_ne kd900 kd15615 (by decide)))) eq15619))
                              have eq15660 : hp15640 qa900 38 = .int zi15606 := Eq.trans (Fr.at (cq := 13038) F15642 kd900 (cd_o (by decide)) (by decide)) (Eq.trans (up_at eh15636 (Or.inr (by decide))) (Eq.trans (up_at eh15627 (Or.inl (kd_ne kd900 kd15615 (by decide)))) eq15605))
                              have ei15655 : EIx hp15640 qa900 gc0 0 := EI_opr (i := (zi15609 : Int32).toNatClampNeg) (k := zi15455.toInt) xq15600 (CO_opr xq15602 (by have := toi bc_0; omega)) (mA_up eq15613 eq15654 rfl eh15627 (Eq.trans (show hp15640 qa15614 = hp15635 qa15614 from (funext fun i => Fr.at (cq := 89000) F15642 kd15615 (cd_a (by decide)) (by decide))) (show hp15635 qa15614 = hp15626 qa15614 from (by rw [eh15636]; exact up2_row (kd_ne kd15615 kd900 (by decide)))))) (by rw [gi_of eq15608]; have := clampN (x := zi15609) (by omega); omega) (by rw [gi_of eq15656, gi_of eq15608]; omega) (by rw [gi_of eq15657, gi_of eq15612]; omega) (mA_eq eq15616 eq15658 (Eq.trans (show hp15640 qa15617 = hp15635 qa15617 from (funext fun i => Fr.at (cq := 84000) F15642 kd15618 (cd_a (by decide)) (by decide))) (Eq.trans (show hp15635 qa15617 = hp15626 qa15617 from (by rw [eh15636]; exact up2_row (kd_ne kd15618 kd900 (by decide)))) (show hp15626 qa15617 = hp15595 qa15617 from (by rw [eh15627]; exact up2_row (kd_ne kd15618 kd15615 (by decide))))))) (mA_eq eq15619 eq15659 (Eq.trans (show hp15640 qa15620 = hp15635 qa15620 from (funext fun i => Fr.at (cq := 85000) F15642 kd15621 (cd_a (by decide)) (by decide))) (Eq.trans (show hp15635 qa15620 = hp15626 qa15620 from (by rw [eh15636]; exact up2_row (kd_ne kd15621 kd900 (by decide)))) (show hp15626 qa15620 = hp15595 qa15620 from (by rw [eh15627]; exact up2_row (kd_ne kd15621 kd15615 (by decide))))))) (by rw [gi_of eq15660, gi_of eq15605]; omega)
                              refine lv_goto (tgt := 12) hx hb dX12_expression_269 (by decide) ?_
                              have eq15661 : hp15640 qa900 19 = .int zi11 := Eq.trans (Fr.at (cq := 13019) F15642 kd900 (cd_o (by decide)) (by decide)) (Eq.trans (up_at eh15636 (Or.inr (by decide))) (Eq.trans (up_at eh15627 (Or.inl (kd_ne kd900 kd15615 (by decide)))) (Eq.trans (Fr.at (cq := 13019) F15597 kd900 (cd_o (by decide)) (by decide)) eq15467)))
                              have pd15662 : LPx hp15640 qa900 := LP_fr ok15596 kd900 (Fr.tr (Fr.put (cq := 13045) (Fr.put (cq := 89000) (Fr.rf) eh15627 kd15615 (cd_a (by decide)) (by decide)) eh15636 kd900 (cd_o (by decide)) (by decide)) F15642 (by decide)) (by decide) xq15601
                              exact ih14026 hp15640 zi15645 zi15652 zi15434 zi15606 zi15630 _ _ ls (by have := toi bc_1; have := hm14028; omega) ok15641 (Fr.tr (Fr.put (cq := 13045) (Fr.put (cq := 89000) (Fr.tr (Fr.tr (Fr.tr (Fr.tr (Fr.tr (Fr.rf) F8554 (by decide)) F14505 (by decide)) F14835 (by decide)) F15427 (by decide)) F15597 (by decide)) eh15627 kd15615 (cd_a (by decide)) (by decide)) eh15636 kd900 (cd_o (by decide)) (by decide)) F15642 (by decide)) (b_wid2 bd15647 (by decide) (by decide)) eq15646 (b_wid2 bd15653 (by decide) (by decide)) eq15651 (b_wid2 bd15447 (by decide) (by decide)) eq15657 (b_wid2 bd15607 (by decide) (by decide)) eq15660 (b_wid2 bd15632 (by decide) (by decide)) eq15656 (by have := toi bc_1; omega) (by have := toi bc_1; omega) (by have := toi bc_1; omega) (by have := toi bc_1; omega) ei15655 pd15662 (lv_sub hl [1, 2, 0] rfl) hw hS
                            · skip
                              subst cn15593
                              obtain ⟨zi15663, eq15664, bd15665⟩ := hc15589 rfl
                              have hx15666 : zi15432 = zi15663 := Value.int.inj (Eq.trans (Eq.symm eq15431) eq15664)
                              subst hx15666
                              have bd15667 : (0 : Int) ≤ zi15432.toInt ∧ zi15432.toInt ≤ 0 := b_meet bd15568 bd15665 (by decide) (by decide)
                              have rh15668 := rh15590 rfl
                              simp only [ge_of eq15453 eq15429 eq15454, toi bc_15] at rh15668
                              have rh15669 := rh15591 rfl
                              simp only [gi_of eq15431] at rh15669
                              refine lv_if_eq (tgt := 233) hx hb dX12_expression_226 (by decide) (fun c => absurd c (d_ne bc_1 bc_0 (by decide))) (fun _ => ?_)
                              refine lv_iconst (v := 1) hx hb dX12_expression_229 (by decide) ?_
                              refine lv_goto (tgt := 234) hx hb dX12_expression_230 (by decide) ?_
                              refine kq_v hw hS hA (va_runV (As := [.int 1]) (rest := []) ⟨hx, hb, hml, hown, hT⟩ (cX12_comesOut_0 l G cy ev K ln Ls hW _ hp15426 ok15428 qa900 1 gc0 kd900 (b_wid2 bc_1 (by decide) (by decide)) (by simp only [gi_of eq15435, gi_of eq15467, gi_of eq15437]; omega) (by simp only [gi_of eq15437]; omega) jx15443 jx15444) (cwV 1 hT (good_V tb_1715 tb_1712 tb_1714 tb_74 tb_122) rfl rfl rfl (by decide +kernel) ⟨Nat.le_of_ble_eq_true rfl, Nat.le_of_ble_eq_true rfl⟩) (pool_preV (ci := 12) hK hE hS hA hw hW kd900 (by decide) rfl) rfl rfl hl.1 rfl (lv_room (Nat.le_of_ble_eq_true rfl)) dX12_expression_234 ⟨Nat.le_of_ble_eq_true rfl, Nat.le_of_ble_eq_true rfl⟩) (fun hp15670 H locs hq15673 hw hS => ?_)
                              obtain ⟨ok15671, F15672, xq15675, xq15676, xq15677, rh15678, rh15679⟩ := hq15673
                              have hw : PW G cy K ln Ls A hp15670 H := hw
                              obtain ⟨zi15681, eq15680, bd15682⟩ := rd_13038 ok15671 kd900
                              obtain ⟨zi15684, eq15683, bd15685⟩ := rd_13045 ok15671 kd900
                              simp only [gi_of eq15435, gi_of eq15437, gi_of eq15680, gi_of eq15683] at rh15678
                              simp only [gi_of eq15437, gi_of eq15683] at rh15679
                              have el15686 := EI_lin xq15675
                              have eq15687 : hp15670 qa900 12 = .int zi15434 := Eq.trans (Fr.at (cq := 13012) F15672 kd900 (cd_o (by decide)) (by decide)) eq15433
                              rw [gi_of eq15683, gi_of eq15687, gi_of eq15680] at el15686
                              obtain ⟨qa15689, eq15688, kd15690⟩ := rd_13044 ok15671 kd900
                              obtain ⟨qa15692, eq15691, kd15693⟩ := rd_13039 ok15671 kd900
                              obtain ⟨qa15695, eq15694, kd15696⟩ := rd_13040 ok15671 kd900
                              have bd15697 : (0 : Int) ≤ zi15684.toInt ∧ zi15684.toInt ≤ 23 := (by omega)
                              refine lv_aload_n hx hb dX12_expression_237 rfl (lv_at hl 1 rfl) ?_
                              refine p_get (ci := 12) (v := .ref qa15689) (C := RX12) (T := TX12) (N := 69) hx hb hT iw_X12 hown hK hw hW kd900 (by decide) rfl rfl 44 (by decide) eq15688 (hT _ tb_1418) (fun _ h9 => h9) dX12_expression_238 ?_
                              refine lv_aload_n hx hb dX12_expression_241 rfl (lv_at hl 1 rfl) ?_
                              refine p_get (ci := 12) (v := .int zi15684) (C := RX12) (T := TX12) (N := 69) hx hb hT iw_X12 hown hK hw hW kd900 (by decide) rfl rfl 45 (by decide) eq15683 (hT _ tb_1419) (fun _ h9 => h9) dX12_expression_242 ?_
                              refine lv_aload_n hx hb dX12_expression_245 rfl (lv_at hl 1 rfl) ?_
                              have eq15698 : hp15670 qa900 5 = .ref qa14816 := Eq.trans (Fr.at (cq := 13005) F15672 kd900 (cd_o (by decide)) (by decide)) eq15453
                              refine p_get (ci := 12) (v := .ref qa14816) (C := RX12) (T := TX12) (N := 69) hx hb hT iw_X12 hown hK hw hW kd900 (by decide) rfl rfl 5 (by decide) eq15698 (hT _ tb_1379) (fun _ h9 => h9) dX12_expression_246 ?_
                              refine lv_aload_n hx hb dX12_expression_249 rfl (lv_at hl 1 rfl) ?_
                              have eq15699 : hp15670 qa900 11 = .int zi15430 := Eq.trans (Fr.at (cq := 13011) F15672 kd900 (cd_o (by decide)) (by decide)) eq15429
                              refine p_get (ci := 12) (v := .int zi15430) (C := RX12) (T := TX12) (N := 69) hx hb hT iw_X12 hown hK hw hW kd900 (by decide) rfl rfl 11 (by decide) eq15699 (hT _ tb_1385) (fun _ h9 => h9) dX12_expression_250 ?_
                              have eq15700 : hp15670 qa14816 (zi15430 : Int32).toNatClampNeg = .int zi15455 := Eq.trans (Fr.at (cq := 62000) F15672 kd14817 (cd_a (by decide)) (by decide)) eq15454
                              refine p_iald (v := zi15455) hx hb hK hw hW kd14817 (by decide) rfl (hW.len kd14817 (n := 403) rfl (by decide)) (vp_b bd15445 (by decide) (by decide)) eq15700 dX12_expression_253 ?_
                              refine p_iast (x := zi15455) hx hb hK hw hS hW kd15690 (by decide) rfl (hW.len kd15690 (n := 64) rfl (by decide)) (vp_b bd15697 (by decide) (by decide)) dX12_expression_254 (fun hp15701 eh15702 H locs hw hS => ?_)
                              have ok15703 := wr_89000 ok15671 kd15690 eh15702
                              refine lv_aload_n hx hb dX12_expression_255 rfl (lv_at hl 1 rfl) ?_
                              refine lv_dup hx hb dX12_expression_256 rfl ?_
                              have eq15704 : hp15701 qa900 45 = .int zi15684 := Eq.trans (up_at eh15702 (Or.inl (kd_ne kd900 kd15690 (by decide)))) eq15683
                              refine p_get (ci := 12) (v := .int zi15684) (C := RX12) (T := TX12) (N := 69) hx hb hT iw_X12 hown hK hw hW kd900 (by decide) rfl rfl 45 (by decide) eq15704 (hT _ tb_1419) (fun _ h9 => h9) dX12_expression_257 ?_
                              refine lv_iconst (v := 1) hx hb dX12_expression_260 (by decide) ?_
                              refine lv_iadd hx hb dX12_expression_261 (lv_topi (fun zi15705 ea15706 => ?_))
                              have bd15707 : (1 : Int) ≤ zi15705.toInt ∧ zi15705.toInt ≤ 24 := b_iadd ea15706 bd15697 bc_1 (by decide) (by decide) (by decide) (by decide)
                              have qe15708 : zi15705.toInt = (zi15684 : Int32).toInt + (1 : Int32).toInt := e_iadd ea15706 bd15697 bc_1 (by decide) (by decide)
                              have qe15709 : zi15705.toInt = zi15684.toInt + 1 := by have ha : (1 : Int32).toInt = 1 := (by decide); rw [ha] at qe15708; exact qe15708
                              refine p_put (ci := 12) (v := .int zi15705) (ty := .int) (C := RX12) (T := TX12) (N := 69) hx hb hT iw_X12 tyX12 tyX12_ok nmX12 hown hK hw hS hW kd900 (by decide) rfl rfl 45 (by decide) (hT _ tb_1419) (fun _ h9 => h9) rfl (by decide +kernel) rfl rfl dX12_expression_262 (fun hp15710 eh15711 H locs hw hS => ?_)
                              have ok15712 := wr_13045 bd15707 (by decide) (by decide) ok15703 kd900 eh15711
                              refine lv_aload_n hx hb dX12_expression_265 rfl (lv_at hl 1 rfl) ?_
                              have eq15713 : hp15710 qa900 13 = .int zi15432 := Eq.trans (up_at eh15711 (Or.inr (by decide))) (Eq.trans (up_at eh15702 (Or.inl (kd_ne kd900 kd15690 (by decide)))) (Eq.trans (Fr.at (cq := 13013) F15672 kd900 (cd_o (by decide)) (by decide)) eq15431))
                              have eq15714 : hp15710 qa900 11 = .int zi15430 := Eq.trans (up_at eh15711 (Or.inr (by decide))) (Eq.trans (up_at eh15702 (Or.inl (kd_ne kd900 kd15690 (by decide)))) eq15699)
                              refine kq_v hw hS hA (va_runV (As := []) (rest := []) ⟨hx, hb, hml, hown, hT⟩ (cX12_goesOn_0 l G cy ev K ln Ls hW _ hp15710 ok15712 qa900 kd900) (cwV 0 hT (good_V tb_1639 tb_1636 tb_1638 tb_56 tb_122) rfl rfl rfl (by decide +kernel) ⟨Nat.le_of_ble_eq_true rfl, Nat.le_of_ble_eq_true rfl⟩) (pool_preV (ci := 12) hK hE hS hA hw hW kd900 (by decide) rfl) rfl rfl hl.1 rfl (lv_room (Nat.le_of_ble_eq_true rfl)) dX12_expression_266 ⟨Nat.le_of_ble_eq_true rfl, Nat.le_of_ble_eq_true rfl⟩) (fun hp15715 H locs hq15718 hw hS => ?_)
                              obtain ⟨ok15716, F15717, ⟨zi15720, eq15721, bd15722⟩, rh15723, rh15724, rh15725⟩ := hq15718
                              have hw : PW G cy K ln Ls A hp15715 H := hw
                              obtain ⟨zi15727, eq15726, bd15728⟩ := rd_13013 ok15716 kd900
                              simp only [gi_of eq15713, gi_of eq15714, gi_of eq15721, gi_of eq15726] at rh15723
                              simp only [gi_of eq15713, gi_of eq15726] at rh15724
                              simp only [gi_of eq15714, gi_of eq15721, gi_of eq15726] at rh15725
                              have eq15729 : hp15715 qa900 44 = .ref qa15689 := Eq.trans (Fr.at (cq := 13044) F15717 kd900 (cd_o (by decide)) (by decide)) (Eq.trans (up_at eh15711 (Or.inr (by decide))) (Eq.trans (up_at eh15702 (Or.inl (kd_ne kd900 kd15690 (by decide)))) eq15688))
                              have eq15731 : hp15715 qa900 45 = .int zi15705 := Eq.trans (Fr.at (cq := 13045) F15717 kd900 (cd_o (by decide)) (by decide)) (hp_self eh15711)
                              have eq15732 : hp15715 qa900 12 = .int zi15434 := Eq.trans (Fr.at (cq := 13012) F15717 kd900 (cd_o (by decide)) (by decide)) (Eq.trans (up_at eh15711 (Or.inr (by decide))) (Eq.trans (up_at eh15702 (Or.inl (kd_ne kd900 kd15690 (by decide)))) eq15687))
                              have eq15733 : hp15715 qa900 39 = .ref qa15692 := Eq.trans (Fr.at (cq := 13039) F15717 kd900 (cd_o (by decide)) (by decide)) (Eq.trans (up_at eh15711 (Or.inr (by decide))) (Eq.trans (up_at eh15702 (Or.inl (kd_ne kd900 kd15690 (by decide)))) eq15691))
                              have eq15734 : hp15715 qa900 40 = .ref qa15695 := Eq.trans (Fr.at (cq := 13040) F15717 kd900 (cd_o (by decide)) (by decide)) (Eq.trans (up_at eh15711 (Or.inr (by decide))) (Eq.trans (up_at eh15702 (Or.inl (kd_ne kd900 kd15690 (by decide)))) eq15694))
                              have eq15735 : hp15715 qa900 38 = .int zi15681 := Eq.trans (Fr.at (cq := 13038) F15717 kd900 (cd_o (by decide)) (by decide)) (Eq.trans (up_at eh15711 (Or.inr (by decide))) (Eq.trans (up_at eh15702 (Or.inl (kd_ne kd900 kd15690 (by decide)))) eq15680))
                              have ei15730 : EIx hp15715 qa900 gc0 0 := EI_opr (i := (zi15684 : Int32).toNatClampNeg) (k := zi15455.toInt) xq15675 (CO_opr xq15677 (by have := toi bc_1; omega)) (mA_up eq15688 eq15729 rfl eh15702 (Eq.trans (show hp15715 qa15689 = hp15710 qa15689 from (funext fun i => Fr.at (cq := 89000) F15717 kd15690 (cd_a (by decide)) (by decide))) (show hp15710 qa15689 = hp15701 qa15689 from (by rw [eh15711]; exact up2_row (kd_ne kd15690 kd900 (by decide)))))) (by rw [gi_of eq15683]; have := clampN (x := zi15684) (by omega); omega) (by rw [gi_of eq15731, gi_of eq15683]; omega) (by rw [gi_of eq15732, gi_of eq15687]; omega) (mA_eq eq15691 eq15733 (Eq.trans (show hp15715 qa15692 = hp15710 qa15692 from (funext fun i => Fr.at (cq := 84000) F15717 kd15693 (cd_a (by decide)) (by decide))) (Eq.trans (show hp15710 qa15692 = hp15701 qa15692 from (by rw [eh15711]; exact up2_row (kd_ne kd15693 kd900 (by decide)))) (show hp15701 qa15692 = hp15670 qa15692 from (by rw [eh15702]; exact up2_row (kd_ne kd15693 kd15690 (by decide))))))) (mA_eq eq15694 eq15734 (Eq.trans (show hp15715 qa15695 = hp15710 qa15695 from (funext fun i => Fr.at (cq := 85000) F15717 kd15696 (cd_a (by decide)) (by decide))) (Eq.trans (show hp15710 qa15695 = hp15701 qa15695 from (by rw [eh15711]; exact up2_row (kd_ne kd15696 kd900 (by decide)))) (show hp15701 qa15695 = hp15670 qa15695 from (by rw [eh15702]; exact up2_row (kd_ne kd15696 kd15690 (by decide))))))) (by rw [gi_of eq15735, gi_of eq15680]; omega)
                              refine lv_goto (tgt := 12) hx hb dX12_expression_269 (by decide) ?_
                              have eq15736 : hp15715 qa900 19 = .int zi11 := Eq.trans (Fr.at (cq := 13019) F15717 kd900 (cd_o (by decide)) (by decide)) (Eq.trans (up_at eh15711 (Or.inr (by decide))) (Eq.trans (up_at eh15702 (Or.inl (kd_ne kd900 kd15690 (by decide)))) (Eq.trans (Fr.at (cq := 13019) F15672 kd900 (cd_o (by decide)) (by decide)) eq15467)))
                              have pd15737 : LPx hp15715 qa900 := LP_fr ok15671 kd900 (Fr.tr (Fr.put (cq := 13045) (Fr.put (cq := 89000) (Fr.rf) eh15702 kd15690 (cd_a (by decide)) (by decide)) eh15711 kd900 (cd_o (by decide)) (by decide)) F15717 (by decide)) (by decide) xq15676
                              exact ih14026 hp15715 zi15720 zi15727 zi15434 zi15681 zi15705 _ _ ls (by have := toi bc_1; have := hm14028; omega) ok15716 (Fr.tr (Fr.put (cq := 13045) (Fr.put (cq := 89000) (Fr.tr (Fr.tr (Fr.tr (Fr.tr (Fr.tr (Fr.rf) F8554 (by decide)) F14505 (by decide)) F14835 (by decide)) F15427 (by decide)) F15672 (by decide)) eh15702 kd15690 (cd_a (by decide)) (by decide)) eh15711 kd900 (cd_o (by decide)) (by decide)) F15717 (by decide)) (b_wid2 bd15722 (by decide) (by decide)) eq15721 (b_wid2 bd15728 (by decide) (by decide)) eq15726 (b_wid2 bd15447 (by decide) (by decide)) eq15732 (b_wid2 bd15682 (by decide) (by decide)) eq15735 (b_wid2 bd15707 (by decide) (by decide)) eq15731 (by have := toi bc_1; omega) (by have := toi bc_1; omega) (by have := toi bc_1; omega) (by have := toi bc_1; omega) ei15730 pd15737 (lv_sub hl [1, 2, 0] rfl) hw hS
                          · skip
                            subst cn15581
                            obtain ⟨zi15738, eq15739, bd15740⟩ := hc15577 rfl
                            have hx15741 : zi15432 = zi15738 := Value.int.inj (Eq.trans (Eq.symm eq15431) eq15739)
                            subst hx15741
                            have bd15742 : (0 : Int) ≤ zi15432.toInt ∧ zi15432.toInt ≤ 0 := b_meet bd15568 bd15740 (by decide) (by decide)
                            have rh15743 := rh15578 rfl
                            simp only [ge_of eq15453 eq15429 eq15454, toi bc_10] at rh15743
                            have rh15744 := rh15579 rfl
                            simp only [gi_of eq15431] at rh15744
                            refine lv_if_ne (tgt := 229) hx hb dX12_expression_217 (by decide) (fun _ => ?_) (fun c => absurd c (d_ne bc_1 bc_0 (by decide)))
                            refine lv_iconst (v := 1) hx hb dX12_expression_229 (by decide) ?_
                            refine lv_goto (tgt := 234) hx hb dX12_expression_230 (by decide) ?_
                            refine kq_v hw hS hA (va_runV (As := [.int 1]) (rest := []) ⟨hx, hb, hml, hown, hT⟩ (cX12_comesOut_0 l G cy ev K ln Ls hW _ hp15426 ok15428 qa900 1 gc0 kd900 (b_wid2 bc_1 (by decide) (by decide)) (by simp only [gi_of eq15435, gi_of eq15467, gi_of eq15437]; omega) (by simp only [gi_of eq15437]; omega) jx15443 jx15444) (cwV 1 hT (good_V tb_1715 tb_1712 tb_1714 tb_74 tb_122) rfl rfl rfl (by decide +kernel) ⟨Nat.le_of_ble_eq_true rfl, Nat.le_of_ble_eq_true rfl⟩) (pool_preV (ci := 12) hK hE hS hA hw hW kd900 (by decide) rfl) rfl rfl hl.1 rfl (lv_room (Nat.le_of_ble_eq_true rfl)) dX12_expression_234 ⟨Nat.le_of_ble_eq_true rfl, Nat.le_of_ble_eq_true rfl⟩) (fun hp15745 H locs hq15748 hw hS => ?_)
                            obtain ⟨ok15746, F15747, xq15750, xq15751, xq15752, rh15753, rh15754⟩ := hq15748
                            have hw : PW G cy K ln Ls A hp15745 H := hw
                            obtain ⟨zi15756, eq15755, bd15757⟩ := rd_13038 ok15746 kd900
                            obtain ⟨zi15759, eq15758, bd15760⟩ := rd_13045 ok15746 kd900
                            simp only [gi_of eq15435, gi_of eq15437, gi_of eq15755, gi_of eq15758] at rh15753
                            simp only [gi_of eq15437, gi_of eq15758] at rh15754
                            have el15761 := EI_lin xq15750
                            have eq15762 : hp15745 qa900 12 = .int zi15434 := Eq.trans (Fr.at (cq := 13012) F15747 kd900 (cd_o (by decide)) (by decide)) eq15433
                            rw [gi_of eq15758, gi_of eq15762, gi_of eq15755] at el15761
                            obtain ⟨qa15764, eq15763, kd15765⟩ := rd_13044 ok15746 kd900
                            obtain ⟨qa15767, eq15766, kd15768⟩ := rd_13039 ok15746 kd900
                            obtain ⟨qa15770, eq15769, kd15771⟩ := rd_13040 ok15746 kd900
                            have bd15772 : (0 : Int) ≤ zi15759.toInt ∧ zi15759.toInt ≤ 23 := (by omega)
                            refine lv_aload_n hx hb dX12_expression_237 rfl (lv_at hl 1 rfl) ?_
                            refine p_get (ci := 12) (v := .ref qa15764) (C := RX12) (T := TX12) (N := 69) hx hb hT iw_X12 hown hK hw hW kd900 (by decide) rfl rfl 44 (by decide) eq15763 (hT _ tb_1418) (fun _ h9 => h9) dX12_expression_238 ?_
                            refine lv_aload_n hx hb dX12_expression_241 rfl (lv_at hl 1 rfl) ?_
                            refine p_get (ci := 12) (v := .int zi15759) (C := RX12) (T := TX12) (N := 69) hx hb hT iw_X12 hown hK hw hW kd900 (by decide) rfl rfl 45 (by decide) eq15758 (hT _ tb_1419) (fun _ h9 => h9) dX12_expression_242 ?_
                            refine lv_aload_n hx hb dX12_expression_245 rfl (lv_at hl 1 rfl) ?_
                            have eq15773 : hp15745 qa900 5 = .ref qa14816 := Eq.trans (Fr.at (cq := 13005) F15747 kd900 (cd_o (by decide)) (by decide)) eq15453
                            refine p_get (ci := 12) (v := .ref qa14816) (C := RX12) (T := TX12) (N := 69) hx hb hT iw_X12 hown hK hw hW kd900 (by decide) rfl rfl 5 (by decide) eq15773 (hT _ tb_1379) (fun _ h9 => h9) dX12_expression_246 ?_
                            refine lv_aload_n hx hb dX12_expression_249 rfl (lv_at hl 1 rfl) ?_
                            have eq15774 : hp15745 qa900 11 = .int zi15430 := Eq.trans (Fr.at (cq := 13011) F15747 kd900 (cd_o (by decide)) (by decide)) eq15429
                            refine p_get (ci := 12) (v := .int zi15430) (C := RX12) (T := TX12) (N := 69) hx hb hT iw_X12 hown hK hw hW kd900 (by decide) rfl rfl 11 (by decide) eq15774 (hT _ tb_1385) (fun _ h9 => h9) dX12_expression_250 ?_
                            have eq15775 : hp15745 qa14816 (zi15430 : Int32).toNatClampNeg = .int zi15455 := Eq.trans (Fr.at (cq := 62000) F15747 kd14817 (cd_a (by decide)) (by decide)) eq15454
                            refine p_iald (v := zi15455) hx hb hK hw hW kd14817 (by decide) rfl (hW.len kd14817 (n := 403) rfl (by decide)) (vp_b bd15445 (by decide) (by decide)) eq15775 dX12_expression_253 ?_
                            refine p_iast (x := zi15455) hx hb hK hw hS hW kd15765 (by decide) rfl (hW.len kd15765 (n := 64) rfl (by decide)) (vp_b bd15772 (by decide) (by decide)) dX12_expression_254 (fun hp15776 eh15777 H locs hw hS => ?_)
                            have ok15778 := wr_89000 ok15746 kd15765 eh15777
                            refine lv_aload_n hx hb dX12_expression_255 rfl (lv_at hl 1 rfl) ?_
                            refine lv_dup hx hb dX12_expression_256 rfl ?_
                            have eq15779 : hp15776 qa900 45 = .int zi15759 := Eq.trans (up_at eh15777 (Or.inl (kd_ne kd900 kd15765 (by decide)))) eq15758
                            refine p_get (ci := 12) (v := .int zi15759) (C := RX12) (T := TX12) (N := 69) hx hb hT iw_X12 hown hK hw hW kd900 (by decide) rfl rfl 45 (by decide) eq15779 (hT _ tb_1419) (fun _ h9 => h9) dX12_expression_257 ?_
                            refine lv_iconst (v := 1) hx hb dX12_expression_260 (by decide) ?_
                            refine lv_iadd hx hb dX12_expression_261 (lv_topi (fun zi15780 ea15781 => ?_))
                            have bd15782 : (1 : Int) ≤ zi15780.toInt ∧ zi15780.toInt ≤ 24 := b_iadd ea15781 bd15772 bc_1 (by decide) (by decide) (by decide) (by decide)
                            have qe15783 : zi15780.toInt = (zi15759 : Int32).toInt + (1 : Int32).toInt := e_iadd ea15781 bd15772 bc_1 (by decide) (by decide)
                            have qe15784 : zi15780.toInt = zi15759.toInt + 1 := by have ha : (1 : Int32).toInt = 1 := (by decide); rw [ha] at qe15783; exact qe15783
                            refine p_put (ci := 12) (v := .int zi15780) (ty := .int) (C := RX12) (T := TX12) (N := 69) hx hb hT iw_X12 tyX12 tyX12_ok nmX12 hown hK hw hS hW kd900 (by decide) rfl rfl 45 (by decide) (hT _ tb_1419) (fun _ h9 => h9) rfl (by decide +kernel) rfl rfl dX12_expression_262 (fun hp15785 eh15786 H locs hw hS => ?_)
                            have ok15787 := wr_13045 bd15782 (by decide) (by decide) ok15778 kd900 eh15786
                            refine lv_aload_n hx hb dX12_expression_265 rfl (lv_at hl 1 rfl) ?_
                            have eq15788 : hp15785 qa900 13 = .int zi15432 := Eq.trans (up_at eh15786 (Or.inr (by decide))) (Eq.trans (up_at eh15777 (Or.inl (kd_ne kd900 kd15765 (by decide)))) (Eq.trans (Fr.at (cq := 13013) F15747 kd900 (cd_o (by decide)) (by decide)) eq15431))
                            have eq15789 : hp15785 qa900 11 = .int zi15430 := Eq.trans (up_at eh15786 (Or.inr (by decide))) (Eq.trans (up_at eh15777 (Or.inl (kd_ne kd900 kd15765 (by decide)))) eq15774)
                            refine kq_v hw hS hA (va_runV (As := []) (rest := []) ⟨hx, hb, hml, hown, hT⟩ (cX12_goesOn_0 l G cy ev K ln Ls hW _ hp15785 ok15787 qa900 kd900) (cwV 0 hT (good_V tb_1639 tb_1636 tb_1638 tb_56 tb_122) rfl rfl rfl (by decide +kernel) ⟨Nat.le_of_ble_eq_true rfl, Nat.le_of_ble_eq_true rfl⟩) (pool_preV (ci := 12) hK hE hS hA hw hW kd900 (by decide) rfl) rfl rfl hl.1 rfl (lv_room (Nat.le_of_ble_eq_true rfl)) dX12_expression_266 ⟨Nat.le_of_ble_eq_true rfl, Nat.le_of_ble_eq_true rfl⟩) (fun hp15790 H locs hq15793 hw hS => ?_)
                            obtain ⟨ok15791, F15792, ⟨zi15795, eq15796, bd15797⟩, rh15798, rh15799, rh15800⟩ := hq15793
                            have hw : PW G cy K ln Ls A hp15790 H := hw
                            obtain ⟨zi15802, eq15801, bd15803⟩ := rd_13013 ok15791 kd900
                            simp only [gi_of eq15788, gi_of eq15789, gi_of eq15796, gi_of eq15801] at rh15798
                            simp only [gi_of eq15788, gi_of eq15801] at rh15799
                            simp only [gi_of eq15789, gi_of eq15796, gi_of eq15801] at rh15800
                            have eq15804 : hp15790 qa900 44 = .ref qa15764 := Eq.trans (Fr.at (cq := 13044) F15792 kd900 (cd_o (by decide)) (by decide)) (Eq.trans (up_at eh15786 (Or.inr (by decide))) (Eq.trans (up_at eh15777 (Or.inl (kd_ne kd900 kd15765 (by decide)))) eq15763))
                            have eq15806 : hp15790 qa900 45 = .int zi15780 := Eq.trans (Fr.at (cq := 13045) F15792 kd900 (cd_o (by decide)) (by decide)) (hp_self eh15786)
                            have eq15807 : hp15790 qa900 12 = .int zi15434 := Eq.trans (Fr.at (cq := 13012) F15792 kd900 (cd_o (by decide)) (by decide)) (Eq.trans (up_at eh15786 (Or.inr (by decide))) (Eq.trans (up_at eh15777 (Or.inl (kd_ne kd900 kd15765 (by decide)))) eq15762))
                            have eq15808 : hp15790 qa900 39 = .ref qa15767 := Eq.trans (Fr.at (cq := 13039) F15792 kd900 (cd_o (by decide)) (by decide)) (Eq.trans (up_at eh15786 (Or.inr (by decide))) (Eq.trans (up_at eh15777 (Or.inl (kd_ne kd900 kd15765 (by decide)))) eq15766))
                            have eq15809 : hp15790 qa900 40 = .ref qa15770 := Eq.trans (Fr.at (cq := 13040) F15792 kd900 (cd_o (by decide)) (by decide)) (Eq.trans (up_at eh15786 (Or.inr (by decide))) (Eq.trans (up_at eh15777 (Or.inl (kd_ne kd900 kd15765 (by decide)))) eq15769))
                            have eq15810 : hp15790 qa900 38 = .int zi15756 := Eq.trans (Fr.at (cq := 13038) F15792 kd900 (cd_o (by decide)) (by decide)) (Eq.trans (up_at eh15786 (Or.inr (by decide))) (Eq.trans (up_at eh15777 (Or.inl (kd_ne kd900 kd15765 (by decide)))) eq15755))
                            have ei15805 : EIx hp15790 qa900 gc0 0 := EI_opr (i := (zi15759 : Int32).toNatClampNeg) (k := zi15455.toInt) xq15750 (CO_opr xq15752 (by have := toi bc_1; omega)) (mA_up eq15763 eq15804 rfl eh15777 (Eq.trans (show hp15790 qa15764 = hp15785 qa15764 from (funext fun i => Fr.at (cq := 89000) F15792 kd15765 (cd_a (by decide)) (by decide))) (show hp15785 qa15764 = hp15776 qa15764 from (by rw [eh15786]; exact up2_row (kd_ne kd15765 kd900 (by decide)))))) (by rw [gi_of eq15758]; have := clampN (x := zi15759) (by omega); omega) (by rw [gi_of eq15806, gi_of eq15758]; omega) (by rw [gi_of eq15807, gi_of eq15762]; omega) (mA_eq eq15766 eq15808 (Eq.trans (show hp15790 qa15767 = hp15785 qa15767 from (funext fun i => Fr.at (cq := 84000) F15792 kd15768 (cd_a (by decide)) (by decide))) (Eq.trans (show hp15785 qa15767 = hp15776 qa15767 from (by rw [eh15786]; exact up2_row (kd_ne kd15768 kd900 (by decide)))) (show hp15776 qa15767 = hp15745 qa15767 from (by rw [eh15777]; exact up2_row (kd_ne kd15768 kd15765 (by decide))))))) (mA_eq eq15769 eq15809 (Eq.trans (show hp15790 qa15770 = hp15785 qa15770 from (funext fun i => Fr.at (cq := 85000) F15792 kd15771 (cd_a (by decide)) (by decide))) (Eq.trans (show hp15785 qa15770 = hp15776 qa15770 from (by rw [eh15786]; exact up2_row (kd_ne kd15771 kd900 (by decide)))) (show hp15776 qa15770 = hp15745 qa15770 from (by rw [eh15777]; exact up2_row (kd_ne kd15771 kd15765 (by decide))))))) (by rw [gi_of eq15810, gi_of eq15755]; omega)
                            refine lv_goto (tgt := 12) hx hb dX12_expression_269 (by decide) ?_
                            have eq15811 : hp15790 qa900 19 = .int zi11 := Eq.trans (Fr.at (cq := 13019) F15792 kd900 (cd_o (by decide)) (by decide)) (Eq.trans (up_at eh15786 (Or.inr (by decide))) (Eq.trans (up_at eh15777 (Or.inl (kd_ne kd900 kd15765 (by decide)))) (Eq.trans (Fr.at (cq := 13019) F15747 kd900 (cd_o (by decide)) (by decide)) eq15467)))
                            have pd15812 : LPx hp15790 qa900 := LP_fr ok15746 kd900 (Fr.tr (Fr.put (cq := 13045) (Fr.put (cq := 89000) (Fr.rf) eh15777 kd15765 (cd_a (by decide)) (by decide)) eh15786 kd900 (cd_o (by decide)) (by decide)) F15792 (by decide)) (by decide) xq15751
                            exact ih14026 hp15790 zi15795 zi15802 zi15434 zi15756 zi15780 _ _ ls (by have := toi bc_1; have := hm14028; omega) ok15791 (Fr.tr (Fr.put (cq := 13045) (Fr.put (cq := 89000) (Fr.tr (Fr.tr (Fr.tr (Fr.tr (Fr.tr (Fr.rf) F8554 (by decide)) F14505 (by decide)) F14835 (by decide)) F15427 (by decide)) F15747 (by decide)) eh15777 kd15765 (cd_a (by decide)) (by decide)) eh15786 kd900 (cd_o (by decide)) (by decide)) F15792 (by decide)) (b_wid2 bd15797 (by decide) (by decide)) eq15796 (b_wid2 bd15803 (by decide) (by decide)) eq15801 (b_wid2 bd15447 (by decide) (by decide)) eq15807 (b_wid2 bd15757 (by decide) (by decide)) eq15810 (b_wid2 bd15782 (by decide) (by decide)) eq15806 (by have := toi bc_1; omega) (by have := toi bc_1; omega) (by have := toi bc_1; omega) (by have := toi bc_1; omega) ei15805 pd15812 (lv_sub hl [1, 2, 0] rfl) hw hS
                      · skip
                        subst cn15491
                        obtain ⟨zi15813, eq15814, bd15815⟩ := hc15487 rfl
                        have hx15816 : zi15432 = zi15813 := Value.int.inj (Eq.trans (Eq.symm eq15431) eq15814)
                        subst hx15816
                        have bd15817 : (0 : Int) ≤ zi15432.toInt ∧ zi15432.toInt ≤ 0 := b_meet bd15446 bd15815 (by decide) (by decide)
                        have rh15818 := rh15488 rfl
                        simp only [ge_of eq15453 eq15429 eq15454, toi bc_10] at rh15818
                        have rh15819 := rh15489 rfl
                        simp only [gi_of eq15431] at rh15819
                        refine lv_if_ne (tgt := 181) hx hb dX12_expression_169 (by decide) (fun _ => ?_) (fun c => absurd c (d_ne bc_1 bc_0 (by decide)))
                        refine lv_iconst (v := 1) hx hb dX12_expression_181 (by decide) ?_
                        refine lv_goto (tgt := 186) hx hb dX12_expression_182 (by decide) ?_
                        refine lv_istore_n (lv' := [(2, .int 1), (0, .ref qa900), (1, .int zi8)]) hx hb dX12_expression_186 rfl hl (by decide) rfl (fun ls hl => ?_)
                        refine lv_iload_n hx hb dX12_expression_187 rfl (lv_at hl 0 rfl) ?_
                        refine lv_if_ne (tgt := 210) hx hb dX12_expression_188 (by decide) (fun _ => ?_) (fun c => absurd c (d_ne bc_1 bc_0 (by decide)))
                        refine lv_aload_n hx hb dX12_expression_210 rfl (lv_at hl 1 rfl) ?_
                        refine lv_aload_n hx hb dX12_expression_211 rfl (lv_at hl 1 rfl) ?_
                        refine lv_bipush (v := 10) hx hb dX12_expression_212 (by decide) ?_
                        refine kq_i hw hS hA (va_runV (As := [.int 10]) (rest := [.ref qa900]) ⟨hx, hb, hml, hown, hT⟩ (cX12_is_0 l G cy ev K ln Ls hW _ hp15426 ok15428 qa900 10 kd900) (cwV 1 hT (good_V tb_1623 tb_1620 tb_1622 tb_52 tb_122) rfl rfl rfl (by decide +kernel) ⟨Nat.le_of_ble_eq_true rfl, Nat.le_of_ble_eq_true rfl⟩) (pool_preV (ci := 12) hK hE hS hA hw hW kd900 (by decide) rfl) rfl rfl hl.1 rfl (lv_room (Nat.le_of_ble_eq_true rfl)) dX12_expression_214 ⟨Nat.le_of_ble_eq_true rfl, Nat.le_of_ble_eq_true rfl⟩) (fun zi15824 hp15820 H locs hq15823 hw hS => ?_)
                        obtain ⟨ok15821, F15822, bd15825, hc15826, rh15827, rh15828, rh15829⟩ := hq15823
                        obtain rfl : hp15426 = hp15820 := (Fr.nil F15822).symm
                        have hw : PW G cy K ln Ls A hp15426 H := hw
                        rcases b01 bd15825 with cn15830 | cn15830
                        · skip
                          subst cn15830
                          have rh15831 := rh15829 rfl
                          simp only [ge_of eq15453 eq15429 eq15454, gi_of eq15431, toi bc_10] at rh15831
                          refine lv_if_ne (tgt := 229) hx hb dX12_expression_217 (by decide) (fun c => absurd (d_eq bc_0 bc_0) c) (fun _ => ?_)
                          refine lv_aload_n hx hb dX12_expression_220 rfl (lv_at hl 1 rfl) ?_
                          refine lv_bipush (v := 15) hx hb dX12_expression_221 (by decide) ?_
                          refine kq_i hw hS hA (va_runV (As := [.int 15]) (rest := [.ref qa900]) ⟨hx, hb, hml, hown, hT⟩ (cX12_is_0 l G cy ev K ln Ls hW _ hp15426 ok15428 qa900 15 kd900) (cwV 1 hT (good_V tb_1623 tb_1620 tb_1622 tb_52 tb_122) rfl rfl rfl (by decide +kernel) ⟨Nat.le_of_ble_eq_true rfl, Nat.le_of_ble_eq_true rfl⟩) (pool_preV (ci := 12) hK hE hS hA hw hW kd900 (by decide) rfl) rfl rfl hl.1 rfl (lv_room (Nat.le_of_ble_eq_true rfl)) dX12_expression_223 ⟨Nat.le_of_ble_eq_true rfl, Nat.le_of_ble_eq_true rfl⟩) (fun zi15836 hp15832 H locs hq15835 hw hS => ?_)
                          obtain ⟨ok15833, F15834, bd15837, hc15838, rh15839, rh15840, rh15841⟩ := hq15835
                          obtain rfl : hp15426 = hp15832 := (Fr.nil F15834).symm
                          have hw : PW G cy K ln Ls A hp15426 H := hw
                          rcases b01 bd15837 with cn15842 | cn15842
                          · skip
                            subst cn15842
                            have rh15843 := rh15841 rfl
                            simp only [ge_of eq15453 eq15429 eq15454, gi_of eq15431, toi bc_15] at rh15843
                            refine lv_if_eq (tgt := 233) hx hb dX12_expression_226 (by decide) (fun _ => ?_) (fun c => absurd (d_eq bc_0 bc_0) c)
                            refine lv_iconst (v := 0) hx hb dX12_expression_233 (by decide) ?_
                            refine kq_v hw hS hA (va_runV (As := [.int 0]) (rest := []) ⟨hx, hb, hml, hown, hT⟩ (cX12_comesOut_0 l G cy ev K ln Ls hW _ hp15426 ok15428 qa900 0 gc0 kd900 (b_wid2 bc_0 (by decide) (by decide)) (by simp only [gi_of eq15435, gi_of eq15467, gi_of eq15437]; omega) (by simp only [gi_of eq15437]; omega) jx15443 jx15444) (cwV 1 hT (good_V tb_1715 tb_1712 tb_1714 tb_74 tb_122) rfl rfl rfl (by decide +kernel) ⟨Nat.le_of_ble_eq_true rfl, Nat.le_of_ble_eq_true rfl⟩) (pool_preV (ci := 12) hK hE hS hA hw hW kd900 (by decide) rfl) rfl rfl hl.1 rfl (lv_room (Nat.le_of_ble_eq_true rfl)) dX12_expression_234 ⟨Nat.le_of_ble_eq_true rfl, Nat.le_of_ble_eq_true rfl⟩) (fun hp15844 H locs hq15847 hw hS => ?_)
                            obtain ⟨ok15845, F15846, xq15849, xq15850, xq15851, rh15852, rh15853⟩ := hq15847
                            have hw : PW G cy K ln Ls A hp15844 H := hw
                            obtain ⟨zi15855, eq15854, bd15856⟩ := rd_13038 ok15845 kd900
                            obtain ⟨zi15858, eq15857, bd15859⟩ := rd_13045 ok15845 kd900
                            simp only [gi_of eq15435, gi_of eq15437, gi_of eq15854, gi_of eq15857] at rh15852
                            simp only [gi_of eq15437, gi_of eq15857] at rh15853
                            have el15860 := EI_lin xq15849
                            have eq15861 : hp15844 qa900 12 = .int zi15434 := Eq.trans (Fr.at (cq := 13012) F15846 kd900 (cd_o (by decide)) (by decide)) eq15433
                            rw [gi_of eq15857, gi_of eq15861, gi_of eq15854] at el15860
                            obtain ⟨qa15863, eq15862, kd15864⟩ := rd_13044 ok15845 kd900
                            obtain ⟨qa15866, eq15865, kd15867⟩ := rd_13039 ok15845 kd900
                            obtain ⟨qa15869, eq15868, kd15870⟩ := rd_13040 ok15845 kd900
                            have bd15871 : (0 : Int) ≤ zi15858.toInt ∧ zi15858.toInt ≤ 23 := (by omega)
                            refine lv_aload_n hx hb dX12_expression_237 rfl (lv_at hl 1 rfl) ?_
                            refine p_get (ci := 12) (v := .ref qa15863) (C := RX12) (T := TX12) (N := 69) hx hb hT iw_X12 hown hK hw hW kd900 (by decide) rfl rfl 44 (by decide) eq15862 (hT _ tb_1418) (fun _ h9 => h9) dX12_expression_238 ?_
                            refine lv_aload_n hx hb dX12_expression_241 rfl (lv_at hl 1 rfl) ?_
                            refine p_get (ci := 12) (v := .int zi15858) (C := RX12) (T := TX12) (N := 69) hx hb hT iw_X12 hown hK hw hW kd900 (by decide) rfl rfl 45 (by decide) eq15857 (hT _ tb_1419) (fun _ h9 => h9) dX12_expression_242 ?_
                            refine lv_aload_n hx hb dX12_expression_245 rfl (lv_at hl 1 rfl) ?_
                            have eq15872 : hp15844 qa900 5 = .ref qa14816 := Eq.trans (Fr.at (cq := 13005) F15846 kd900 (cd_o (by decide)) (by decide)) eq15453
                            refine p_get (ci := 12) (v := .ref qa14816) (C := RX12) (T := TX12) (N := 69) hx hb hT iw_X12 hown hK hw hW kd900 (by decide) rfl rfl 5 (by decide) eq15872 (hT _ tb_1379) (fun _ h9 => h9) dX12_expression_246 ?_
                            refine lv_aload_n hx hb dX12_expression_249 rfl (lv_at hl 1 rfl) ?_
                            have eq15873 : hp15844 qa900 11 = .int zi15430 := Eq.trans (Fr.at (cq := 13011) F15846 kd900 (cd_o (by decide)) (by decide)) eq15429
                            refine p_get (ci := 12) (v := .int zi15430) (C := RX12) (T := TX12) (N := 69) hx hb hT iw_X12 hown hK hw hW kd900 (by decide) rfl rfl 11 (by decide) eq15873 (hT _ tb_1385) (fun _ h9 => h9) dX12_expression_250 ?_
                            have eq15874 : hp15844 qa14816 (zi15430 : Int32).toNatClampNeg = .int zi15455 := Eq.trans (Fr.at (cq := 62000) F15846 kd14817 (cd_a (by decide)) (by decide)) eq15454
                            refine p_iald (v := zi15455) hx hb hK hw hW kd14817 (by decide) rfl (hW.len kd14817 (n := 403) rfl (by decide)) (vp_b bd15445 (by decide) (by decide)) eq15874 dX12_expression_253 ?_
                            refine p_iast (x := zi15455) hx hb hK hw hS hW kd15864 (by decide) rfl (hW.len kd15864 (n := 64) rfl (by decide)) (vp_b bd15871 (by decide) (by decide)) dX12_expression_254 (fun hp15875 eh15876 H locs hw hS => ?_)
                            have ok15877 := wr_89000 ok15845 kd15864 eh15876
                            refine lv_aload_n hx hb dX12_expression_255 rfl (lv_at hl 1 rfl) ?_
                            refine lv_dup hx hb dX12_expression_256 rfl ?_
                            have eq15878 : hp15875 qa900 45 = .int zi15858 := Eq.trans (up_at eh15876 (Or.inl (kd_ne kd900 kd15864 (by decide)))) eq15857
                            refine p_get (ci := 12) (v := .int zi15858) (C := RX12) (T := TX12) (N := 69) hx hb hT iw_X12 hown hK hw hW kd900 (by decide) rfl rfl 45 (by decide) eq15878 (hT _ tb_1419) (fun _ h9 => h9) dX12_expression_257 ?_
                            refine lv_iconst (v := 1) hx hb dX12_expression_260 (by decide) ?_
                            refine lv_iadd hx hb dX12_expression_261 (lv_topi (fun zi15879 ea15880 => ?_))
                            have bd15881 : (1 : Int) ≤ zi15879.toInt ∧ zi15879.toInt ≤ 24 := b_iadd ea15880 bd15871 bc_1 (by decide) (by decide) (by decide) (by decide)
                            have qe15882 : zi15879.toInt = (zi15858 : Int32).toInt + (1 : Int32).toInt := e_iadd ea15880 bd15871 bc_1 (by decide) (by decide)
                            have qe15883 : zi15879.toInt = zi15858.toInt + 1 := by have ha : (1 : Int32).toInt = 1 := (by decide); rw [ha] at qe15882; exact qe15882
                            refine p_put (ci := 12) (v := .int zi15879) (ty := .int) (C := RX12) (T := TX12) (N := 69) hx hb hT iw_X12 tyX12 tyX12_ok nmX12 hown hK hw hS hW kd900 (by decide) rfl rfl 45 (by decide) (hT _ tb_1419) (fun _ h9 => h9) rfl (by decide +kernel) rfl rfl dX12_expression_262 (fun hp15884 eh15885 H locs hw hS => ?_)
                            have ok15886 := wr_13045 bd15881 (by decide) (by decide) ok15877 kd900 eh15885
                            refine lv_aload_n hx hb dX12_expression_265 rfl (lv_at hl 1 rfl) ?_
                            have eq15887 : hp15884 qa900 13 = .int zi15432 := Eq.trans (up_at eh15885 (Or.inr (by decide))) (Eq.trans (up_at eh15876 (Or.inl (kd_ne kd900 kd15864 (by decide)))) (Eq.trans (Fr.at (cq := 13013) F15846 kd900 (cd_o (by decide)) (by decide)) eq15431))
                            have eq15888 : hp15884 qa900 11 = .int zi15430 := Eq.trans (up_at eh15885 (Or.inr (by decide))) (Eq.trans (up_at eh15876 (Or.inl (kd_ne kd900 kd15864 (by decide)))) eq15873)
                            refine kq_v hw hS hA (va_runV (As := []) (rest := []) ⟨hx, hb, hml, hown, hT⟩ (cX12_goesOn_0 l G cy ev K ln Ls hW _ hp15884 ok15886 qa900 kd900) (cwV 0 hT (good_V tb_1639 tb_1636 tb_1638 tb_56 tb_122) rfl rfl rfl (by decide +kernel) ⟨Nat.le_of_ble_eq_true rfl, Nat.le_of_ble_eq_true rfl⟩) (pool_preV (ci := 12) hK hE hS hA hw hW kd900 (by decide) rfl) rfl rfl hl.1 rfl (lv_room (Nat.le_of_ble_eq_true rfl)) dX12_expression_266 ⟨Nat.le_of_ble_eq_true rfl, Nat.le_of_ble_eq_true rfl⟩) (fun hp15889 H locs hq15892 hw hS => ?_)
                            obtain ⟨ok15890, F15891, ⟨zi15894, eq15895, bd15896⟩, rh15897, rh15898, rh15899⟩ := hq15892
                            have hw : PW G cy K ln Ls A hp15889 H := hw
                            obtain ⟨zi15901, eq15900, bd15902⟩ := rd_13013 ok15890 kd900
                            simp only [gi_of eq15887, gi_of eq15888, gi_of eq15895, gi_of eq15900] at rh15897
                            simp only [gi_of eq15887, gi_of eq15900] at rh15898
                            simp only [gi_of eq15888, gi_of eq15895, gi_of eq15900] at rh15899
                            have eq15903 : hp15889 qa900 44 = .ref qa15863 := Eq.trans (Fr.at (cq := 13044) F15891 kd900 (cd_o (by decide)) (by decide)) (Eq.trans (up_at eh15885 (Or.inr (by decide))) (Eq.trans (up_at eh15876 (Or.inl (kd_ne kd900 kd15864 (by decide)))) eq15862))
                            have eq15905 : hp15889 qa900 45 = .int zi15879 := Eq.trans (Fr.at (cq := 13045) F15891 kd900 (cd_o (by decide)) (by decide)) (hp_self eh15885)
                            have eq15906 : hp15889 qa900 12 = .int zi15434 := Eq.trans (Fr.at (cq := 13012) F15891 kd900 (cd_o (by decide)) (by decide)) (Eq.trans (up_at eh15885 (Or.inr (by decide))) (Eq.trans (up_at eh15876 (Or.inl (kd_ne kd900 kd15864 (by decide)))) eq15861))
                            have eq15907 : hp15889 qa900 39 = .ref qa15866 := Eq.trans (Fr.at (cq := 13039) F15891 kd900 (cd_o (by decide)) (by decide)) (Eq.trans (up_at eh15885 (Or.inr (by decide))) (Eq.trans (up_at eh15876 (Or.inl (kd_ne kd900 kd15864 (by decide)))) eq15865))
                            have eq15908 : hp15889 qa900 40 = .ref qa15869 := Eq.trans (Fr.at (cq := 13040) F15891 kd900 (cd_o (by decide)) (by decide)) (Eq.trans (up_at eh15885 (Or.inr (by decide))) (Eq.trans (up_at eh15876 (Or.inl (kd_ne kd900 kd15864 (by decide)))) eq15868))
                            have eq15909 : hp15889 qa900 38 = .int zi15855 := Eq.trans (Fr.at (cq := 13038) F15891 kd900 (cd_o (by decide)) (by decide)) (Eq.trans (up_at eh15885 (Or.inr (by decide))) (Eq.trans (up_at eh15876 (Or.inl (kd_ne kd900 kd15864 (by decide)))) eq15854))
                            have ei15904 : EIx hp15889 qa900 gc0 0 := EI_opr (i := (zi15858 : Int32).toNatClampNeg) (k := zi15455.toInt) xq15849 (CO_opr xq15851 (by have := toi bc_0; omega)) (mA_up eq15862 eq15903 rfl eh15876 (Eq.trans (show hp15889 qa15863 = hp15884 qa15863 from (funext fun i => Fr.at (cq := 89000) F15891 kd15864 (cd_a (by decide)) (by decide))) (show hp15884 qa15863 = hp15875 qa15863 from (by rw [eh15885]; exact up2_row (kd_ne kd15864 kd900 (by decide)))))) (by rw [gi_of eq15857]; have := clampN (x := zi15858) (by omega); omega) (by rw [gi_of eq15905, gi_of eq15857]; omega) (by rw [gi_of eq15906, gi_of eq15861]; omega) (mA_eq eq15865 eq15907 (Eq.trans (show hp15889 qa15866 = hp15884 qa15866 from (funext fun i => Fr.at (cq := 84000) F15891 kd15867 (cd_a (by decide)) (by decide))) (Eq.trans (show hp15884 qa15866 = hp15875 qa15866 from (by rw [eh15885]; exact up2_row (kd_ne kd15867 kd900 (by decide)))) (show hp15875 qa15866 = hp15844 qa15866 from (by rw [eh15876]; exact up2_row (kd_ne kd15867 kd15864 (by decide))))))) (mA_eq eq15868 eq15908 (Eq.trans (show hp15889 qa15869 = hp15884 qa15869 from (funext fun i => Fr.at (cq := 85000) F15891 kd15870 (cd_a (by decide)) (by decide))) (Eq.trans (show hp15884 qa15869 = hp15875 qa15869 from (by rw [eh15885]; exact up2_row (kd_ne kd15870 kd900 (by decide)))) (show hp15875 qa15869 = hp15844 qa15869 from (by rw [eh15876]; exact up2_row (kd_ne kd15870 kd15864 (by decide))))))) (by rw [gi_of eq15909, gi_of eq15854]; omega)
                            refine lv_goto (tgt := 12) hx hb dX12_expression_269 (by decide) ?_
                            have eq15910 : hp15889 qa900 19 = .int zi11 := Eq.trans (Fr.at (cq := 13019) F15891 kd900 (cd_o (by decide)) (by decide)) (Eq.trans (up_at eh15885 (Or.inr (by decide))) (Eq.trans (up_at eh15876 (Or.inl (kd_ne kd900 kd15864 (by decide)))) (Eq.trans (Fr.at (cq := 13019) F15846 kd900 (cd_o (by decide)) (by decide)) eq15467)))
                            have pd15911 : LPx hp15889 qa900 := LP_fr ok15845 kd900 (Fr.tr (Fr.put (cq := 13045) (Fr.put (cq := 89000) (Fr.rf) eh15876 kd15864 (cd_a (by decide)) (by decide)) eh15885 kd900 (cd_o (by decide)) (by decide)) F15891 (by decide)) (by decide) xq15850
                            exact ih14026 hp15889 zi15894 zi15901 zi15434 zi15855 zi15879 _ _ ls (by have := toi bc_1; have := hm14028; omega) ok15890 (Fr.tr (Fr.put (cq := 13045) (Fr.put (cq := 89000) (Fr.tr (Fr.tr (Fr.tr (Fr.tr (Fr.tr (Fr.rf) F8554 (by decide)) F14505 (by decide)) F14835 (by decide)) F15427 (by decide)) F15846 (by decide)) eh15876 kd15864 (cd_a (by decide)) (by decide)) eh15885 kd900 (cd_o (by decide)) (by decide)) F15891 (by decide)) (b_wid2 bd15896 (by decide) (by decide)) eq15895 (b_wid2 bd15902 (by decide) (by decide)) eq15900 (b_wid2 bd15447 (by decide) (by decide)) eq15906 (b_wid2 bd15856 (by decide) (by decide)) eq15909 (b_wid2 bd15881 (by decide) (by decide)) eq15905 (by have := toi bc_1; omega) (by have := toi bc_1; omega) (by have := toi bc_1; omega) (by have := toi bc_1; omega) ei15904 pd15911 (lv_sub hl [1, 2, 0] rfl) hw hS
                          · skip
                            subst cn15842
                            obtain ⟨zi15912, eq15913, bd15914⟩ := hc15838 rfl
                            have hx15915 : zi15432 = zi15912 := Value.int.inj (Eq.trans (Eq.symm eq15431) eq15913)
                            subst hx15915
                            have bd15916 : (0 : Int) ≤ zi15432.toInt ∧ zi15432.toInt ≤ 0 := b_meet bd15817 bd15914 (by decide) (by decide)
                            have rh15917 := rh15839 rfl
                            simp only [ge_of eq15453 eq15429 eq15454, toi bc_15] at rh15917
                            have rh15918 := rh15840 rfl
                            simp only [gi_of eq15431] at rh15918
                            refine lv_if_eq (tgt := 233) hx hb dX12_expression_226 (by decide) (fun c => absurd c (d_ne bc_1 bc_0 (by decide))) (fun _ => ?_)
                            refine lv_iconst (v := 1) hx hb dX12_expression_229 (by decide) ?_
                            refine lv_goto (tgt := 234) hx hb dX12_expression_230 (by decide) ?_
                            refine kq_v hw hS hA (va_runV (As := [.int 1]) (rest := []) ⟨hx, hb, hml, hown, hT⟩ (cX12_comesOut_0 l G cy ev K ln Ls hW _ hp15426 ok15428 qa900 1 gc0 kd900 (b_wid2 bc_1 (by decide) (by decide)) (by simp only [gi_of eq15435, gi_of eq15467, gi_of eq15437]; omega) (by simp only [gi_of eq15437]; omega) jx15443 jx15444) (cwV 1 hT (good_V tb_1715 tb_1712 tb_1714 tb_74 tb_122) rfl rfl rfl (by decide +kernel) ⟨Nat.le_of_ble_eq_true rfl, Nat.le_of_ble_eq_true rfl⟩) (pool_preV (ci := 12) hK hE hS hA hw hW kd900 (by decide) rfl) rfl rfl hl.1 rfl (lv_room (Nat.le_of_ble_eq_true rfl)) dX12_expression_234 ⟨Nat.le_of_ble_eq_true rfl, Nat.le_of_ble_eq_true rfl⟩) (fun hp15919 H locs hq15922 hw hS => ?_)
                            obtain ⟨ok15920, F15921, xq15924, xq15925, xq15926, rh15927, rh15928⟩ := hq15922
                            have hw : PW G cy K ln Ls A hp15919 H := hw
                            obtain ⟨zi15930, eq15929, bd15931⟩ := rd_13038 ok15920 kd900
                            obtain ⟨zi15933, eq15932, bd15934⟩ := rd_13045 ok15920 kd900
                            simp only [gi_of eq15435, gi_of eq15437, gi_of eq15929, gi_of eq15932] at rh15927
                            simp only [gi_of eq15437, gi_of eq15932] at rh15928
                            have el15935 := EI_lin xq15924
                            have eq15936 : hp15919 qa900 12 = .int zi15434 := Eq.trans (Fr.at (cq := 13012) F15921 kd900 (cd_o (by decide)) (by decide)) eq15433
                            rw [gi_of eq15932, gi_of eq15936, gi_of eq15929] at el15935
                            obtain ⟨qa15938, eq15937, kd15939⟩ := rd_13044 ok15920 kd900
                            obtain ⟨qa15941, eq15940, kd15942⟩ := rd_13039 ok15920 kd900
                            obtain ⟨qa15944, eq15943, kd15945⟩ := rd_13040 ok15920 kd900
                            have bd15946 : (0 : Int) ≤ zi15933.toInt ∧ zi15933.toInt ≤ 23 := (by omega)
                            refine lv_aload_n hx hb dX12_expression_237 rfl (lv_at hl 1 rfl) ?_
                            refine p_get (ci := 12) (v := .ref qa15938) (C := RX12) (T := TX12) (N := 69) hx hb hT iw_X12 hown hK hw hW kd900 (by decide) rfl rfl 44 (by decide) eq15937 (hT _ tb_1418) (fun _ h9 => h9) dX12_expression_238 ?_
                            refine lv_aload_n hx hb dX12_expression_241 rfl (lv_at hl 1 rfl) ?_
                            refine p_get (ci := 12) (v := .int zi15933) (C := RX12) (T := TX12) (N := 69) hx hb hT iw_X12 hown hK hw hW kd900 (by decide) rfl rfl 45 (by decide) eq15932 (hT _ tb_1419) (fun _ h9 => h9) dX12_expression_242 ?_
                            refine lv_aload_n hx hb dX12_expression_245 rfl (lv_at hl 1 rfl) ?_
                            have eq15947 : hp15919 qa900 5 = .ref qa14816 := Eq.trans (Fr.at (cq := 13005) F15921 kd900 (cd_o (by decide)) (by decide)) eq15453
                            refine p_get (ci := 12) (v := .ref qa14816) (C := RX12) (T := TX12) (N := 69) hx hb hT iw_X12 hown hK hw hW kd900 (by decide) rfl rfl 5 (by decide) eq15947 (hT _ tb_1379) (fun _ h9 => h9) dX12_expression_246 ?_
                            refine lv_aload_n hx hb dX12_expression_249 rfl (lv_at hl 1 rfl) ?_
                            have eq15948 : hp15919 qa900 11 = .int zi15430 := Eq.trans (Fr.at (cq := 13011) F15921 kd900 (cd_o (by decide)) (by decide)) eq15429
                            refine p_get (ci := 12) (v := .int zi15430) (C := RX12) (T := TX12) (N := 69) hx hb hT iw_X12 hown hK hw hW kd900 (by decide) rfl rfl 11 (by decide) eq15948 (hT _ tb_1385) (fun _ h9 => h9) dX12_expression_250 ?_
                            have eq15949 : hp15919 qa14816 (zi15430 : Int32).toNatClampNeg = .int zi15455 := Eq.trans (Fr.at (cq := 62000) F15921 kd14817 (cd_a (by decide)) (by decide)) eq15454
                            refine p_iald (v := zi15455) hx hb hK hw hW kd14817 (by decide) rfl (hW.len kd14817 (n := 403) rfl (by decide)) (vp_b bd15445 (by decide) (by decide)) eq15949 dX12_expression_253 ?_
                            refine p_iast (x := zi15455) hx hb hK hw hS hW kd15939 (by decide) rfl (hW.len kd15939 (n := 64) rfl (by decide)) (vp_b bd15946 (by decide) (by decide)) dX12_expression_254 (fun hp15950 eh15951 H locs hw hS => ?_)
                            have ok15952 := wr_89000 ok15920 kd15939 eh15951
                            refine lv_aload_n hx hb dX12_expression_255 rfl (lv_at hl 1 rfl) ?_
                            refine lv_dup hx hb dX12_expression_256 rfl ?_
                            have eq15953 : hp15950 qa900 45 = .int zi15933 := Eq.trans (up_at eh15951 (Or.inl (kd_ne kd900 kd15939 (by decide)))) eq15932
                            refine p_get (ci := 12) (v := .int zi15933) (C := RX12) (T := TX12) (N := 69) hx hb hT iw_X12 hown hK hw hW kd900 (by decide) rfl rfl 45 (by decide) eq15953 (hT _ tb_1419) (fun _ h9 => h9) dX12_expression_257 ?_
                            refine lv_iconst (v := 1) hx hb dX12_expression_260 (by decide) ?_
                            refine lv_iadd hx hb dX12_expression_261 (lv_topi (fun zi15954 ea15955 => ?_))
                            have bd15956 : (1 : Int) ≤ zi15954.toInt ∧ zi15954.toInt ≤ 24 := b_iadd ea15955 bd15946 bc_1 (by decide) (by decide) (by decide) (by decide)
                            have qe15957 : zi15954.toInt = (zi15933 : Int32).toInt + (1 : Int32).toInt := e_iadd ea15955 bd15946 bc_1 (by decide) (by decide)
                            have qe15958 : zi15954.toInt = zi15933.toInt + 1 := by have ha : (1 : Int32).toInt = 1 := (by decide); rw [ha] at qe15957; exact qe15957
                            refine p_put (ci := 12) (v := .int zi15954) (ty := .int) (C := RX12) (T := TX12) (N := 69) hx hb hT iw_X12 tyX12 tyX12_ok nmX12 hown hK hw hS hW kd900 (by decide) rfl rfl 45 (by decide) (hT _ tb_1419) (fun _ h9 => h9) rfl (by decide +kernel) rfl rfl dX12_expression_262 (fun hp15959 eh15960 H locs hw hS => ?_)
                            have ok15961 := wr_13045 bd15956 (by decide) (by decide) ok15952 kd900 eh15960
                            refine lv_aload_n hx hb dX12_expression_265 rfl (lv_at hl 1 rfl) ?_
                            have eq15962 : hp15959 qa900 13 = .int zi15432 := Eq.trans (up_at eh15960 (Or.inr (by decide))) (Eq.trans (up_at eh15951 (Or.inl (kd_ne kd900 kd15939 (by decide)))) (Eq.trans (Fr.at (cq := 13013) F15921 kd900 (cd_o (by decide)) (by decide)) eq15431))
                            have eq15963 : hp15959 qa900 11 = .int zi15430 := Eq.trans (up_at eh15960 (Or.inr (by decide))) (Eq.trans (up_at eh15951 (Or.inl (kd_ne kd900 kd15939 (by decide)))) eq15948)
                            refine kq_v hw hS hA (va_runV (As := []) (rest := []) ⟨hx, hb, hml, hown, hT⟩ (cX12_goesOn_0 l G cy ev K ln Ls hW _ hp15959 ok15961 qa900 kd900) (cwV 0 hT (good_V tb_1639 tb_1636 tb_1638 tb_56 tb_122) rfl rfl rfl (by decide +kernel) ⟨Nat.le_of_ble_eq_true rfl, Nat.le_of_ble_eq_true rfl⟩) (pool_preV (ci := 12) hK hE hS hA hw hW kd900 (by decide) rfl) rfl rfl hl.1 rfl (lv_room (Nat.le_of_ble_eq_true rfl)) dX12_expression_266 ⟨Nat.le_of_ble_eq_true rfl, Nat.le_of_ble_eq_true rfl⟩) (fun hp15964 H locs hq15967 hw hS => ?_)
                            obtain ⟨ok15965, F15966, ⟨zi15969, eq15970, bd15971⟩, rh15972, rh15973, rh15974⟩ := hq15967
                            have hw : PW G cy K ln Ls A hp15964 H := hw
                            obtain ⟨zi15976, eq15975, bd15977⟩ := rd_13013 ok15965 kd900
                            simp only [gi_of eq15962, gi_of eq15963, gi_of eq15970, gi_of eq15975] at rh15972
                            simp only [gi_of eq15962, gi_of eq15975] at rh15973
                            simp only [gi_of eq15963, gi_of eq15970, gi_of eq15975] at rh15974
                            have eq15978 : hp15964 qa900 44 = .ref qa15938 := Eq.trans (Fr.at (cq := 13044) F15966 kd900 (cd_o (by decide)) (by decide)) (Eq.trans (up_at eh15960 (Or.inr (by decide))) (Eq.trans (up_at eh15951 (Or.inl (kd_ne kd900 kd15939 (by decide)))) eq15937))
                            have eq15980 : hp15964 qa900 45 = .int zi15954 := Eq.trans (Fr.at (cq := 13045) F15966 kd900 (cd_o (by decide)) (by decide)) (hp_self eh15960)
                            have eq15981 : hp15964 qa900 12 = .int zi15434 := Eq.trans (Fr.at (cq := 13012) F15966 kd900 (cd_o (by decide)) (by decide)) (Eq.trans (up_at eh15960 (Or.inr (by decide))) (Eq.trans (up_at eh15951 (Or.inl (kd_ne kd900 kd15939 (by decide)))) eq15936))
                            have eq15982 : hp15964 qa900 39 = .ref qa15941 := Eq.trans (Fr.at (cq := 13039) F15966 kd900 (cd_o (by decide)) (by decide)) (Eq.trans (up_at eh15960 (Or.inr (by decide))) (Eq.trans (up_at eh15951 (Or.inl (kd_ne kd900 kd15939 (by decide)))) eq15940))
                            have eq15983 : hp15964 qa900 40 = .ref qa15944 := Eq.trans (Fr.at (cq := 13040) F15966 kd900 (cd_o (by decide)) (by decide)) (Eq.trans (up_at eh15960 (Or.inr (by decide))) (Eq.trans (up_at eh15951 (Or.inl (kd_ne kd900 kd15939 (by decide)))) eq15943))
                            have eq15984 : hp15964 qa900 38 = .int zi15930 := Eq.trans (Fr.at (cq := 13038) F15966 kd900 (cd_o (by decide)) (by decide)) (Eq.trans (up_at eh15960 (Or.inr (by decide))) (Eq.trans (up_at eh15951 (Or.inl (kd_ne kd900 kd15939 (by decide)))) eq15929))
                            have ei15979 : EIx hp15964 qa900 gc0 0 := EI_opr (i := (zi15933 : Int32).toNatClampNeg) (k := zi15455.toInt) xq15924 (CO_opr xq15926 (by have := toi bc_1; omega)) (mA_up eq15937 eq15978 rfl eh15951 (Eq.trans (show hp15964 qa15938 = hp15959 qa15938 from (funext fun i => Fr.at (cq := 89000) F15966 kd15939 (cd_a (by decide)) (by decide))) (show hp15959 qa15938 = hp15950 qa15938 from (by rw [eh15960]; exact up2_row (kd_ne kd15939 kd900 (by decide)))))) (by rw [gi_of eq15932]; have := clampN (x := zi15933) (by omega); omega) (by rw [gi_of eq15980, gi_of eq15932]; omega) (by rw [gi_of eq15981, gi_of eq15936]; omega) (mA_eq eq15940 eq15982 (Eq.trans (show hp15964 qa15941 = hp15959 qa15941 from (funext fun i => Fr.at (cq := 84000) F15966 kd15942 (cd_a (by decide)) (by decide))) (Eq.trans (show hp15959 qa15941 = hp15950 qa15941 from (by rw [eh15960]; exact up2_row (kd_ne kd15942 kd900 (by decide)))) (show hp15950 qa15941 = hp15919 qa15941 from (by rw [eh15951]; exact up2_row (kd_ne kd15942 kd15939 (by decide))))))) (mA_eq eq15943 eq15983 (Eq.trans (show hp15964 qa15944 = hp15959 qa15944 from (funext fun i => Fr.at (cq := 85000) F15966 kd15945 (cd_a (by decide)) (by decide))) (Eq.trans (show hp15959 qa15944 = hp15950 qa15944 from (by rw [eh15960]; exact up2_row (kd_ne kd15945 kd900 (by decide)))) (show hp15950 qa15944 = hp15919 qa15944 from (by rw [eh15951]; exact up2_row (kd_ne kd15945 kd15939 (by decide))))))) (by rw [gi_of eq15984, gi_of eq15929]; omega)
                            refine lv_goto (tgt := 12) hx hb dX12_expression_269 (by decide) ?_
                            have eq15985 : hp15964 qa900 19 = .int zi11 := Eq.trans (Fr.at (cq := 13019) F15966 kd900 (cd_o (by decide)) (by decide)) (Eq.trans (up_at eh15960 (Or.inr (by decide))) (Eq.trans (up_at eh15951 (Or.inl (kd_ne kd900 kd15939 (by decide)))) (Eq.trans (Fr.at (cq := 13019) F15921 kd900 (cd_o (by decide)) (by decide)) eq15467)))
                            have pd15986 : LPx hp15964 qa900 := LP_fr ok15920 kd900 (Fr.tr (Fr.put (cq := 13045) (Fr.put (cq := 89000) (Fr.rf) eh15951 kd15939 (cd_a (by decide)) (by decide)) eh15960 kd900 (cd_o (by decide)) (by decide)) F15966 (by decide)) (by decide) xq15925
                            exact ih14026 hp15964 zi15969 zi15976 zi15434 zi15930 zi15954 _ _ ls (by have := toi bc_1; have := hm14028; omega) ok15965 (Fr.tr (Fr.put (cq := 13045) (Fr.put (cq := 89000) (Fr.tr (Fr.tr (Fr.tr (Fr.tr (Fr.tr (Fr.rf) F8554 (by decide)) F14505 (by decide)) F14835 (by decide)) F15427 (by decide)) F15921 (by decide)) eh15951 kd15939 (cd_a (by decide)) (by decide)) eh15960 kd900 (cd_o (by decide)) (by decide)) F15966 (by decide)) (b_wid2 bd15971 (by decide) (by decide)) eq15970 (b_wid2 bd15977 (by decide) (by decide)) eq15975 (b_wid2 bd15447 (by decide) (by decide)) eq15981 (b_wid2 bd15931 (by decide) (by decide)) eq15984 (b_wid2 bd15956 (by decide) (by decide)) eq15980 (by have := toi bc_1; omega) (by have := toi bc_1; omega) (by have := toi bc_1; omega) (by have := toi bc_1; omega) ei15979 pd15986 (lv_sub hl [1, 2, 0] rfl) hw hS
                        · skip
                          subst cn15830
                          obtain ⟨zi15987, eq15988, bd15989⟩ := hc15826 rfl
                          have hx15990 : zi15432 = zi15987 := Value.int.inj (Eq.trans (Eq.symm eq15431) eq15988)
                          subst hx15990
                          have bd15991 : (0 : Int) ≤ zi15432.toInt ∧ zi15432.toInt ≤ 0 := b_meet bd15817 bd15989 (by decide) (by decide)
                          have rh15992 := rh15827 rfl
                          simp only [ge_of eq15453 eq15429 eq15454, toi bc_10] at rh15992
                          have rh15993 := rh15828 rfl
                          simp only [gi_of eq15431] at rh15993
                          refine lv_if_ne (tgt := 229) hx hb dX12_expression_217 (by decide) (fun _ => ?_) (fun c => absurd c (d_ne bc_1 bc_0 (by decide)))
                          refine lv_iconst (v := 1) hx hb dX12_expression_229 (by decide) ?_
                          refine lv_goto (tgt := 234) hx hb dX12_expression_230 (by decide) ?_
                          refine kq_v hw hS hA (va_runV (As := [.int 1]) (rest := []) ⟨hx, hb, hml, hown, hT⟩ (cX12_comesOut_0 l G cy ev K ln Ls hW _ hp15426 ok15428 qa900 1 gc0 kd900 (b_wid2 bc_1 (by decide) (by decide)) (by simp only [gi_of eq15435, gi_of eq15467, gi_of eq15437]; omega) (by simp only [gi_of eq15437]; omega) jx15443 jx15444) (cwV 1 hT (good_V tb_1715 tb_1712 tb_1714 tb_74 tb_122) rfl rfl rfl (by decide +kernel) ⟨Nat.le_of_ble_eq_true rfl, Nat.le_of_ble_eq_true rfl⟩) (pool_preV (ci := 12) hK hE hS hA hw hW kd900 (by decide) rfl) rfl rfl hl.1 rfl (lv_room (Nat.le_of_ble_eq_true rfl)) dX12_expression_234 ⟨Nat.le_of_ble_eq_true rfl, Nat.le_of_ble_eq_true rfl⟩) (fun hp15994 H locs hq15997 hw hS => ?_)
                          obtain ⟨ok15995, F15996, xq15999, xq16000, xq16001, rh16002, rh16003⟩ := hq15997
                          have hw : PW G cy K ln Ls A hp15994 H := hw
                          obtain ⟨zi16005, eq16004, bd16006⟩ := rd_13038 ok15995 kd900
                          obtain ⟨zi16008, eq16007, bd16009⟩ := rd_13045 ok15995 kd900
                          simp only [gi_of eq15435, gi_of eq15437, gi_of eq16004, gi_of eq16007] at rh16002
                          simp only [gi_of eq15437, gi_of eq16007] at rh16003
                          have el16010 := EI_lin xq15999
                          have eq16011 : hp15994 qa900 12 = .int zi15434 := Eq.trans (Fr.at (cq := 13012) F15996 kd900 (cd_o (by decide)) (by decide)) eq15433
                          rw [gi_of eq16007, gi_of eq16011, gi_of eq16004] at el16010
                          obtain ⟨qa16013, eq16012, kd16014⟩ := rd_13044 ok15995 kd900
                          obtain ⟨qa16016, eq16015, kd16017⟩ := rd_13039 ok15995 kd900
                          obtain ⟨qa16019, eq16018, kd16020⟩ := rd_13040 ok15995 kd900
                          have bd16021 : (0 : Int) ≤ zi16008.toInt ∧ zi16008.toInt ≤ 23 := (by omega)
                          refine lv_aload_n hx hb dX12_expression_237 rfl (lv_at hl 1 rfl) ?_
                          refine p_get (ci := 12) (v := .ref qa16013) (C := RX12) (T := TX12) (N := 69) hx hb hT iw_X12 hown hK hw hW kd900 (by decide) rfl rfl 44 (by decide) eq16012 (hT _ tb_1418) (fun _ h9 => h9) dX12_expression_238 ?_
                          refine lv_aload_n hx hb dX12_expression_241 rfl (lv_at hl 1 rfl) ?_
                          refine p_get (ci := 12) (v := .int zi16008) (C := RX12) (T := TX12) (N := 69) hx hb hT iw_X12 hown hK hw hW kd900 (by decide) rfl rfl 45 (by decide) eq16007 (hT _ tb_1419) (fun _ h9 => h9) dX12_expression_242 ?_
                          refine lv_aload_n hx hb dX12_expression_245 rfl (lv_at hl 1 rfl) ?_
                          have eq16022 : hp15994 qa900 5 = .ref qa14816 := Eq.trans (Fr.at (cq := 13005) F15996 kd900 (cd_o (by decide)) (by decide)) eq15453
                          refine p_get (ci := 12) (v := .ref qa14816) (C := RX12) (T := TX12) (N := 69) hx hb hT iw_X12 hown hK hw hW kd900 (by decide) rfl rfl 5 (by decide) eq16022 (hT _ tb_1379) (fun _ h9 => h9) dX12_expression_246 ?_
                          refine lv_aload_n hx hb dX12_expression_249 rfl (lv_at hl 1 rfl) ?_
                          have eq16023 : hp15994 qa900 11 = .int zi15430 := Eq.trans (Fr.at (cq := 13011) F15996 kd900 (cd_o (by decide)) (by decide)) eq15429
                          refine p_get (ci := 12) (v := .int zi15430) (C := RX12) (T := TX12) (N := 69) hx hb hT iw_X12 hown hK hw hW kd900 (by decide) rfl rfl 11 (by decide) eq16023 (hT _ tb_1385) (fun _ h9 => h9) dX12_expression_250 ?_
                          have eq16024 : hp15994 qa14816 (zi15430 : Int32).toNatClampNeg = .int zi15455 := Eq.trans (Fr.at (cq := 62000) F15996 kd14817 (cd_a (by decide)) (by decide)) eq15454
                          refine p_iald (v := zi15455) hx hb hK hw hW kd14817 (by decide) rfl (hW.len kd14817 (n := 403) rfl (by decide)) (vp_b bd15445 (by decide) (by decide)) eq16024 dX12_expression_253 ?_
                          refine p_iast (x := zi15455) hx hb hK hw hS hW kd16014 (by decide) rfl (hW.len kd16014 (n := 64) rfl (by decide)) (vp_b bd16021 (by decide) (by decide)) dX12_expression_254 (fun hp16025 eh16026 H locs hw hS => ?_)
                          have ok16027 := wr_89000 ok15995 kd16014 eh16026
                          refine lv_aload_n hx hb dX12_expression_255 rfl (lv_at hl 1 rfl) ?_
                          refine lv_dup hx hb dX12_expression_256 rfl ?_
                          have eq16028 : hp16025 qa900 45 = .int zi16008 := Eq.trans (up_at eh16026 (Or.inl (kd_ne kd900 kd16014 (by decide)))) eq16007
                          refine p_get (ci := 12) (v := .int zi16008) (C := RX12) (T := TX12) (N := 69) hx hb hT iw_X12 hown hK hw hW kd900 (by decide) rfl rfl 45 (by decide) eq16028 (hT _ tb_1419) (fun _ h9 => h9) dX12_expression_257 ?_
                          refine lv_iconst (v := 1) hx hb dX12_expression_260 (by decide) ?_
                          refine lv_iadd hx hb dX12_expression_261 (lv_topi (fun zi16029 ea16030 => ?_))
                          have bd16031 : (1 : Int) ≤ zi16029.toInt ∧ zi16029.toInt ≤ 24 := b_iadd ea16030 bd16021 bc_1 (by decide) (by decide) (by decide) (by decide)
                          have qe16032 : zi16029.toInt = (zi16008 : Int32).toInt + (1 : Int32).toInt := e_iadd ea16030 bd16021 bc_1 (by decide) (by decide)
                          have qe16033 : zi16029.toInt = zi16008.toInt + 1 := by have ha : (1 : Int32).toInt = 1 := (by decide); rw [ha] at qe16032; exact qe16032
                          refine p_put (ci := 12) (v := .int zi16029) (ty := .int) (C := RX12) (T := TX12) (N := 69) hx hb hT iw_X12 tyX12 tyX12_ok nmX12 hown hK hw hS hW kd900 (by decide) rfl rfl 45 (by decide) (hT _ tb_1419) (fun _ h9 => h9) rfl (by decide +kernel) rfl rfl dX12_expression_262 (fun hp16034 eh16035 H locs hw hS => ?_)
                          have ok16036 := wr_13045 bd16031 (by decide) (by decide) ok16027 kd900 eh16035
                          refine lv_aload_n hx hb dX12_expression_265 rfl (lv_at hl 1 rfl) ?_
                          have eq16037 : hp16034 qa900 13 = .int zi15432 := Eq.trans (up_at eh16035 (Or.inr (by decide))) (Eq.trans (up_at eh16026 (Or.inl (kd_ne kd900 kd16014 (by decide)))) (Eq.trans (Fr.at (cq := 13013) F15996 kd900 (cd_o (by decide)) (by decide)) eq15431))
                          have eq16038 : hp16034 qa900 11 = .int zi15430 := Eq.trans (up_at eh16035 (Or.inr (by decide))) (Eq.trans (up_at eh16026 (Or.inl (kd_ne kd900 kd16014 (by decide)))) eq16023)
                          refine kq_v hw hS hA (va_runV (As := []) (rest := []) ⟨hx, hb, hml, hown, hT⟩ (cX12_goesOn_0 l G cy ev K ln Ls hW _ hp16034 ok16036 qa900 kd900) (cwV 0 hT (good_V tb_1639 tb_1636 tb_1638 tb_56 tb_122) rfl rfl rfl (by decide +kernel) ⟨Nat.le_of_ble_eq_true rfl, Nat.le_of_ble_eq_true rfl⟩) (pool_preV (ci := 12) hK hE hS hA hw hW kd900 (by decide) rfl) rfl rfl hl.1 rfl (lv_room (Nat.le_of_ble_eq_true rfl)) dX12_expression_266 ⟨Nat.le_of_ble_eq_true rfl, Nat.le_of_ble_eq_true rfl⟩) (fun hp16039 H locs hq16042 hw hS => ?_)
                          obtain ⟨ok16040, F16041, ⟨zi16044, eq16045, bd16046⟩, rh16047, rh16048, rh16049⟩ := hq16042
                          have hw : PW G cy K ln Ls A hp16039 H := hw
                          obtain ⟨zi16051, eq16050, bd16052⟩ := rd_13013 ok16040 kd900
                          simp only [gi_of eq16037, gi_of eq16038, gi_of eq16045, gi_of eq16050] at rh16047
                          simp only [gi_of eq16037, gi_of eq16050] at rh16048
                          simp only [gi_of eq16038, gi_of eq16045, gi_of eq16050] at rh16049
                          have eq16053 : hp16039 qa900 44 = .ref qa16013 := Eq.trans (Fr.at (cq := 13044) F16041 kd900 (cd_o (by decide)) (by decide)) (Eq.trans (up_at eh16035 (Or.inr (by decide))) (Eq.trans (up_at eh16026 (Or.inl (kd_ne kd900 kd16014 (by decide)))) eq16012))
                          have eq16055 : hp16039 qa900 45 = .int zi16029 := Eq.trans (Fr.at (cq := 13045) F16041 kd900 (cd_o (by decide)) (by decide)) (hp_self eh16035)
                          have eq16056 : hp16039 qa900 12 = .int zi15434 := Eq.trans (Fr.at (cq := 13012) F16041 kd900 (cd_o (by decide)) (by decide)) (Eq.trans (up_at eh16035 (Or.inr (by decide))) (Eq.trans (up_at eh16026 (Or.inl (kd_ne kd900 kd16014 (by decide)))) eq16011))
                          have eq16057 : hp16039 qa900 39 = .ref qa16016 := Eq.trans (Fr.at (cq := 13039) F16041 kd900 (cd_o (by decide)) (by decide)) (Eq.trans (up_at eh16035 (Or.inr (by decide))) (Eq.trans (up_at eh16026 (Or.inl (kd_ne kd900 kd16014 (by decide)))) eq16015))
                          have eq16058 : hp16039 qa900 40 = .ref qa16019 := Eq.trans (Fr.at (cq := 13040) F16041 kd900 (cd_o (by decide)) (by decide)) (Eq.trans (up_at eh16035 (Or.inr (by decide))) (Eq.trans (up_at eh16026 (Or.inl (kd_ne kd900 kd16014 (by decide)))) eq16018))
                          have eq16059 : hp16039 qa900 38 = .int zi16005 := Eq.trans (Fr.at (cq := 13038) F16041 kd900 (cd_o (by decide)) (by decide)) (Eq.trans (up_at eh16035 (Or.inr (by decide))) (Eq.trans (up_at eh16026 (Or.inl (kd_ne kd900 kd16014 (by decide)))) eq16004))
                          have ei16054 : EIx hp16039 qa900 gc0 0 := EI_opr (i := (zi16008 : Int32).toNatClampNeg) (k := zi15455.toInt) xq15999 (CO_opr xq16001 (by have := toi bc_1; omega)) (mA_up eq16012 eq16053 rfl eh16026 (Eq.trans (show hp16039 qa16013 = hp16034 qa16013 from (funext fun i => Fr.at (cq := 89000) F16041 kd16014 (cd_a (by decide)) (by decide))) (show hp16034 qa16013 = hp16025 qa16013 from (by rw [eh16035]; exact up2_row (kd_ne kd16014 kd900 (by decide)))))) (by rw [gi_of eq16007]; have := clampN (x := zi16008) (by omega); omega) (by rw [gi_of eq16055, gi_of eq16007]; omega) (by rw [gi_of eq16056, gi_of eq16011]; omega) (mA_eq eq16015 eq16057 (Eq.trans (show hp16039 qa16016 = hp16034 qa16016 from (funext fun i => Fr.at (cq := 84000) F16041 kd16017 (cd_a (by decide)) (by decide))) (Eq.trans (show hp16034 qa16016 = hp16025 qa16016 from (by rw [eh16035]; exact up2_row (kd_ne kd16017 kd900 (by decide)))) (show hp16025 qa16016 = hp15994 qa16016 from (by rw [eh16026]; exact up2_row (kd_ne kd16017 kd16014 (by decide))))))) (mA_eq eq16018 eq16058 (Eq.trans (show hp16039 qa16019 = hp16034 qa16019 from (funext fun i => Fr.at (cq := 85000) F16041 kd16020 (cd_a (by decide)) (by decide))) (Eq.trans (show hp16034 qa16019 = hp16025 qa16019 from (by rw [eh16035]; exact up2_row (kd_ne kd16020 kd900 (by decide)))) (show hp16025 qa16019 = hp15994 qa16019 from (by rw [eh16026]; exact up2_row (kd_ne kd16020 kd16014 (by decide))))))) (by rw [gi_of eq16059, gi_of eq16004]; omega)
                          refine lv_goto (tgt := 12) hx hb dX12_expression_269 (by decide) ?_
                          have eq16060 : hp16039 qa900 19 = .int zi11 := Eq.trans (Fr.at (cq := 13019) F16041 kd900 (cd_o (by decide)) (by decide)) (Eq.trans (up_at eh16035 (Or.inr (by decide))) (Eq.trans (up_at eh16026 (Or.inl (kd_ne kd900 kd16014 (by decide)))) (Eq.trans (Fr.at (cq := 13019) F15996 kd900 (cd_o (by decide)) (by decide)) eq15467)))
                          have pd16061 : LPx hp16039 qa900 := LP_fr ok15995 kd900 (Fr.tr (Fr.put (cq := 13045) (Fr.put (cq := 89000) (Fr.rf) eh16026 kd16014 (cd_a (by decide)) (by decide)) eh16035 kd900 (cd_o (by decide)) (by decide)) F16041 (by decide)) (by decide) xq16000
                          exact ih14026 hp16039 zi16044 zi16051 zi15434 zi16005 zi16029 _ _ ls (by have := toi bc_1; have := hm14028; omega) ok16040 (Fr.tr (Fr.put (cq := 13045) (Fr.put (cq := 89000) (Fr.tr (Fr.tr (Fr.tr (Fr.tr (Fr.tr (Fr.rf) F8554 (by decide)) F14505 (by decide)) F14835 (by decide)) F15427 (by decide)) F15996 (by decide)) eh16026 kd16014 (cd_a (by decide)) (by decide)) eh16035 kd900 (cd_o (by decide)) (by decide)) F16041 (by decide)) (b_wid2 bd16046 (by decide) (by decide)) eq16045 (b_wid2 bd16052 (by decide) (by decide)) eq16050 (b_wid2 bd15447 (by decide) (by decide)) eq16056 (b_wid2 bd16006 (by decide) (by decide)) eq16059 (b_wid2 bd16031 (by decide) (by decide)) eq16055 (by have := toi bc_1; omega) (by have := toi bc_1; omega) (by have := toi bc_1; omega) (by have := toi bc_1; omega) ei16054 pd16061 (lv_sub hl [1, 2, 0] rfl) hw hS
                    · skip
                      subst cn15479
                      obtain ⟨zi16062, eq16063, bd16064⟩ := hc15475 rfl
                      have hx16065 : zi15432 = zi16062 := Value.int.inj (Eq.trans (Eq.symm eq15431) eq16063)
                      subst hx16065
                      have bd16066 : (0 : Int) ≤ zi15432.toInt ∧ zi15432.toInt ≤ 0 := b_meet bd15446 bd16064 (by decide) (by decide)
                      have rh16067 := rh15476 rfl
                      simp only [ge_of eq15453 eq15429 eq15454, toi bc_9] at rh16067
                      have rh16068 := rh15477 rfl
                      simp only [gi_of eq15431] at rh16068
                      refine lv_if_ne (tgt := 181) hx hb dX12_expression_160 (by decide) (fun _ => ?_) (fun c => absurd c (d_ne bc_1 bc_0 (by decide)))
                      refine lv_iconst (v := 1) hx hb dX12_expression_181 (by decide) ?_
                      refine lv_goto (tgt := 186) hx hb dX12_expression_182 (by decide) ?_
                      refine lv_istore_n (lv' := [(2, .int 1), (0, .ref qa900), (1, .int zi8)]) hx hb dX12_expression_186 rfl hl (by decide) rfl (fun ls hl => ?_)
                      refine lv_iload_n hx hb dX12_expression_187 rfl (lv_at hl 0 rfl) ?_
                      refine lv_if_ne (tgt := 210) hx hb dX12_expression_188 (by decide) (fun _ => ?_) (fun c => absurd c (d_ne bc_1 bc_0 (by decide)))
                      refine lv_aload_n hx hb dX12_expression_210 rfl (lv_at hl 1 rfl) ?_
                      refine lv_aload_n hx hb dX12_expression_211 rfl (lv_at hl 1 rfl) ?_
                      refine lv_bipush (v := 10) hx hb dX12_expression_212 (by decide) ?_
                      refine kq_i hw hS hA (va_runV (As := [.int 10]) (rest := [.ref qa900]) ⟨hx, hb, hml, hown, hT⟩ (cX12_is_0 l G cy ev K ln Ls hW _ hp15426 ok15428 qa900 10 kd900) (cwV 1 hT (good_V tb_1623 tb_1620 tb_1622 tb_52 tb_122) rfl rfl rfl (by decide +kernel) ⟨Nat.le_of_ble_eq_true rfl, Nat.le_of_ble_eq_true rfl⟩) (pool_preV (ci := 12) hK hE hS hA hw hW kd900 (by decide) rfl) rfl rfl hl.1 rfl (lv_room (Nat.le_of_ble_eq_true rfl)) dX12_expression_214 ⟨Nat.le_of_ble_eq_true rfl, Nat.le_of_ble_eq_true rfl⟩) (fun zi16073 hp16069 H locs hq16072 hw hS => ?_)
                      obtain ⟨ok16070, F16071, bd16074, hc16075, rh16076, rh16077, rh16078⟩ := hq16072
                      obtain rfl : hp15426 = hp16069 := (Fr.nil F16071).symm
                      have hw : PW G cy K ln Ls A hp15426 H := hw
                      rcases b01 bd16074 with cn16079 | cn16079
                      · skip
                        subst cn16079
                        have rh16080 := rh16078 rfl
                        simp only [ge_of eq15453 eq15429 eq15454, gi_of eq15431, toi bc_10] at rh16080
                        refine lv_if_ne (tgt := 229) hx hb dX12_expression_217 (by decide) (fun c => absurd (d_eq bc_0 bc_0) c) (fun _ => ?_)
                        refine lv_aload_n hx hb dX12_expression_220 rfl (lv_at hl 1 rfl) ?_
                        refine lv_bipush (v := 15) hx hb dX12_expression_221 (by decide) ?_
                        refine kq_i hw hS hA (va_runV (As := [.int 15]) (rest := [.ref qa900]) ⟨hx, hb, hml, hown, hT⟩ (cX12_is_0 l G cy ev K ln Ls hW _ hp15426 ok15428 qa900 15 kd900) (cwV 1 hT (good_V tb_1623 tb_1620 tb_1622 tb_52 tb_122) rfl rfl rfl (by decide +kernel) ⟨Nat.le_of_ble_eq_true rfl, Nat.le_of_ble_eq_true rfl⟩) (pool_preV (ci := 12) hK hE hS hA hw hW kd900 (by decide) rfl) rfl rfl hl.1 rfl (lv_room (Nat.le_of_ble_eq_true rfl)) dX12_expression_223 ⟨Nat.le_of_ble_eq_true rfl, Nat.le_of_ble_eq_true rfl⟩) (fun zi16085 hp16081 H locs hq16084 hw hS => ?_)
                        obtain ⟨ok16082, F16083, bd16086, hc16087, rh16088, rh16089, rh16090⟩ := hq16084
                        obtain rfl : hp15426 = hp16081 := (Fr.nil F16083).symm
                        have hw : PW G cy K ln Ls A hp15426 H := hw
                        rcases b01 bd16086 with cn16091 | cn16091
                        · skip
                          subst cn16091
                          have rh16092 := rh16090 rfl
                          simp only [ge_of eq15453 eq15429 eq15454, gi_of eq15431, toi bc_15] at rh16092
                          refine lv_if_eq (tgt := 233) hx hb dX12_expression_226 (by decide) (fun _ => ?_) (fun c => absurd (d_eq bc_0 bc_0) c)
                          refine lv_iconst (v := 0) hx hb dX12_expression_233 (by decide) ?_
                          refine kq_v hw hS hA (va_runV (As := [.int 0]) (rest := []) ⟨hx, hb, hml, hown, hT⟩ (cX12_comesOut_0 l G cy ev K ln Ls hW _ hp15426 ok15428 qa900 0 gc0 kd900 (b_wid2 bc_0 (by decide) (by decide)) (by simp only [gi_of eq15435, gi_of eq15467, gi_of eq15437]; omega) (by simp only [gi_of eq15437]; omega) jx15443 jx15444) (cwV 1 hT (good_V tb_1715 tb_1712 tb_1714 tb_74 tb_122) rfl rfl rfl (by decide +kernel) ⟨Nat.le_of_ble_eq_true rfl, Nat.le_of_ble_eq_true rfl⟩) (pool_preV (ci := 12) hK hE hS hA hw hW kd900 (by decide) rfl) rfl rfl hl.1 rfl (lv_room (Nat.le_of_ble_eq_true rfl)) dX12_expression_234 ⟨Nat.le_of_ble_eq_true rfl, Nat.le_of_ble_eq_true rfl⟩) (fun hp16093 H locs hq16096 hw hS => ?_)
                          obtain ⟨ok16094, F16095, xq16098, xq16099, xq16100, rh16101, rh16102⟩ := hq16096
                          have hw : PW G cy K ln Ls A hp16093 H := hw
                          obtain ⟨zi16104, eq16103, bd16105⟩ := rd_13038 ok16094 kd900
                          obtain ⟨zi16107, eq16106, bd16108⟩ := rd_13045 ok16094 kd900
                          simp only [gi_of eq15435, gi_of eq15437, gi_of eq16103, gi_of eq16106] at rh16101
                          simp only [gi_of eq15437, gi_of eq16106] at rh16102
                          have el16109 := EI_lin xq16098
                          have eq16110 : hp16093 qa900 12 = .int zi15434 := Eq.trans (Fr.at (cq := 13012) F16095 kd900 (cd_o (by decide)) (by decide)) eq15433
                          rw [gi_of eq16106, gi_of eq16110, gi_of eq16103] at el16109
                          obtain ⟨qa16112, eq16111, kd16113⟩ := rd_13044 ok16094 kd900
                          obtain ⟨qa16115, eq16114, kd16116⟩ := rd_13039 ok16094 kd900
                          obtain ⟨qa16118, eq16117, kd16119⟩ := rd_13040 ok16094 kd900
                          have bd16120 : (0 : Int) ≤ zi16107.toInt ∧ zi16107.toInt ≤ 23 := (by omega)
                          refine lv_aload_n hx hb dX12_expression_237 rfl (lv_at hl 1 rfl) ?_
                          refine p_get (ci := 12) (v := .ref qa16112) (C := RX12) (T := TX12) (N := 69) hx hb hT iw_X12 hown hK hw hW kd900 (by decide) rfl rfl 44 (by decide) eq16111 (hT _ tb_1418) (fun _ h9 => h9) dX12_expression_238 ?_
                          refine lv_aload_n hx hb dX12_expression_241 rfl (lv_at hl 1 rfl) ?_
                          refine p_get (ci := 12) (v := .int zi16107) (C := RX12) (T := TX12) (N := 69) hx hb hT iw_X12 hown hK hw hW kd900 (by decide) rfl rfl 45 (by decide) eq16106 (hT _ tb_1419) (fun _ h9 => h9) dX12_expression_242 ?_
                          refine lv_aload_n hx hb dX12_expression_245 rfl (lv_at hl 1 rfl) ?_
                          have eq16121 : hp16093 qa900 5 = .ref qa14816 := Eq.trans (Fr.at (cq := 13005) F16095 kd900 (cd_o (by decide)) (by decide)) eq15453
                          refine p_get (ci := 12) (v := .ref qa14816) (C := RX12) (T := TX12) (N := 69) hx hb hT iw_X12 hown hK hw hW kd900 (by decide) rfl rfl 5 (by decide) eq16121 (hT _ tb_1379) (fun _ h9 => h9) dX12_expression_246 ?_
                          refine lv_aload_n hx hb dX12_expression_249 rfl (lv_at hl 1 rfl) ?_
                          have eq16122 : hp16093 qa900 11 = .int zi15430 := Eq.trans (Fr.at (cq := 13011) F16095 kd900 (cd_o (by decide)) (by decide)) eq15429
                          refine p_get (ci := 12) (v := .int zi15430) (C := RX12) (T := TX12) (N := 69) hx hb hT iw_X12 hown hK hw hW kd900 (by decide) rfl rfl 11 (by decide) eq16122 (hT _ tb_1385) (fun _ h9 => h9) dX12_expression_250 ?_
                          have eq16123 : hp16093 qa14816 (zi15430 : Int32).toNatClampNeg = .int zi15455 := Eq.trans (Fr.at (cq := 62000) F16095 kd14817 (cd_a (by decide)) (by decide)) eq15454
                          refine p_iald (v := zi15455) hx hb hK hw hW kd14817 (by decide) rfl (hW.len kd14817 (n := 403) rfl (by decide)) (vp_b bd15445 (by decide) (by decide)) eq16123 dX12_expression_253 ?_
                          refine p_iast (x := zi15455) hx hb hK hw hS hW kd16113 (by decide) rfl (hW.len kd16113 (n := 64) rfl (by decide)) (vp_b bd16120 (by decide) (by decide)) dX12_expression_254 (fun hp16124 eh16125 H locs hw hS => ?_)
                          have ok16126 := wr_89000 ok16094 kd16113 eh16125
                          refine lv_aload_n hx hb dX12_expression_255 rfl (lv_at hl 1 rfl) ?_
                          refine lv_dup hx hb dX12_expression_256 rfl ?_
                          have eq16127 : hp16124 qa900 45 = .int zi16107 := Eq.trans (up_at eh16125 (Or.inl (kd_ne kd900 kd16113 (by decide)))) eq16106
                          refine p_get (ci := 12) (v := .int zi16107) (C := RX12) (T := TX12) (N := 69) hx hb hT iw_X12 hown hK hw hW kd900 (by decide) rfl rfl 45 (by decide) eq16127 (hT _ tb_1419) (fun _ h9 => h9) dX12_expression_257 ?_
                          refine lv_iconst (v := 1) hx hb dX12_expression_260 (by decide) ?_
                          refine lv_iadd hx hb dX12_expression_261 (lv_topi (fun zi16128 ea16129 => ?_))
                          have bd16130 : (1 : Int) ≤ zi16128.toInt ∧ zi16128.toInt ≤ 24 := b_iadd ea16129 bd16120 bc_1 (by decide) (by decide) (by decide) (by decide)
                          have qe16131 : zi16128.toInt = (zi16107 : Int32).toInt + (1 : Int32).toInt := e_iadd ea16129 bd16120 bc_1 (by decide) (by decide)
                          have qe16132 : zi16128.toInt = zi16107.toInt + 1 := by have ha : (1 : Int32).toInt = 1 := (by decide); rw [ha] at qe16131; exact qe16131
                          refine p_put (ci := 12) (v := .int zi16128) (ty := .int) (C := RX12) (T := TX12) (N := 69) hx hb hT iw_X12 tyX12 tyX12_ok nmX12 hown hK hw hS hW kd900 (by decide) rfl rfl 45 (by decide) (hT _ tb_1419) (fun _ h9 => h9) rfl (by decide +kernel) rfl rfl dX12_expression_262 (fun hp16133 eh16134 H locs hw hS => ?_)
                          have ok16135 := wr_13045 bd16130 (by decide) (by decide) ok16126 kd900 eh16134
                          refine lv_aload_n hx hb dX12_expression_265 rfl (lv_at hl 1 rfl) ?_
                          have eq16136 : hp16133 qa900 13 = .int zi15432 := Eq.trans (up_at eh16134 (Or.inr (by decide))) (Eq.trans (up_at eh16125 (Or.inl (kd_ne kd900 kd16113 (by decide)))) (Eq.trans (Fr.at (cq := 13013) F16095 kd900 (cd_o (by decide)) (by decide)) eq15431))
                          have eq16137 : hp16133 qa900 11 = .int zi15430 := Eq.trans (up_at eh16134 (Or.inr (by decide))) (Eq.trans (up_at eh16125 (Or.inl (kd_ne kd900 kd16113 (by decide)))) eq16122)
                          refine kq_v hw hS hA (va_runV (As := []) (rest := []) ⟨hx, hb, hml, hown, hT⟩ (cX12_goesOn_0 l G cy ev K ln Ls hW _ hp16133 ok16135 qa900 kd900) (cwV 0 hT (good_V tb_1639 tb_1636 tb_1638 tb_56 tb_122) rfl rfl rfl (by decide +kernel) ⟨Nat.le_of_ble_eq_true rfl, Nat.le_of_ble_eq_true rfl⟩) (pool_preV (ci := 12) hK hE hS hA hw hW kd900 (by decide) rfl) rfl rfl hl.1 rfl (lv_room (Nat.le_of_ble_eq_true rfl)) dX12_expression_266 ⟨Nat.le_of_ble_eq_true rfl, Nat.le_of_ble_eq_true rfl⟩) (fun hp16138 H locs hq16141 hw hS => ?_)
                          obtain ⟨ok16139, F16140, ⟨zi16143, eq16144, bd16145⟩, rh16146, rh16147, rh16148⟩ := hq16141
                          have hw : PW G cy K ln Ls A hp16138 H := hw
                          obtain ⟨zi16150, eq16149, bd16151⟩ := rd_13013 ok16139 kd900
                          simp only [gi_of eq16136, gi_of eq16137, gi_of eq16144, gi_of eq16149] at rh16146
                          simp only [gi_of eq16136, gi_of eq16149] at rh16147
                          simp only [gi_of eq16137, gi_of eq16144, gi_of eq16149] at rh16148
                          have eq16152 : hp16138 qa900 44 = .ref qa16112 := Eq.trans (Fr.at (cq := 13044) F16140 kd900 (cd_o (by decide)) (by decide)) (Eq.trans (up_at eh16134 (Or.inr (by decide))) (Eq.trans (up_at eh16125 (Or.inl (kd_ne kd900 kd16113 (by decide)))) eq16111))
                          have eq16154 : hp16138 qa900 45 = .int zi16128 := Eq.trans (Fr.at (cq := 13045) F16140 kd900 (cd_o (by decide)) (by decide)) (hp_self eh16134)
                          have eq16155 : hp16138 qa900 12 = .int zi15434 := Eq.trans (Fr.at (cq := 13012) F16140 kd900 (cd_o (by decide)) (by decide)) (Eq.trans (up_at eh16134 (Or.inr (by decide))) (Eq.trans (up_at eh16125 (Or.inl (kd_ne kd900 kd16113 (by decide)))) eq16110))
                          have eq16156 : hp16138 qa900 39 = .ref qa16115 := Eq.trans (Fr.at (cq := 13039) F16140 kd900 (cd_o (by decide)) (by decide)) (Eq.trans (up_at eh16134 (Or.inr (by decide))) (Eq.trans (up_at eh16125 (Or.inl (kd_ne kd900 kd16113 (by decide)))) eq16114))
                          have eq16157 : hp16138 qa900 40 = .ref qa16118 := Eq.trans (Fr.at (cq := 13040) F16140 kd900 (cd_o (by decide)) (by decide)) (Eq.trans (up_at eh16134 (Or.inr (by decide))) (Eq.trans (up_at eh16125 (Or.inl (kd_ne kd900 kd16113 (by decide)))) eq16117))
                          have eq16158 : hp16138 qa900 38 = .int zi16104 := Eq.trans (Fr.at (cq := 13038) F16140 kd900 (cd_o (by decide)) (by decide)) (Eq.trans (up_at eh16134 (Or.inr (by decide))) (Eq.trans (up_at eh16125 (Or.inl (kd_ne kd900 kd16113 (by decide)))) eq16103))
                          have ei16153 : EIx hp16138 qa900 gc0 0 := EI_opr (i := (zi16107 : Int32).toNatClampNeg) (k := zi15455.toInt) xq16098 (CO_opr xq16100 (by have := toi bc_0; omega)) (mA_up eq16111 eq16152 rfl eh16125 (Eq.trans (show hp16138 qa16112 = hp16133 qa16112 from (funext fun i => Fr.at (cq := 89000) F16140 kd16113 (cd_a (by decide)) (by decide))) (show hp16133 qa16112 = hp16124 qa16112 from (by rw [eh16134]; exact up2_row (kd_ne kd16113 kd900 (by decide)))))) (by rw [gi_of eq16106]; have := clampN (x := zi16107) (by omega); omega) (by rw [gi_of eq16154, gi_of eq16106]; omega) (by rw [gi_of eq16155, gi_of eq16110]; omega) (mA_eq eq16114 eq16156 (Eq.trans (show hp16138 qa16115 = hp16133 qa16115 from (funext fun i => Fr.at (cq := 84000) F16140 kd16116 (cd_a (by decide)) (by decide))) (Eq.trans (show hp16133 qa16115 = hp16124 qa16115 from (by rw [eh16134]; exact up2_row (kd_ne kd16116 kd900 (by decide)))) (show hp16124 qa16115 = hp16093 qa16115 from (by rw [eh16125]; exact up2_row (kd_ne kd16116 kd16113 (by decide))))))) (mA_eq eq16117 eq16157 (Eq.trans (show hp16138 qa16118 = hp16133 qa16118 from (funext fun i => Fr.at (cq := 85000) F16140 kd16119 (cd_a (by decide)) (by decide))) (Eq.trans (show hp16133 qa16118 = hp16124 qa16118 from (by rw [eh16134]; exact up2_row (kd_ne kd16119 kd900 (by decide)))) (show hp16124 qa16118 = hp16093 qa16118 from (by rw [eh16125]; exact up2_row (kd_ne kd16119 kd16113 (by decide))))))) (by rw [gi_of eq16158, gi_of eq16103]; omega)
                          refine lv_goto (tgt := 12) hx hb dX12_expression_269 (by decide) ?_
                          have eq16159 : hp16138 qa900 19 = .int zi11 := Eq.trans (Fr.at (cq := 13019) F16140 kd900 (cd_o (by decide)) (by decide)) (Eq.trans (up_at eh16134 (Or.inr (by decide))) (Eq.trans (up_at eh16125 (Or.inl (kd_ne kd900 kd16113 (by decide)))) (Eq.trans (Fr.at (cq := 13019) F16095 kd900 (cd_o (by decide)) (by decide)) eq15467)))
                          have pd16160 : LPx hp16138 qa900 := LP_fr ok16094 kd900 (Fr.tr (Fr.put (cq := 13045) (Fr.put (cq := 89000) (Fr.rf) eh16125 kd16113 (cd_a (by decide)) (by decide)) eh16134 kd900 (cd_o (by decide)) (by decide)) F16140 (by decide)) (by decide) xq16099
                          exact ih14026 hp16138 zi16143 zi16150 zi15434 zi16104 zi16128 _ _ ls (by have := toi bc_1; have := hm14028; omega) ok16139 (Fr.tr (Fr.put (cq := 13045) (Fr.put (cq := 89000) (Fr.tr (Fr.tr (Fr.tr (Fr.tr (Fr.tr (Fr.rf) F8554 (by decide)) F14505 (by decide)) F14835 (by decide)) F15427 (by decide)) F16095 (by decide)) eh16125 kd16113 (cd_a (by decide)) (by decide)) eh16134 kd900 (cd_o (by decide)) (by decide)) F16140 (by decide)) (b_wid2 bd16145 (by decide) (by decide)) eq16144 (b_wid2 bd16151 (by decide) (by decide)) eq16149 (b_wid2 bd15447 (by decide) (by decide)) eq16155 (b_wid2 bd16105 (by decide) (by decide)) eq16158 (b_wid2 bd16130 (by decide) (by decide)) eq16154 (by have := toi bc_1; omega) (by have := toi bc_1; omega) (by have := toi bc_1; omega) (by have := toi bc_1; omega) ei16153 pd16160 (lv_sub hl [1, 2, 0] rfl) hw hS
                        · skip
                          subst cn16091
                          obtain ⟨zi16161, eq16162, bd16163⟩ := hc16087 rfl
                          have hx16164 : zi15432 = zi16161 := Value.int.inj (Eq.trans (Eq.symm eq15431) eq16162)
                          subst hx16164
                          have bd16165 : (0 : Int) ≤ zi15432.toInt ∧ zi15432.toInt ≤ 0 := b_meet bd16066 bd16163 (by decide) (by decide)
                          have rh16166 := rh16088 rfl
                          simp only [ge_of eq15453 eq15429 eq15454, toi bc_15] at rh16166
                          have rh16167 := rh16089 rfl
                          simp only [gi_of eq15431] at rh16167
                          refine lv_if_eq (tgt := 233) hx hb dX12_expression_226 (by decide) (fun c => absurd c (d_ne bc_1 bc_0 (by decide))) (fun _ => ?_)
                          refine lv_iconst (v := 1) hx hb dX12_expression_229 (by decide) ?_
                          refine lv_goto (tgt := 234) hx hb dX12_expression_230 (by decide) ?_
                          refine kq_v hw hS hA (va_runV (As := [.int 1]) (rest := []) ⟨hx, hb, hml, hown, hT⟩ (cX12_comesOut_0 l G cy ev K ln Ls hW _ hp15426 ok15428 qa900 1 gc0 kd900 (b_wid2 bc_1 (by decide) (by decide)) (by simp only [gi_of eq15435, gi_of eq15467, gi_of eq15437]; omega) (by simp only [gi_of eq15437]; omega) jx15443 jx15444) (cwV 1 hT (good_V tb_1715 tb_1712 tb_1714 tb_74 tb_122) rfl rfl rfl (by decide +kernel) ⟨Nat.le_of_ble_eq_true rfl, Nat.le_of_ble_eq_true rfl⟩) (pool_preV (ci := 12) hK hE hS hA hw hW kd900 (by decide) rfl) rfl rfl hl.1 rfl (lv_room (Nat.le_of_ble_eq_true rfl)) dX12_expression_234 ⟨Nat.le_of_ble_eq_true rfl, Nat.le_of_ble_eq_true rfl⟩) (fun hp16168 H locs hq16171 hw hS => ?_)
                          obtain ⟨ok16169, F16170, xq16173, xq16174, xq16175, rh16176, rh16177⟩ := hq16171
                          have hw : PW G cy K ln Ls A hp16168 H := hw
                          obtain ⟨zi16179, eq16178, bd16180⟩ := rd_13038 ok16169 kd900
                          obtain ⟨zi16182, eq16181, bd16183⟩ := rd_13045 ok16169 kd900
                          simp only [gi_of eq15435, gi_of eq15437, gi_of eq16178, gi_of eq16181] at rh16176
                          simp only [gi_of eq15437, gi_of eq16181] at rh16177
                          have el16184 := EI_lin xq16173
                          have eq16185 : hp16168 qa900 12 = .int zi15434 := Eq.trans (Fr.at (cq := 13012) F16170 kd900 (cd_o (by decide)) (by decide)) eq15433
                          rw [gi_of eq16181, gi_of eq16185, gi_of eq16178] at el16184
                          obtain ⟨qa16187, eq16186, kd16188⟩ := rd_13044 ok16169 kd900
                          obtain ⟨qa16190, eq16189, kd16191⟩ := rd_13039 ok16169 kd900
                          obtain ⟨qa16193, eq16192, kd16194⟩ := rd_13040 ok16169 kd900
                          have bd16195 : (0 : Int) ≤ zi16182.toInt ∧ zi16182.toInt ≤ 23 := (by omega)
                          refine lv_aload_n hx hb dX12_expression_237 rfl (lv_at hl 1 rfl) ?_
                          refine p_get (ci := 12) (v := .ref qa16187) (C := RX12) (T := TX12) (N := 69) hx hb hT iw_X12 hown hK hw hW kd900 (by decide) rfl rfl 44 (by decide) eq16186 (hT _ tb_1418) (fun _ h9 => h9) dX12_expression_238 ?_
                          refine lv_aload_n hx hb dX12_expression_241 rfl (lv_at hl 1 rfl) ?_
                          refine p_get (ci := 12) (v := .int zi16182) (C := RX12) (T := TX12) (N := 69) hx hb hT iw_X12 hown hK hw hW kd900 (by decide) rfl rfl 45 (by decide) eq16181 (hT _ tb_1419) (fun _ h9 => h9) dX12_expression_242 ?_
                          refine lv_aload_n hx hb dX12_expression_245 rfl (lv_at hl 1 rfl) ?_
                          have eq16196 : hp16168 qa900 5 = .ref qa14816 := Eq.trans (Fr.at (cq := 13005) F16170 kd900 (cd_o (by decide)) (by decide)) eq15453
                          refine p_get (ci := 12) (v := .ref qa14816) (C := RX12) (T := TX12) (N := 69) hx hb hT iw_X12 hown hK hw hW kd900 (by decide) rfl rfl 5 (by decide) eq16196 (hT _ tb_1379) (fun _ h9 => h9) dX12_expression_246 ?_
                          refine lv_aload_n hx hb dX12_expression_249 rfl (lv_at hl 1 rfl) ?_
                          have eq16197 : hp16168 qa900 11 = .int zi15430 := Eq.trans (Fr.at (cq := 13011) F16170 kd900 (cd_o (by decide)) (by decide)) eq15429
                          refine p_get (ci := 12) (v := .int zi15430) (C := RX12) (T := TX12) (N := 69) hx hb hT iw_X12 hown hK hw hW kd900 (by decide) rfl rfl 11 (by decide) eq16197 (hT _ tb_1385) (fun _ h9 => h9) dX12_expression_250 ?_
                          have eq16198 : hp16168 qa14816 (zi15430 : Int32).toNatClampNeg = .int zi15455 := Eq.trans (Fr.at (cq := 62000) F16170 kd14817 (cd_a (by decide)) (by decide)) eq15454
                          refine p_iald (v := zi15455) hx hb hK hw hW kd14817 (by decide) rfl (hW.len kd14817 (n := 403) rfl (by decide)) (vp_b bd15445 (by decide) (by decide)) eq16198 dX12_expression_253 ?_
                          refine p_iast (x := zi15455) hx hb hK hw hS hW kd16188 (by decide) rfl (hW.len kd16188 (n := 64) rfl (by decide)) (vp_b bd16195 (by decide) (by decide)) dX12_expression_254 (fun hp16199 eh16200 H locs hw hS => ?_)
                          have ok16201 := wr_89000 ok16169 kd16188 eh16200
                          refine lv_aload_n hx hb dX12_expression_255 rfl (lv_at hl 1 rfl) ?_
                          refine lv_dup hx hb dX12_expression_256 rfl ?_
                          have eq16202 : hp16199 qa900 45 = .int zi16182 := Eq.trans (up_at eh16200 (Or.inl (kd_ne kd900 kd16188 (by decide)))) eq16181
                          refine p_get (ci := 12) (v := .int zi16182) (C := RX12) (T := TX12) (N := 69) hx hb hT iw_X12 hown hK hw hW kd900 (by decide) rfl rfl 45 (by decide) eq16202 (hT _ tb_1419) (fun _ h9 => h9) dX12_expression_257 ?_
                          refine lv_iconst (v := 1) hx hb dX12_expression_260 (by decide) ?_
                          refine lv_iadd hx hb dX12_expression_261 (lv_topi (fun zi16203 ea16204 => ?_))
                          have bd16205 : (1 : Int) ≤ zi16203.toInt ∧ zi16203.toInt ≤ 24 := b_iadd ea16204 bd16195 bc_1 (by decide) (by decide) (by decide) (by decide)
                          have qe16206 : zi16203.toInt = (zi16182 : Int32).toInt + (1 : Int32).toInt := e_iadd ea16204 bd16195 bc_1 (by decide) (by decide)
                          have qe16207 : zi16203.toInt = zi16182.toInt + 1 := by have ha : (1 : Int32).toInt = 1 := (by decide); rw [ha] at qe16206; exact qe16206
                          refine p_put (ci := 12) (v := .int zi16203) (ty := .int) (C := RX12) (T := TX12) (N := 69) hx hb hT iw_X12 tyX12 tyX12_ok nmX12 hown hK hw hS hW kd900 (by decide) rfl rfl 45 (by decide) (hT _ tb_1419) (fun _ h9 => h9) rfl (by decide +kernel) rfl rfl dX12_expression_262 (fun hp16208 eh16209 H locs hw hS => ?_)
                          have ok16210 := wr_13045 bd16205 (by decide) (by decide) ok16201 kd900 eh16209
                          refine lv_aload_n hx hb dX12_expression_265 rfl (lv_at hl 1 rfl) ?_
                          have eq16211 : hp16208 qa900 13 = .int zi15432 := Eq.trans (up_at eh16209 (Or.inr (by decide))) (Eq.trans (up_at eh16200 (Or.inl (kd_ne kd900 kd16188 (by decide)))) (Eq.trans (Fr.at (cq := 13013) F16170 kd900 (cd_o (by decide)) (by decide)) eq15431))
                          have eq16212 : hp16208 qa900 11 = .int zi15430 := Eq.trans (up_at eh16209 (Or.inr (by decide))) (Eq.trans (up_at eh16200 (Or.inl (kd_ne kd900 kd16188 (by decide)))) eq16197)
                          refine kq_v hw hS hA (va_runV (As := []) (rest := []) ⟨hx, hb, hml, hown, hT⟩ (cX12_goesOn_0 l G cy ev K ln Ls hW _ hp16208 ok16210 qa900 kd900) (cwV 0 hT (good_V tb_1639 tb_1636 tb_1638 tb_56 tb_122) rfl rfl rfl (by decide +kernel) ⟨Nat.le_of_ble_eq_true rfl, Nat.le_of_ble_eq_true rfl⟩) (pool_preV (ci := 12) hK hE hS hA hw hW kd900 (by decide) rfl) rfl rfl hl.1 rfl (lv_room (Nat.le_of_ble_eq_true rfl)) dX12_expression_266 ⟨Nat.le_of_ble_eq_true rfl, Nat.le_of_ble_eq_true rfl⟩) (fun hp16213 H locs hq16216 hw hS => ?_)
                          obtain ⟨ok16214, F16215, ⟨zi16218, eq16219, bd16220⟩, rh16221, rh16222, rh16223⟩ := hq16216
                          have hw : PW G cy K ln Ls A hp16213 H := hw
                          obtain ⟨zi16225, eq16224, bd16226⟩ := rd_13013 ok16214 kd900
                          simp only [gi_of eq16211, gi_of eq16212, gi_of eq16219, gi_of eq16224] at rh16221
                          simp only [gi_of eq16211, gi_of eq16224] at rh16222
                          simp only [gi_of eq16212, gi_of eq16219, gi_of eq16224] at rh16223
                          have eq16227 : hp16213 qa900 44 = .ref qa16187 := Eq.trans (Fr.at (cq := 13044) F16215 kd900 (cd_o (by decide)) (by decide)) (Eq.trans (up_at eh16209 (Or.inr (by decide))) (Eq.trans (up_at eh16200 (Or.inl (kd_ne kd900 kd16188 (by decide)))) eq16186))
                          have eq16229 : hp16213 qa900 45 = .int zi16203 := Eq.trans (Fr.at (cq := 13045) F16215 kd900 (cd_o (by decide)) (by decide)) (hp_self eh16209)
                          have eq16230 : hp16213 qa900 12 = .int zi15434 := Eq.trans (Fr.at (cq := 13012) F16215 kd900 (cd_o (by decide)) (by decide)) (Eq.trans (up_at eh16209 (Or.inr (by decide))) (Eq.trans (up_at eh16200 (Or.inl (kd_ne kd900 kd16188 (by decide)))) eq16185))
                          have eq16231 : hp16213 qa900 39 = .ref qa16190 := Eq.trans (Fr.at (cq := 13039) F16215 kd900 (cd_o (by decide)) (by decide)) (Eq.trans (up_at eh16209 (Or.inr (by decide))) (Eq.trans (up_at eh16200 (Or.inl (kd_ne kd900 kd16188 (by decide)))) eq16189))
                          have eq16232 : hp16213 qa900 40 = .ref qa16193 := Eq.trans (Fr.at (cq := 13040) F16215 kd900 (cd_o (by decide)) (by decide)) (Eq.trans (up_at eh16209 (Or.inr (by decide))) (Eq.trans (up_at eh16200 (Or.inl (kd_ne kd900 kd16188 (by decide)))) eq16192))
                          have eq16233 : hp16213 qa900 38 = .int zi16179 := Eq.trans (Fr.at (cq := 13038) F16215 kd900 (cd_o (by decide)) (by decide)) (Eq.trans (up_at eh16209 (Or.inr (by decide))) (Eq.trans (up_at eh16200 (Or.inl (kd_ne kd900 kd16188 (by decide)))) eq16178))
                          have ei16228 : EIx hp16213 qa900 gc0 0 := EI_opr (i := (zi16182 : Int32).toNatClampNeg) (k := zi15455.toInt) xq16173 (CO_opr xq16175 (by have := toi bc_1; omega)) (mA_up eq16186 eq16227 rfl eh16200 (Eq.trans (show hp16213 qa16187 = hp16208 qa16187 from (funext fun i => Fr.at (cq := 89000) F16215 kd16188 (cd_a (by decide)) (by decide))) (show hp16208 qa16187 = hp16199 qa16187 from (by rw [eh16209]; exact up2_row (kd_ne kd16188 kd900 (by decide)))))) (by rw [gi_of eq16181]; have := clampN (x := zi16182) (by omega); omega) (by rw [gi_of eq16229, gi_of eq16181]; omega) (by rw [gi_of eq16230, gi_of eq16185]; omega) (mA_eq eq16189 eq16231 (Eq.trans (show hp16213 qa16190 = hp16208 qa16190 from (funext fun i => Fr.at (cq := 84000) F16215 kd16191 (cd_a (by decide)) (by decide))) (Eq.trans (show hp16208 qa16190 = hp16199 qa16190 from (by rw [eh16209]; exact up2_row (kd_ne kd16191 kd900 (by decide)))) (show hp16199 qa16190 = hp16168 qa16190 from (by rw [eh16200]; exact up2_row (kd_ne kd16191 kd16188 (by decide))))))) (mA_eq eq16192 eq16232 (Eq.trans (show hp16213 qa16193 = hp16208 qa16193 from (funext fun i => Fr.at (cq := 85000) F16215 kd16194 (cd_a (by decide)) (by decide))) (Eq.trans (show hp16208 qa16193 = hp16199 qa16193 from (by rw [eh16209]; exact up2_row (kd_ne kd16194 kd900 (by decide)))) (show hp16199 qa16193 = hp16168 qa16193 from (by rw [eh16200]; exact up2_row (kd_ne kd16194 kd16188 (by decide))))))) (by rw [gi_of eq16233, gi_of eq16178]; omega)
                          refine lv_goto (tgt := 12) hx hb dX12_expression_269 (by decide) ?_
                          have eq16234 : hp16213 qa900 19 = .int zi11 := Eq.trans (Fr.at (cq := 13019) F16215 kd900 (cd_o (by decide)) (by decide)) (Eq.trans (up_at eh16209 (Or.inr (by decide))) (Eq.trans (up_at eh16200 (Or.inl (kd_ne kd900 kd16188 (by decide)))) (Eq.trans (Fr.at (cq := 13019) F16170 kd900 (cd_o (by decide)) (by decide)) eq15467)))
                          have pd16235 : LPx hp16213 qa900 := LP_fr ok16169 kd900 (Fr.tr (Fr.put (cq := 13045) (Fr.put (cq := 89000) (Fr.rf) eh16200 kd16188 (cd_a (by decide)) (by decide)) eh16209 kd900 (cd_o (by decide)) (by decide)) F16215 (by decide)) (by decide) xq16174
                          exact ih14026 hp16213 zi16218 zi16225 zi15434 zi16179 zi16203 _ _ ls (by have := toi bc_1; have := hm14028; omega) ok16214 (Fr.tr (Fr.put (cq := 13045) (Fr.put (cq := 89000) (Fr.tr (Fr.tr (Fr.tr (Fr.tr (Fr.tr (Fr.rf) F8554 (by decide)) F14505 (by decide)) F14835 (by decide)) F15427 (by decide)) F16170 (by decide)) eh16200 kd16188 (cd_a (by decide)) (by decide)) eh16209 kd900 (cd_o (by decide)) (by decide)) F16215 (by decide)) (b_wid2 bd16220 (by decide) (by decide)) eq16219 (b_wid2 bd16226 (by decide) (by decide)) eq16224 (b_wid2 bd15447 (by decide) (by decide)) eq16230 (b_wid2 bd16180 (by decide) (by decide)) eq16233 (b_wid2 bd16205 (by decide) (by decide)) eq16229 (by have := toi bc_1; omega) (by have := toi bc_1; omega) (by have := toi bc_1; omega) (by have := toi bc_1; omega) ei16228 pd16235 (lv_sub hl [1, 2, 0] rfl) hw hS
                      · skip
                        subst cn16079
                        obtain ⟨zi16236, eq16237, bd16238⟩ := hc16075 rfl
                        have hx16239 : zi15432 = zi16236 := Value.int.inj (Eq.trans (Eq.symm eq15431) eq16237)
                        subst hx16239
                        have bd16240 : (0 : Int) ≤ zi15432.toInt ∧ zi15432.toInt ≤ 0 := b_meet bd16066 bd16238 (by decide) (by decide)
                        have rh16241 := rh16076 rfl
                        simp only [ge_of eq15453 eq15429 eq15454, toi bc_10] at rh16241
                        have rh16242 := rh16077 rfl
                        simp only [gi_of eq15431] at rh16242
                        refine lv_if_ne (tgt := 229) hx hb dX12_expression_217 (by decide) (fun _ => ?_) (fun c => absurd c (d_ne bc_1 bc_0 (by decide)))
                        refine lv_iconst (v := 1) hx hb dX12_expression_229 (by decide) ?_
                        refine lv_goto (tgt := 234) hx hb dX12_expression_230 (by decide) ?_
                        refine kq_v hw hS hA (va_runV (As := [.int 1]) (rest := []) ⟨hx, hb, hml, hown, hT⟩ (cX12_comesOut_0 l G cy ev K ln Ls hW _ hp15426 ok15428 qa900 1 gc0 kd900 (b_wid2 bc_1 (by decide) (by decide)) (by simp only [gi_of eq15435, gi_of eq15467, gi_of eq15437]; omega) (by simp only [gi_of eq15437]; omega) jx15443 jx15444) (cwV 1 hT (good_V tb_1715 tb_1712 tb_1714 tb_74 tb_122) rfl rfl rfl (by decide +kernel) ⟨Nat.le_of_ble_eq_true rfl, Nat.le_of_ble_eq_true rfl⟩) (pool_preV (ci := 12) hK hE hS hA hw hW kd900 (by decide) rfl) rfl rfl hl.1 rfl (lv_room (Nat.le_of_ble_eq_true rfl)) dX12_expression_234 ⟨Nat.le_of_ble_eq_true rfl, Nat.le_of_ble_eq_true rfl⟩) (fun hp16243 H locs hq16246 hw hS => ?_)
                        obtain ⟨ok16244, F16245, xq16248, xq16249, xq16250, rh16251, rh16252⟩ := hq16246
                        have hw : PW G cy K ln Ls A hp16243 H := hw
                        obtain ⟨zi16254, eq16253, bd16255⟩ := rd_13038 ok16244 kd900
                        obtain ⟨zi16257, eq16256, bd16258⟩ := rd_13045 ok16244 kd900
                        simp only [gi_of eq15435, gi_of eq15437, gi_of eq16253, gi_of eq16256] at rh16251
                        simp only [gi_of eq15437, gi_of eq16256] at rh16252
                        have el16259 := EI_lin xq16248
                        have eq16260 : hp16243 qa900 12 = .int zi15434 := Eq.trans (Fr.at (cq := 13012) F16245 kd900 (cd_o (by decide)) (by decide)) eq15433
                        rw [gi_of eq16256, gi_of eq16260, gi_of eq16253] at el16259
                        obtain ⟨qa16262, eq16261, kd16263⟩ := rd_13044 ok16244 kd900
                        obtain ⟨qa16265, eq16264, kd16266⟩ := rd_13039 ok16244 kd900
                        obtain ⟨qa16268, eq16267, kd16269⟩ := rd_13040 ok16244 kd900
                        have bd16270 : (0 : Int) ≤ zi16257.toInt ∧ zi16257.toInt ≤ 23 := (by omega)
                        refine lv_aload_n hx hb dX12_expression_237 rfl (lv_at hl 1 rfl) ?_
                        refine p_get (ci := 12) (v := .ref qa16262) (C := RX12) (T := TX12) (N := 69) hx hb hT iw_X12 hown hK hw hW kd900 (by decide) rfl rfl 44 (by decide) eq16261 (hT _ tb_1418) (fun _ h9 => h9) dX12_expression_238 ?_
                        refine lv_aload_n hx hb dX12_expression_241 rfl (lv_at hl 1 rfl) ?_
                        refine p_get (ci := 12) (v := .int zi16257) (C := RX12) (T := TX12) (N := 69) hx hb hT iw_X12 hown hK hw hW kd900 (by decide) rfl rfl 45 (by decide) eq16256 (hT _ tb_1419) (fun _ h9 => h9) dX12_expression_242 ?_
                        refine lv_aload_n hx hb dX12_expression_245 rfl (lv_at hl 1 rfl) ?_
                        have eq16271 : hp16243 qa900 5 = .ref qa14816 := Eq.trans (Fr.at (cq := 13005) F16245 kd900 (cd_o (by decide)) (by decide)) eq15453
                        refine p_get (ci := 12) (v := .ref qa14816) (C := RX12) (T := TX12) (N := 69) hx hb hT iw_X12 hown hK hw hW kd900 (by decide) rfl rfl 5 (by decide) eq16271 (hT _ tb_1379) (fun _ h9 => h9) dX12_expression_246 ?_
                        refine lv_aload_n hx hb dX12_expression_249 rfl (lv_at hl 1 rfl) ?_
                        have eq16272 : hp16243 qa900 11 = .int zi15430 := Eq.trans (Fr.at (cq := 13011) F16245 kd900 (cd_o (by decide)) (by decide)) eq15429
                        refine p_get (ci := 12) (v := .int zi15430) (C := RX12) (T := TX12) (N := 69) hx hb hT iw_X12 hown hK hw hW kd900 (by decide) rfl rfl 11 (by decide) eq16272 (hT _ tb_1385) (fun _ h9 => h9) dX12_expression_250 ?_
                        have eq16273 : hp16243 qa14816 (zi15430 : Int32).toNatClampNeg = .int zi15455 := Eq.trans (Fr.at (cq := 62000) F16245 kd14817 (cd_a (by decide)) (by decide)) eq15454
                        refine p_iald (v := zi15455) hx hb hK hw hW kd14817 (by decide) rfl (hW.len kd14817 (n := 403) rfl (by decide)) (vp_b bd15445 (by decide) (by decide)) eq16273 dX12_expression_253 ?_
                        refine p_iast (x := zi15455) hx hb hK hw hS hW kd16263 (by decide) rfl (hW.len kd16263 (n := 64) rfl (by decide)) (vp_b bd16270 (by decide) (by decide)) dX12_expression_254 (fun hp16274 eh16275 H locs hw hS => ?_)
                        have ok16276 := wr_89000 ok16244 kd16263 eh16275
                        refine lv_aload_n hx hb dX12_expression_255 rfl (lv_at hl 1 rfl) ?_
                        refine lv_dup hx hb dX12_expression_256 rfl ?_
                        have eq16277 : hp16274 qa900 45 = .int zi16257 := Eq.trans (up_at eh16275 (Or.inl (kd_ne kd900 kd16263 (by decide)))) eq16256
                        refine p_get (ci := 12) (v := .int zi16257) (C := RX12) (T := TX12) (N := 69) hx hb hT iw_X12 hown hK hw hW kd900 (by decide) rfl rfl 45 (by decide) eq16277 (hT _ tb_1419) (fun _ h9 => h9) dX12_expression_257 ?_
                        refine lv_iconst (v := 1) hx hb dX12_expression_260 (by decide) ?_
                        refine lv_iadd hx hb dX12_expression_261 (lv_topi (fun zi16278 ea16279 => ?_))
                        have bd16280 : (1 : Int) ≤ zi16278.toInt ∧ zi16278.toInt ≤ 24 := b_iadd ea16279 bd16270 bc_1 (by decide) (by decide) (by decide) (by decide)
                        have qe16281 : zi16278.toInt = (zi16257 : Int32).toInt + (1 : Int32).toInt := e_iadd ea16279 bd16270 bc_1 (by decide) (by decide)
                        have qe16282 : zi16278.toInt = zi16257.toInt + 1 := by have ha : (1 : Int32).toInt = 1 := (by decide); rw [ha] at qe16281; exact qe16281
                        refine p_put (ci := 12) (v := .int zi16278) (ty := .int) (C := RX12) (T := TX12) (N := 69) hx hb hT iw_X12 tyX12 tyX12_ok nmX12 hown hK hw hS hW kd900 (by decide) rfl rfl 45 (by decide) (hT _ tb_1419) (fun _ h9 => h9) rfl (by decide +kernel) rfl rfl dX12_expression_262 (fun hp16283 eh16284 H locs hw hS => ?_)
                        have ok16285 := wr_13045 bd16280 (by decide) (by decide) ok16276 kd900 eh16284
                        refine lv_aload_n hx hb dX12_expression_265 rfl (lv_at hl 1 rfl) ?_
                        have eq16286 : hp16283 qa900 13 = .int zi15432 := Eq.trans (up_at eh16284 (Or.inr (by decide))) (Eq.trans (up_at eh16275 (Or.inl (kd_ne kd900 kd16263 (by decide)))) (Eq.trans (Fr.at (cq := 13013) F16245 kd900 (cd_o (by decide)) (by decide)) eq15431))
                        have eq16287 : hp16283 qa900 11 = .int zi15430 := Eq.trans (up_at eh16284 (Or.inr (by decide))) (Eq.trans (up_at eh16275 (Or.inl (kd_ne kd900 kd16263 (by decide)))) eq16272)
                        refine kq_v hw hS hA (va_runV (As := []) (rest := []) ⟨hx, hb, hml, hown, hT⟩ (cX12_goesOn_0 l G cy ev K ln Ls hW _ hp16283 ok16285 qa900 kd900) (cwV 0 hT (good_V tb_1639 tb_1636 tb_1638 tb_56 tb_122) rfl rfl rfl (by decide +kernel) ⟨Nat.le_of_ble_eq_true rfl, Nat.le_of_ble_eq_true rfl⟩) (pool_preV (ci := 12) hK hE hS hA hw hW kd900 (by decide) rfl) rfl rfl hl.1 rfl (lv_room (Nat.le_of_ble_eq_true rfl)) dX12_expression_266 ⟨Nat.le_of_ble_eq_true rfl, Nat.le_of_ble_eq_true rfl⟩) (fun hp16288 H locs hq16291 hw hS => ?_)
                        obtain ⟨ok16289, F16290, ⟨zi16293, eq16294, bd16295⟩, rh16296, rh16297, rh16298⟩ := hq16291
                        have hw : PW G cy K ln Ls A hp16288 H := hw
                        obtain ⟨zi16300, eq16299, bd16301⟩ := rd_13013 ok16289 kd900
                        simp only [gi_of eq16286, gi_of eq16287, gi_of eq16294, gi_of eq16299] at rh16296
                        simp only [gi_of eq16286, gi_of eq16299] at rh16297
                        simp only [gi_of eq16287, gi_of eq16294, gi_of eq16299] at rh16298
                        have eq16302 : hp16288 qa900 44 = .ref qa16262 := Eq.trans (Fr.at (cq := 13044) F16290 kd900 (cd_o (by decide)) (by decide)) (Eq.trans (up_at eh16284 (Or.inr (by decide))) (Eq.trans (up_at eh16275 (Or.inl (kd_ne kd900 kd16263 (by decide)))) eq16261))
                        have eq16304 : hp16288 qa900 45 = .int zi16278 := Eq.trans (Fr.at (cq := 13045) F16290 kd900 (cd_o (by decide)) (by decide)) (hp_self eh16284)
                        have eq16305 : hp16288 qa900 12 = .int zi15434 := Eq.trans (Fr.at (cq := 13012) F16290 kd900 (cd_o (by decide)) (by decide)) (Eq.trans (up_at eh16284 (Or.inr (by decide))) (Eq.trans (up_at eh16275 (Or.inl (kd_ne kd900 kd16263 (by decide)))) eq16260))
                        have eq16306 : hp16288 qa900 39 = .ref qa16265 := Eq.trans (Fr.at (cq := 13039) F16290 kd900 (cd_o (by decide)) (by decide)) (Eq.trans (up_at eh16284 (Or.inr (by decide))) (Eq.trans (up_at eh16275 (Or.inl (kd_ne kd900 kd16263 (by decide)))) eq16264))
                        have eq16307 : hp16288 qa900 40 = .ref qa16268 := Eq.trans (Fr.at (cq := 13040) F16290 kd900 (cd_o (by decide)) (by decide)) (Eq.trans (up_at eh16284 (Or.inr (by decide))) (Eq.trans (up_at eh16275 (Or.inl (kd_ne kd900 kd16263 (by decide)))) eq16267))
                        have eq16308 : hp16288 qa900 38 = .int zi16254 := Eq.trans (Fr.at (cq := 13038) F16290 kd900 (cd_o (by decide)) (by decide)) (Eq.trans (up_at eh16284 (Or.inr (by decide))) (Eq.trans (up_at eh16275 (Or.inl (kd_ne kd900 kd16263 (by decide)))) eq16253))
                        have ei16303 : EIx hp16288 qa900 gc0 0 := EI_opr (i := (zi16257 : Int32).toNatClampNeg) (k := zi15455.toInt) xq16248 (CO_opr xq16250 (by have := toi bc_1; omega)) (mA_up eq16261 eq16302 rfl eh16275 (Eq.trans (show hp16288 qa16262 = hp16283 qa16262 from (funext fun i => Fr.at (cq := 89000) F16290 kd16263 (cd_a (by decide)) (by decide))) (show hp16283 qa16262 = hp16274 qa16262 from (by rw [eh16284]; exact up2_row (kd_ne kd16263 kd900 (by decide)))))) (by rw [gi_of eq16256]; have := clampN (x := zi16257) (by omega); omega) (by rw [gi_of eq16304, gi_of eq16256]; omega) (by rw [gi_of eq16305, gi_of eq16260]; omega) (mA_eq eq16264 eq16306 (Eq.trans (show hp16288 qa16265 = hp16283 qa16265 from (funext fun i => Fr.at (cq := 84000) F16290 kd16266 (cd_a (by decide)) (by decide))) (Eq.trans (show hp16283 qa16265 = hp16274 qa16265 from (by rw [eh16284]; exact up2_row (kd_ne kd16266 kd900 (by decide)))) (show hp16274 qa16265 = hp16243 qa16265 from (by rw [eh16275]; exact up2_row (kd_ne kd16266 kd16263 (by decide))))))) (mA_eq eq16267 eq16307 (Eq.trans (show hp16288 qa16268 = hp16283 qa16268 from (funext fun i => Fr.at (cq := 85000) F16290 kd16269 (cd_a (by decide)) (by decide))) (Eq.trans (show hp16283 qa16268 = hp16274 qa16268 from (by rw [eh16284]; exact up2_row (kd_ne kd16269 kd900 (by decide)))) (show hp16274 qa16268 = hp16243 qa16268 from (by rw [eh16275]; exact up2_row (kd_ne kd16269 kd16263 (by decide))))))) (by rw [gi_of eq16308, gi_of eq16253]; omega)
                        refine lv_goto (tgt := 12) hx hb dX12_expression_269 (by decide) ?_
                        have eq16309 : hp16288 qa900 19 = .int zi11 := Eq.trans (Fr.at (cq := 13019) F16290 kd900 (cd_o (by decide)) (by decide)) (Eq.trans (up_at eh16284 (Or.inr (by decide))) (Eq.trans (up_at eh16275 (Or.inl (kd_ne kd900 kd16263 (by decide)))) (Eq.trans (Fr.at (cq := 13019) F16245 kd900 (cd_o (by decide)) (by decide)) eq15467)))
                        have pd16310 : LPx hp16288 qa900 := LP_fr ok16244 kd900 (Fr.tr (Fr.put (cq := 13045) (Fr.put (cq := 89000) (Fr.rf) eh16275 kd16263 (cd_a (by decide)) (by decide)) eh16284 kd900 (cd_o (by decide)) (by decide)) F16290 (by decide)) (by decide) xq16249
                        exact ih14026 hp16288 zi16293 zi16300 zi15434 zi16254 zi16278 _ _ ls (by have := toi bc_1; have := hm14028; omega) ok16289 (Fr.tr (Fr.put (cq := 13045) (Fr.put (cq := 89000) (Fr.tr (Fr.tr (Fr.tr (Fr.tr (Fr.tr (Fr.rf) F8554 (by decide)) F14505 (by decide)) F14835 (by decide)) F15427 (by decide)) F16245 (by decide)) eh16275 kd16263 (cd_a (by decide)) (by decide)) eh16284 kd900 (cd_o (by decide)) (by decide)) F16290 (by decide)) (b_wid2 bd16295 (by decide) (by decide)) eq16294 (b_wid2 bd16301 (by decide) (by decide)) eq16299 (b_wid2 bd15447 (by decide) (by decide)) eq16305 (b_wid2 bd16255 (by decide) (by decide)) eq16308 (b_wid2 bd16280 (by decide) (by decide)) eq16304 (by have := toi bc_1; omega) (by have := toi bc_1; omega) (by have := toi bc_1; omega) (by have := toi bc_1; omega) ei16303 pd16310 (lv_sub hl [1, 2, 0] rfl) hw hS
                  · skip
                    subst cn15466
                    obtain ⟨zi16311, eq16312, bd16313⟩ := hc15462 rfl
                    have hx16314 : zi15432 = zi16311 := Value.int.inj (Eq.trans (Eq.symm eq15431) eq16312)
                    subst hx16314
                    have bd16315 : (0 : Int) ≤ zi15432.toInt ∧ zi15432.toInt ≤ 0 := b_meet bd15446 bd16313 (by decide) (by decide)
                    have rh16316 := rh15463 rfl
                    simp only [ge_of eq15453 eq15429 eq15454, toi bc_8] at rh16316
                    have rh16317 := rh15464 rfl
                    simp only [gi_of eq15431] at rh16317
                    refine lv_if_ne (tgt := 181) hx hb dX12_expression_151 (by decide) (fun _ => ?_) (fun c => absurd c (d_ne bc_1 bc_0 (by decide)))
                    refine lv_iconst (v := 1) hx hb dX12_expression_181 (by decide) ?_
                    refine lv_goto (tgt := 186) hx hb dX12_expression_182 (by decide) ?_
                    refine lv_istore_n (lv' := [(2, .int 1), (0, .ref qa900), (1, .int zi8)]) hx hb dX12_expression_186 rfl hl (by decide) rfl (fun ls hl => ?_)
                    refine lv_iload_n hx hb dX12_expression_187 rfl (lv_at hl 0 rfl) ?_
                    refine lv_if_ne (tgt := 210) hx hb dX12_expression_188 (by decide) (fun _ => ?_) (fun c => absurd c (d_ne bc_1 bc_0 (by decide)))
                    refine lv_aload_n hx hb dX12_expression_210 rfl (lv_at hl 1 rfl) ?_
                    refine lv_aload_n hx hb dX12_expression_211 rfl (lv_at hl 1 rfl) ?_
                    refine lv_bipush (v := 10) hx hb dX12_expression_212 (by decide) ?_
                    refine kq_i hw hS hA (va_runV (As := [.int 10]) (rest := [.ref qa900]) ⟨hx, hb, hml, hown, hT⟩ (cX12_is_0 l G cy ev K ln Ls hW _ hp15426 ok15428 qa900 10 kd900) (cwV 1 hT (good_V tb_1623 tb_1620 tb_1622 tb_52 tb_122) rfl rfl rfl (by decide +kernel) ⟨Nat.le_of_ble_eq_true rfl, Nat.le_of_ble_eq_true rfl⟩) (pool_preV (ci := 12) hK hE hS hA hw hW kd900 (by decide) rfl) rfl rfl hl.1 rfl (lv_room (Nat.le_of_ble_eq_true rfl)) dX12_expression_214 ⟨Nat.le_of_ble_eq_true rfl, Nat.le_of_ble_eq_true rfl⟩) (fun zi16322 hp16318 H locs hq16321 hw hS => ?_)
                    obtain ⟨ok16319, F16320, bd16323, hc16324, rh16325, rh16326, rh16327⟩ := hq16321
                    obtain rfl : hp15426 = hp16318 := (Fr.nil F16320).symm
                    have hw : PW G cy K ln Ls A hp15426 H := hw
                    rcases b01 bd16323 with cn16328 | cn16328
                    · skip
                      subst cn16328
                      have rh16329 := rh16327 rfl
                      simp only [ge_of eq15453 eq15429 eq15454, gi_of eq15431, toi bc_10] at rh16329
                      refine lv_if_ne (tgt := 229) hx hb dX12_expression_217 (by decide) (fun c => absurd (d_eq bc_0 bc_0) c) (fun _ => ?_)
                      refine lv_aload_n hx hb dX12_expression_220 rfl (lv_at hl 1 rfl) ?_
                      refine lv_bipush (v := 15) hx hb dX12_expression_221 (by decide) ?_
                      refine kq_i hw hS hA (va_runV (As := [.int 15]) (rest := [.ref qa900]) ⟨hx, hb, hml, hown, hT⟩ (cX12_is_0 l G cy ev K ln Ls hW _ hp15426 ok15428 qa900 15 kd900) (cwV 1 hT (good_V tb_1623 tb_1620 tb_1622 tb_52 tb_122) rfl rfl rfl (by decide +kernel) ⟨Nat.le_of_ble_eq_true rfl, Nat.le_of_ble_eq_true rfl⟩) (pool_preV (ci := 12) hK hE hS hA hw hW kd900 (by decide) rfl) rfl rfl hl.1 rfl (lv_room (Nat.le_of_ble_eq_true rfl)) dX12_expression_223 ⟨Nat.le_of_ble_eq_true rfl, Nat.le_of_ble_eq_true rfl⟩) (fun zi16334 hp16330 H locs hq16333 hw hS => ?_)
                      obtain ⟨ok16331, F16332, bd16335, hc16336, rh16337, rh16338, rh16339⟩ := hq16333
                      obtain rfl : hp15426 = hp16330 := (Fr.nil F16332).symm
                      have hw : PW G cy K ln Ls A hp15426 H := hw
                      rcases b01 bd16335 with cn16340 | cn16340
                      · skip
                        subst cn16340
                        have rh16341 := rh16339 rfl
                        simp only [ge_of eq15453 eq15429 eq15454, gi_of eq15431, toi bc_15] at rh16341
                        refine lv_if_eq (tgt := 233) hx hb dX12_expression_226 (by decide) (fun _ => ?_) (fun c => absurd (d_eq bc_0 bc_0) c)
                        refine lv_iconst (v := 0) hx hb dX12_expression_233 (by decide) ?_
                        refine kq_v hw hS hA (va_runV (As := [.int 0]) (rest := []) ⟨hx, hb, hml, hown, hT⟩ (cX12_comesOut_0 l G cy ev K ln Ls hW _ hp15426 ok15428 qa900 0 gc0 kd900 (b_wid2 bc_0 (by decide) (by decide)) (by simp only [gi_of eq15435, gi_of eq15467, gi_of eq15437]; omega) (by simp only [gi_of eq15437]; omega) jx15443 jx15444) (cwV 1 hT (good_V tb_1715 tb_1712 tb_1714 tb_74 tb_122) rfl rfl rfl (by decide +kernel) ⟨Nat.le_of_ble_eq_true rfl, Nat.le_of_ble_eq_true rfl⟩) (pool_preV (ci := 12) hK hE hS hA hw hW kd900 (by decide) rfl) rfl rfl hl.1 rfl (lv_room (Nat.le_of_ble_eq_true rfl)) dX12_expression_234 ⟨Nat.le_of_ble_eq_true rfl, Nat.le_of_ble_eq_true rfl⟩) (fun hp16342 H locs hq16345 hw hS => ?_)
                        obtain ⟨ok16343, F16344, xq16347, xq16348, xq16349, rh16350, rh16351⟩ := hq16345
                        have hw : PW G cy K ln Ls A hp16342 H := hw
                        obtain ⟨zi16353, eq16352, bd16354⟩ := rd_13038 ok16343 kd900
                        obtain ⟨zi16356, eq16355, bd16357⟩ := rd_13045 ok16343 kd900
                        simp only [gi_of eq15435, gi_of eq15437, gi_of eq16352, gi_of eq16355] at rh16350
                        simp only [gi_of eq15437, gi_of eq16355] at rh16351
                        have el16358 := EI_lin xq16347
                        have eq16359 : hp16342 qa900 12 = .int zi15434 := Eq.trans (Fr.at (cq := 13012) F16344 kd900 (cd_o (by decide)) (by decide)) eq15433
                        rw [gi_of eq16355, gi_of eq16359, gi_of eq16352] at el16358
                        obtain ⟨qa16361, eq16360, kd16362⟩ := rd_13044 ok16343 kd900
                        obtain ⟨qa16364, eq16363, kd16365⟩ := rd_13039 ok16343 kd900
                        obtain ⟨qa16367, eq16366, kd16368⟩ := rd_13040 ok16343 kd900
                        have bd16369 : (0 : Int) ≤ zi16356.toInt ∧ zi16356.toInt ≤ 23 := (by omega)
                        refine lv_aload_n hx hb dX12_expression_237 rfl (lv_at hl 1 rfl) ?_
                        refine p_get (ci := 12) (v := .ref qa16361) (C := RX12) (T := TX12) (N := 69) hx hb hT iw_X12 hown hK hw hW kd900 (by decide) rfl rfl 44 (by decide) eq16360 (hT _ tb_1418) (fun _ h9 => h9) dX12_expression_238 ?_
                        refine lv_aload_n hx hb dX12_expression_241 rfl (lv_at hl 1 rfl) ?_
                        refine p_get (ci := 12) (v := .int zi16356) (C := RX12) (T := TX12) (N := 69) hx hb hT iw_X12 hown hK hw hW kd900 (by decide) rfl rfl 45 (by decide) eq16355 (hT _ tb_1419) (fun _ h9 => h9) dX12_expression_242 ?_
                        refine lv_aload_n hx hb dX12_expression_245 rfl (lv_at hl 1 rfl) ?_
                        have eq16370 : hp16342 qa900 5 = .ref qa14816 := Eq.trans (Fr.at (cq := 13005) F16344 kd900 (cd_o (by decide)) (by decide)) eq15453
                        refine p_get (ci := 12) (v := .ref qa14816) (C := RX12) (T := TX12) (N := 69) hx hb hT iw_X12 hown hK hw hW kd900 (by decide) rfl rfl 5 (by decide) eq16370 (hT _ tb_1379) (fun _ h9 => h9) dX12_expression_246 ?_
                        refine lv_aload_n hx hb dX12_expression_249 rfl (lv_at hl 1 rfl) ?_
                        have eq16371 : hp16342 qa900 11 = .int zi15430 := Eq.trans (Fr.at (cq := 13011) F16344 kd900 (cd_o (by decide)) (by decide)) eq15429
                        refine p_get (ci := 12) (v := .int zi15430) (C := RX12) (T := TX12) (N := 69) hx hb hT iw_X12 hown hK hw hW kd900 (by decide) rfl rfl 11 (by decide) eq16371 (hT _ tb_1385) (fun _ h9 => h9) dX12_expression_250 ?_
                        have eq16372 : hp16342 qa14816 (zi15430 : Int32).toNatClampNeg = .int zi15455 := Eq.trans (Fr.at (cq := 62000) F16344 kd14817 (cd_a (by decide)) (by decide)) eq15454
                        refine p_iald (v := zi15455) hx hb hK hw hW kd14817 (by decide) rfl (hW.len kd14817 (n := 403) rfl (by decide)) (vp_b bd15445 (by decide) (by decide)) eq16372 dX12_expression_253 ?_
                        refine p_iast (x := zi15455) hx hb hK hw hS hW kd16362 (by decide) rfl (hW.len kd16362 (n := 64) rfl (by decide)) (vp_b bd16369 (by decide) (by decide)) dX12_expression_254 (fun hp16373 eh16374 H locs hw hS => ?_)
                        have ok16375 := wr_89000 ok16343 kd16362 eh16374
                        refine lv_aload_n hx hb dX12_expression_255 rfl (lv_at hl 1 rfl) ?_
                        refine lv_dup hx hb dX12_expression_256 rfl ?_
                        have eq16376 : hp16373 qa900 45 = .int zi16356 := Eq.trans (up_at eh16374 (Or.inl (kd_ne kd900 kd16362 (by decide)))) eq16355
                        refine p_get (ci := 12) (v := .int zi16356) (C := RX12) (T := TX12) (N := 69) hx hb hT iw_X12 hown hK hw hW kd900 (by decide) rfl rfl 45 (by decide) eq16376 (hT _ tb_1419) (fun _ h9 => h9) dX12_expression_257 ?_
                        refine lv_iconst (v := 1) hx hb dX12_expression_260 (by decide) ?_
                        refine lv_iadd hx hb dX12_expression_261 (lv_topi (fun zi16377 ea16378 => ?_))
                        have bd16379 : (1 : Int) ≤ zi16377.toInt ∧ zi16377.toInt ≤ 24 := b_iadd ea16378 bd16369 bc_1 (by decide) (by decide) (by decide) (by decide)
                        have qe16380 : zi16377.toInt = (zi16356 : Int32).toInt + (1 : Int32).toInt := e_iadd ea16378 bd16369 bc_1 (by decide) (by decide)
                        have qe16381 : zi16377.toInt = zi16356.toInt + 1 := by have ha : (1 : Int32).toInt = 1 := (by decide); rw [ha] at qe16380; exact qe16380
                        refine p_put (ci := 12) (v := .int zi16377) (ty := .int) (C := RX12) (T := TX12) (N := 69) hx hb hT iw_X12 tyX12 tyX12_ok nmX12 hown hK hw hS hW kd900 (by decide) rfl rfl 45 (by decide) (hT _ tb_1419) (fun _ h9 => h9) rfl (by decide +kernel) rfl rfl dX12_expression_262 (fun hp16382 eh16383 H locs hw hS => ?_)
                        have ok16384 := wr_13045 bd16379 (by decide) (by decide) ok16375 kd900 eh16383
                        refine lv_aload_n hx hb dX12_expression_265 rfl (lv_at hl 1 rfl) ?_
                        have eq16385 : hp16382 qa900 13 = .int zi15432 := Eq.trans (up_at eh16383 (Or.inr (by decide))) (Eq.trans (up_at eh16374 (Or.inl (kd_ne kd900 kd16362 (by decide)))) (Eq.trans (Fr.at (cq := 13013) F16344 kd900 (cd_o (by decide)) (by decide)) eq15431))
                        have eq16386 : hp16382 qa900 11 = .int zi15430 := Eq.trans (up_at eh16383 (Or.inr (by decide))) (Eq.trans (up_at eh16374 (Or.inl (kd_ne kd900 kd16362 (by decide)))) eq16371)
                        refine kq_v hw hS hA (va_runV (As := []) (rest := []) ⟨hx, hb, hml, hown, hT⟩ (cX12_goesOn_0 l G cy ev K ln Ls hW _ hp16382 ok16384 qa900 kd900) (cwV 0 hT (good_V tb_1639 tb_1636 tb_1638 tb_56 tb_122) rfl rfl rfl (by decide +kernel) ⟨Nat.le_of_ble_eq_true rfl, Nat.le_of_ble_eq_true rfl⟩) (pool_preV (ci := 12) hK hE hS hA hw hW kd900 (by decide) rfl) rfl rfl hl.1 rfl (lv_room (Nat.le_of_ble_eq_true rfl)) dX12_expression_266 ⟨Nat.le_of_ble_eq_true rfl, Nat.le_of_ble_eq_true rfl⟩) (fun hp16387 H locs hq16390 hw hS => ?_)
                        obtain ⟨ok16388, F16389, ⟨zi16392, eq16393, bd16394⟩, rh16395, rh16396, rh16397⟩ := hq16390
                        have hw : PW G cy K ln Ls A hp16387 H := hw
                        obtain ⟨zi16399, eq16398, bd16400⟩ := rd_13013 ok16388 kd900
                        simp only [gi_of eq16385, gi_of eq16386, gi_of eq16393, gi_of eq16398] at rh16395
                        simp only [gi_of eq16385, gi_of eq16398] at rh16396
                        simp only [gi_of eq16386, gi_of eq16393, gi_of eq16398] at rh16397
                        have eq16401 : hp16387 qa900 44 = .ref qa16361 := Eq.trans (Fr.at (cq := 13044) F16389 kd900 (cd_o (by decide)) (by decide)) (Eq.trans (up_at eh16383 (Or.inr (by decide))) (Eq.trans (up_at eh16374 (Or.inl (kd_ne kd900 kd16362 (by decide)))) eq16360))
                        have eq16403 : hp16387 qa900 45 = .int zi16377 := Eq.trans (Fr.at (cq := 13045) F16389 kd900 (cd_o (by decide)) (by decide)) (hp_self eh16383)
                        have eq16404 : hp16387 qa900 12 = .int zi15434 := Eq.trans (Fr.at (cq := 13012) F16389 kd900 (cd_o (by decide)) (by decide)) (Eq.trans (up_at eh16383 (Or.inr (by decide))) (Eq.trans (up_at eh16374 (Or.inl (kd_ne kd900 kd16362 (by decide)))) eq16359))
                        have eq16405 : hp16387 qa900 39 = .ref qa16364 := Eq.trans (Fr.at (cq := 13039) F16389 kd900 (cd_o (by decide)) (by decide)) (Eq.trans (up_at eh16383 (Or.inr (by decide))) (Eq.trans (up_at eh16374 (Or.inl (kd_ne kd900 kd16362 (by decide)))) eq16363))
                        have eq16406 : hp16387 qa900 40 = .ref qa16367 := Eq.trans (Fr.at (cq := 13040) F16389 kd900 (cd_o (by decide)) (by decide)) (Eq.trans (up_at eh16383 (Or.inr (by decide))) (Eq.trans (up_at eh16374 (Or.inl (kd_ne kd900 kd16362 (by decide)))) eq16366))
                        have eq16407 : hp16387 qa900 38 = .int zi16353 := Eq.trans (Fr.at (cq := 13038) F16389 kd900 (cd_o (by decide)) (by decide)) (Eq.trans (up_at eh16383 (Or.inr (by decide))) (Eq.trans (up_at eh16374 (Or.inl (kd_ne kd900 kd16362 (by decide)))) eq16352))
                        have ei16402 : EIx hp16387 qa900 gc0 0 := EI_opr (i := (zi16356 : Int32).toNatClampNeg) (k := zi15455.toInt) xq16347 (CO_opr xq16349 (by have := toi bc_0; omega)) (mA_up eq16360 eq16401 rfl eh16374 (Eq.trans (show hp16387 qa16361 = hp16382 qa16361 from (funext fun i => Fr.at (cq := 89000) F16389 kd16362 (cd_a (by decide)) (by decide))) (show hp16382 qa16361 = hp16373 qa16361 from (by rw [eh16383]; exact up2_row (kd_ne kd16362 kd900 (by decide)))))) (by rw [gi_of eq16355]; have := clampN (x := zi16356) (by omega); omega) (by rw [gi_of eq16403, gi_of eq16355]; omega) (by rw [gi_of eq16404, gi_of eq16359]; omega) (mA_eq eq16363 eq16405 (Eq.trans (show hp16387 qa16364 = hp16382 qa16364 from (funext fun i => Fr.at (cq := 84000) F16389 kd16365 (cd_a (by decide)) (by decide))) (Eq.trans (show hp16382 qa16364 = hp16373 qa16364 from (by rw [eh16383]; exact up2_row (kd_ne kd16365 kd900 (by decide)))) (show hp16373 qa16364 = hp16342 qa16364 from (by rw [eh16374]; exact up2_row (kd_ne kd16365 kd16362 (by decide))))))) (mA_eq eq16366 eq16406 (Eq.trans (show hp16387 qa16367 = hp16382 qa16367 from (funext fun i => Fr.at (cq := 85000) F16389 kd16368 (cd_a (by decide)) (by decide))) (Eq.trans (show hp16382 qa16367 = hp16373 qa16367 from (by rw [eh16383]; exact up2_row (kd_ne kd16368 kd900 (by decide)))) (show hp16373 qa16367 = hp16342 qa16367 from (by rw [eh16374]; exact up2_row (kd_ne kd16368 kd16362 (by decide))))))) (by rw [gi_of eq16407, gi_of eq16352]; omega)
                        refine lv_goto (tgt := 12) hx hb dX12_expression_269 (by decide) ?_
                        have eq16408 : hp16387 qa900 19 = .int zi11 := Eq.trans (Fr.at (cq := 13019) F16389 kd900 (cd_o (by decide)) (by decide)) (Eq.trans (up_at eh16383 (Or.inr (by decide))) (Eq.trans (up_at eh16374 (Or.inl (kd_ne kd900 kd16362 (by decide)))) (Eq.trans (Fr.at (cq := 13019) F16344 kd900 (cd_o (by decide)) (by decide)) eq15467)))
                        have pd16409 : LPx hp16387 qa900 := LP_fr ok16343 kd900 (Fr.tr (Fr.put (cq := 13045) (Fr.put (cq := 89000) (Fr.rf) eh16374 kd16362 (cd_a (by decide)) (by decide)) eh16383 kd900 (cd_o (by decide)) (by decide)) F16389 (by decide)) (by decide) xq16348
                        exact ih14026 hp16387 zi16392 zi16399 zi15434 zi16353 zi16377 _ _ ls (by have := toi bc_1; have := hm14028; omega) ok16388 (Fr.tr (Fr.put (cq := 13045) (Fr.put (cq := 89000) (Fr.tr (Fr.tr (Fr.tr (Fr.tr (Fr.tr (Fr.rf) F8554 (by decide)) F14505 (by decide)) F14835 (by decide)) F15427 (by decide)) F16344 (by decide)) eh16374 kd16362 (cd_a (by decide)) (by decide)) eh16383 kd900 (cd_o (by decide)) (by decide)) F16389 (by decide)) (b_wid2 bd16394 (by decide) (by decide)) eq16393 (b_wid2 bd16400 (by decide) (by decide)) eq16398 (b_wid2 bd15447 (by decide) (by decide)) eq16404 (b_wid2 bd16354 (by decide) (by decide)) eq16407 (b_wid2 bd16379 (by decide) (by decide)) eq16403 (by have := toi bc_1; omega) (by have := toi bc_1; omega) (by have := toi bc_1; omega) (by have := toi bc_1; omega) ei16402 pd16409 (lv_sub hl [1, 2, 0] rfl) hw hS
                      · skip
                        subst cn16340
                        obtain ⟨zi16410, eq16411, bd16412⟩ := hc16336 rfl
                        have hx16413 : zi15432 = zi16410 := Value.int.inj (Eq.trans (Eq.symm eq15431) eq16411)
                        subst hx16413
                        have bd16414 : (0 : Int) ≤ zi15432.toInt ∧ zi15432.toInt ≤ 0 := b_meet bd16315 bd16412 (by decide) (by decide)
                        have rh16415 := rh16337 rfl
                        simp only [ge_of eq15453 eq15429 eq15454, toi bc_15] at rh16415
                        have rh16416 := rh16338 rfl
                        simp only [gi_of eq15431] at rh16416
                        refine lv_if_eq (tgt := 233) hx hb dX12_expression_226 (by decide) (fun c => absurd c (d_ne bc_1 bc_0 (by decide))) (fun _ => ?_)
                        refine lv_iconst (v := 1) hx hb dX12_expression_229 (by decide) ?_
                        refine lv_goto (tgt := 234) hx hb dX12_expression_230 (by decide) ?_
                        refine kq_v hw hS hA (va_runV (As := [.int 1]) (rest := []) ⟨hx, hb, hml, hown, hT⟩ (cX12_comesOut_0 l G cy ev K ln Ls hW _ hp15426 ok15428 qa900 1 gc0 kd900 (b_wid2 bc_1 (by decide) (by decide)) (by simp only [gi_of eq15435, gi_of eq15467, gi_of eq15437]; omega) (by simp only [gi_of eq15437]; omega) jx15443 jx15444) (cwV 1 hT (good_V tb_1715 tb_1712 tb_1714 tb_74 tb_122) rfl rfl rfl (by decide +kernel) ⟨Nat.le_of_ble_eq_true rfl, Nat.le_of_ble_eq_true rfl⟩) (pool_preV (ci := 12) hK hE hS hA hw hW kd900 (by decide) rfl) rfl rfl hl.1 rfl (lv_room (Nat.le_of_ble_eq_true rfl)) dX12_expression_234 ⟨Nat.le_of_ble_eq_true rfl, Nat.le_of_ble_eq_true rfl⟩) (fun hp16417 H locs hq16420 hw hS => ?_)
                        obtain ⟨ok16418, F16419, xq16422, xq16423, xq16424, rh16425, rh16426⟩ := hq16420
                        have hw : PW G cy K ln Ls A hp16417 H := hw
                        obtain ⟨zi16428, eq16427, bd16429⟩ := rd_13038 ok16418 kd900
                        obtain ⟨zi16431, eq16430, bd16432⟩ := rd_13045 ok16418 kd900
                        simp only [gi_of eq15435, gi_of eq15437, gi_of eq16427, gi_of eq16430] at rh16425
                        simp only [gi_of eq15437, gi_of eq16430] at rh16426
                        have el16433 := EI_lin xq16422
                        have eq16434 : hp16417 qa900 12 = .int zi15434 := Eq.trans (Fr.at (cq := 13012) F16419 kd900 (cd_o (by decide)) (by decide)) eq15433
                        rw [gi_of eq16430, gi_of eq16434, gi_of eq16427] at el16433
                        obtain ⟨qa16436, eq16435, kd16437⟩ := rd_13044 ok16418 kd900
                        obtain ⟨qa16439, eq16438, kd16440⟩ := rd_13039 ok16418 kd900
                        obtain ⟨qa16442, eq16441, kd16443⟩ := rd_13040 ok16418 kd900
                        have bd16444 : (0 : Int) ≤ zi16431.toInt ∧ zi16431.toInt ≤ 23 := (by omega)
                        refine lv_aload_n hx hb dX12_expression_237 rfl (lv_at hl 1 rfl) ?_
                        refine p_get (ci := 12) (v := .ref qa16436) (C := RX12) (T := TX12) (N := 69) hx hb hT iw_X12 hown hK hw hW kd900 (by decide) rfl rfl 44 (by decide) eq16435 (hT _ tb_1418) (fun _ h9 => h9) dX12_expression_238 ?_
                        refine lv_aload_n hx hb dX12_expression_241 rfl (lv_at hl 1 rfl) ?_
                        refine p_get (ci := 12) (v := .int zi16431) (C := RX12) (T := TX12) (N := 69) hx hb hT iw_X12 hown hK hw hW kd900 (by decide) rfl rfl 45 (by decide) eq16430 (hT _ tb_1419) (fun _ h9 => h9) dX12_expression_242 ?_
                        refine lv_aload_n hx hb dX12_expression_245 rfl (lv_at hl 1 rfl) ?_
                        have eq16445 : hp16417 qa900 5 = .ref qa14816 := Eq.trans (Fr.at (cq := 13005) F16419 kd900 (cd_o (by decide)) (by decide)) eq15453
                        refine p_get (ci := 12) (v := .ref qa14816) (C := RX12) (T := TX12) (N := 69) hx hb hT iw_X12 hown hK hw hW kd900 (by decide) rfl rfl 5 (by decide) eq16445 (hT _ tb_1379) (fun _ h9 => h9) dX12_expression_246 ?_
                        refine lv_aload_n hx hb dX12_expression_249 rfl (lv_at hl 1 rfl) ?_
                        have eq16446 : hp16417 qa900 11 = .int zi15430 := Eq.trans (Fr.at (cq := 13011) F16419 kd900 (cd_o (by decide)) (by decide)) eq15429
                        refine p_get (ci := 12) (v := .int zi15430) (C := RX12) (T := TX12) (N := 69) hx hb hT iw_X12 hown hK hw hW kd900 (by decide) rfl rfl 11 (by decide) eq16446 (hT _ tb_1385) (fun _ h9 => h9) dX12_expression_250 ?_
                        have eq16447 : hp16417 qa14816 (zi15430 : Int32).toNatClampNeg = .int zi15455 := Eq.trans (Fr.at (cq := 62000) F16419 kd14817 (cd_a (by decide)) (by decide)) eq15454
                        refine p_iald (v := zi15455) hx hb hK hw hW kd14817 (by decide) rfl (hW.len kd14817 (n := 403) rfl (by decide)) (vp_b bd15445 (by decide) (by decide)) eq16447 dX12_expression_253 ?_
                        refine p_iast (x := zi15455) hx hb hK hw hS hW kd16437 (by decide) rfl (hW.len kd16437 (n := 64) rfl (by decide)) (vp_b bd16444 (by decide) (by decide)) dX12_expression_254 (fun hp16448 eh16449 H locs hw hS => ?_)
                        have ok16450 := wr_89000 ok16418 kd16437 eh16449
                        refine lv_aload_n hx hb dX12_expression_255 rfl (lv_at hl 1 rfl) ?_
                        refine lv_dup hx hb dX12_expression_256 rfl ?_
                        have eq16451 : hp16448 qa900 45 = .int zi16431 := Eq.trans (up_at eh16449 (Or.inl (kd_ne kd900 kd16437 (by decide)))) eq16430
                        refine p_get (ci := 12) (v := .int zi16431) (C := RX12) (T := TX12) (N := 69) hx hb hT iw_X12 hown hK hw hW kd900 (by decide) rfl rfl 45 (by decide) eq16451 (hT _ tb_1419) (fun _ h9 => h9) dX12_expression_257 ?_
                        refine lv_iconst (v := 1) hx hb dX12_expression_260 (by decide) ?_
                        refine lv_iadd hx hb dX12_expression_261 (lv_topi (fun zi16452 ea16453 => ?_))
                        have bd16454 : (1 : Int) ≤ zi16452.toInt ∧ zi16452.toInt ≤ 24 := b_iadd ea16453 bd16444 bc_1 (by decide) (by decide) (by decide) (by decide)
                        have qe16455 : zi16452.toInt = (zi16431 : Int32).toInt + (1 : Int32).toInt := e_iadd ea16453 bd16444 bc_1 (by decide) (by decide)
                        have qe16456 : zi16452.toInt = zi16431.toInt + 1 := by have ha : (1 : Int32).toInt = 1 := (by decide); rw [ha] at qe16455; exact qe16455
                        refine p_put (ci := 12) (v := .int zi16452) (ty := .int) (C := RX12) (T := TX12) (N := 69) hx hb hT iw_X12 tyX12 tyX12_ok nmX12 hown hK hw hS hW kd900 (by decide) rfl rfl 45 (by decide) (hT _ tb_1419) (fun _ h9 => h9) rfl (by decide +kernel) rfl rfl dX12_expression_262 (fun hp16457 eh16458 H locs hw hS => ?_)
                        have ok16459 := wr_13045 bd16454 (by decide) (by decide) ok16450 kd900 eh16458
                        refine lv_aload_n hx hb dX12_expression_265 rfl (lv_at hl 1 rfl) ?_
                        have eq16460 : hp16457 qa900 13 = .int zi15432 := Eq.trans (up_at eh16458 (Or.inr (by decide))) (Eq.trans (up_at eh16449 (Or.inl (kd_ne kd900 kd16437 (by decide)))) (Eq.trans (Fr.at (cq := 13013) F16419 kd900 (cd_o (by decide)) (by decide)) eq15431))
                        have eq16461 : hp16457 qa900 11 = .int zi15430 := Eq.trans (up_at eh16458 (Or.inr (by decide))) (Eq.trans (up_at eh16449 (Or.inl (kd_ne kd900 kd16437 (by decide)))) eq16446)
                        refine kq_v hw hS hA (va_runV (As := []) (rest := []) ⟨hx, hb, hml, hown, hT⟩ (cX12_goesOn_0 l G cy ev K ln Ls hW _ hp16457 ok16459 qa900 kd900) (cwV 0 hT (good_V tb_1639 tb_1636 tb_1638 tb_56 tb_122) rfl rfl rfl (by decide +kernel) ⟨Nat.le_of_ble_eq_true rfl, Nat.le_of_ble_eq_true rfl⟩) (pool_preV (ci := 12) hK hE hS hA hw hW kd900 (by decide) rfl) rfl rfl hl.1 rfl (lv_room (Nat.le_of_ble_eq_true rfl)) dX12_expression_266 ⟨Nat.le_of_ble_eq_true rfl, Nat.le_of_ble_eq_true rfl⟩) (fun hp16462 H locs hq16465 hw hS => ?_)
                        obtain ⟨ok16463, F16464, ⟨zi16467, eq16468, bd16469⟩, rh16470, rh16471, rh16472⟩ := hq16465
                        have hw : PW G cy K ln Ls A hp16462 H := hw
                        obtain ⟨zi16474, eq16473, bd16475⟩ := rd_13013 ok16463 kd900
                        simp only [gi_of eq16460, gi_of eq16461, gi_of eq16468, gi_of eq16473] at rh16470
                        simp only [gi_of eq16460, gi_of eq16473] at rh16471
                        simp only [gi_of eq16461, gi_of eq16468, gi_of eq16473] at rh16472
                        have eq16476 : hp16462 qa900 44 = .ref qa16436 := Eq.trans (Fr.at (cq := 13044) F16464 kd900 (cd_o (by decide)) (by decide)) (Eq.trans (up_at eh16458 (Or.inr (by decide))) (Eq.trans (up_at eh16449 (Or.inl (kd_ne kd900 kd16437 (by decide)))) eq16435))
                        have eq16478 : hp16462 qa900 45 = .int zi16452 := Eq.trans (Fr.at (cq := 13045) F16464 kd900 (cd_o (by decide)) (by decide)) (hp_self eh16458)
                        have eq16479 : hp16462 qa900 12 = .int zi15434 := Eq.trans (Fr.at (cq := 13012) F16464 kd900 (cd_o (by decide)) (by decide)) (Eq.trans (up_at eh16458 (Or.inr (by decide))) (Eq.trans (up_at eh16449 (Or.inl (kd_ne kd900 kd16437 (by decide)))) eq16434))
                        have eq16480 : hp16462 qa900 39 = .ref qa16439 := Eq.trans (Fr.at (cq := 13039) F16464 kd900 (cd_o (by decide)) (by decide)) (Eq.trans (up_at eh16458 (Or.inr (by decide))) (Eq.trans (up_at eh16449 (Or.inl (kd_ne kd900 kd16437 (by decide)))) eq16438))
                        have eq16481 : hp16462 qa900 40 = .ref qa16442 := Eq.trans (Fr.at (cq := 13040) F16464 kd900 (cd_o (by decide)) (by decide)) (Eq.trans (up_at eh16458 (Or.inr (by decide))) (Eq.trans (up_at eh16449 (Or.inl (kd_ne kd900 kd16437 (by decide)))) eq16441))
                        have eq16482 : hp16462 qa900 38 = .int zi16428 := Eq.trans (Fr.at (cq := 13038) F16464 kd900 (cd_o (by decide)) (by decide)) (Eq.trans (up_at eh16458 (Or.inr (by decide))) (Eq.trans (up_at eh16449 (Or.inl (kd_ne kd900 kd16437 (by decide)))) eq16427))
                        have ei16477 : EIx hp16462 qa900 gc0 0 := EI_opr (i := (zi16431 : Int32).toNatClampNeg) (k := zi15455.toInt) xq16422 (CO_opr xq16424 (by have := toi bc_1; omega)) (mA_up eq16435 eq16476 rfl eh16449 (Eq.trans (show hp16462 qa16436 = hp16457 qa16436 from (funext fun i => Fr.at (cq := 89000) F16464 kd16437 (cd_a (by decide)) (by decide))) (show hp16457 qa16436 = hp16448 qa16436 from (by rw [eh16458]; exact up2_row (kd_ne kd16437 kd900 (by decide)))))) (by rw [gi_of eq16430]; have := clampN (x := zi16431) (by omega); omega) (by rw [gi_of eq16478, gi_of eq16430]; omega) (by rw [gi_of eq16479, gi_of eq16434]; omega) (mA_eq eq16438 eq16480 (Eq.trans (show hp16462 qa16439 = hp16457 qa16439 from (funext fun i => Fr.at (cq := 84000) F16464 kd16440 (cd_a (by decide)) (by decide))) (Eq.trans (show hp16457 qa16439 = hp16448 qa16439 from (by rw [eh16458]; exact up2_row (kd_ne kd16440 kd900 (by decide)))) (show hp16448 qa16439 = hp16417 qa16439 from (by rw [eh16449]; exact up2_row (kd_ne kd16440 kd16437 (by decide))))))) (mA_eq eq16441 eq16481 (Eq.trans (show hp16462 qa16442 = hp16457 qa16442 from (funext fun i => Fr.at (cq := 85000) F16464 kd16443 (cd_a (by decide)) (by decide))) (Eq.trans (show hp16457 qa16442 = hp16448 qa16442 from (by rw [eh16458]; exact up2_row (kd_ne kd16443 kd900 (by decide)))) (show hp16448 qa16442 = hp16417 qa16442 from (by rw [eh16449]; exact up2_row (kd_ne kd16443 kd16437 (by decide))))))) (by rw [gi_of eq16482, gi_of eq16427]; omega)
                        refine lv_goto (tgt := 12) hx hb dX12_expression_269 (by decide) ?_
                        have eq16483 : hp16462 qa900 19 = .int zi11 := Eq.trans (Fr.at (cq := 13019) F16464 kd900 (cd_o (by decide)) (by decide)) (Eq.trans (up_at eh16458 (Or.inr (by decide))) (Eq.trans (up_at eh16449 (Or.inl (kd_ne kd900 kd16437 (by decide)))) (Eq.trans (Fr.at (cq := 13019) F16419 kd900 (cd_o (by decide)) (by decide)) eq15467)))
                        have pd16484 : LPx hp16462 qa900 := LP_fr ok16418 kd900 (Fr.tr (Fr.put (cq := 13045) (Fr.put (cq := 89000) (Fr.rf) eh16449 kd16437 (cd_a (by decide)) (by decide)) eh16458 kd900 (cd_o (by decide)) (by decide)) F16464 (by decide)) (by decide) xq16423
                        exact ih14026 hp16462 zi16467 zi16474 zi15434 zi16428 zi16452 _ _ ls (by have := toi bc_1; have := hm14028; omega) ok16463 (Fr.tr (Fr.put (cq := 13045) (Fr.put (cq := 89000) (Fr.tr (Fr.tr (Fr.tr (Fr.tr (Fr.tr (Fr.rf) F8554 (by decide)) F14505 (by decide)) F14835 (by decide)) F15427 (by decide)) F16419 (by decide)) eh16449 kd16437 (cd_a (by decide)) (by decide)) eh16458 kd900 (cd_o (by decide)) (by decide)) F16464 (by decide)) (b_wid2 bd16469 (by decide) (by decide)) eq16468 (b_wid2 bd16475 (by decide) (by decide)) eq16473 (b_wid2 bd15447 (by decide) (by decide)) eq16479 (b_wid2 bd16429 (by decide) (by decide)) eq16482 (b_wid2 bd16454 (by decide) (by decide)) eq16478 (by have := toi bc_1; omega) (by have := toi bc_1; omega) (by have := toi bc_1; omega) (by have := toi bc_1; omega) ei16477 pd16484 (lv_sub hl [1, 2, 0] rfl) hw hS
                    · skip
                      subst cn16328
                      obtain ⟨zi16485, eq16486, bd16487⟩ := hc16324 rfl
                      have hx16488 : zi15432 = zi16485 := Value.int.inj (Eq.trans (Eq.symm eq15431) eq16486)
                      subst hx16488
                      have bd16489 : (0 : Int) ≤ zi15432.toInt ∧ zi15432.toInt ≤ 0 := b_meet bd16315 bd16487 (by decide) (by decide)
                      have rh16490 := rh16325 rfl
                      simp only [ge_of eq15453 eq15429 eq15454, toi bc_10] at rh16490
                      have rh16491 := rh16326 rfl
                      simp only [gi_of eq15431] at rh16491
                      refine lv_if_ne (tgt := 229) hx hb dX12_expression_217 (by decide) (fun _ => ?_) (fun c => absurd c (d_ne bc_1 bc_0 (by decide)))
                      refine lv_iconst (v := 1) hx hb dX12_expression_229 (by decide) ?_
                      refine lv_goto (tgt := 234) hx hb dX12_expression_230 (by decide) ?_
                      refine kq_v hw hS hA (va_runV (As := [.int 1]) (rest := []) ⟨hx, hb, hml, hown, hT⟩ (cX12_comesOut_0 l G cy ev K ln Ls hW _ hp15426 ok15428 qa900 1 gc0 kd900 (b_wid2 bc_1 (by decide) (by decide)) (by simp only [gi_of eq15435, gi_of eq15467, gi_of eq15437]; omega) (by simp only [gi_of eq15437]; omega) jx15443 jx15444) (cwV 1 hT (good_V tb_1715 tb_1712 tb_1714 tb_74 tb_122) rfl rfl rfl (by decide +kernel) ⟨Nat.le_of_ble_eq_true rfl, Nat.le_of_ble_eq_true rfl⟩) (pool_preV (ci := 12) hK hE hS hA hw hW kd900 (by decide) rfl) rfl rfl hl.1 rfl (lv_room (Nat.le_of_ble_eq_true rfl)) dX12_expression_234 ⟨Nat.le_of_ble_eq_true rfl, Nat.le_of_ble_eq_true rfl⟩) (fun hp16492 H locs hq16495 hw hS => ?_)
                      obtain ⟨ok16493, F16494, xq16497, xq16498, xq16499, rh16500, rh16501⟩ := hq16495
                      have hw : PW G cy K ln Ls A hp16492 H := hw
                      obtain ⟨zi16503, eq16502, bd16504⟩ := rd_13038 ok16493 kd900
                      obtain ⟨zi16506, eq16505, bd16507⟩ := rd_13045 ok16493 kd900
                      simp only [gi_of eq15435, gi_of eq15437, gi_of eq16502, gi_of eq16505] at rh16500
                      simp only [gi_of eq15437, gi_of eq16505] at rh16501
                      have el16508 := EI_lin xq16497
                      have eq16509 : hp16492 qa900 12 = .int zi15434 := Eq.trans (Fr.at (cq := 13012) F16494 kd900 (cd_o (by decide)) (by decide)) eq15433
                      rw [gi_of eq16505, gi_of eq16509, gi_of eq16502] at el16508
                      obtain ⟨qa16511, eq16510, kd16512⟩ := rd_13044 ok16493 kd900
                      obtain ⟨qa16514, eq16513, kd16515⟩ := rd_13039 ok16493 kd900
                      obtain ⟨qa16517, eq16516, kd16518⟩ := rd_13040 ok16493 kd900
                      have bd16519 : (0 : Int) ≤ zi16506.toInt ∧ zi16506.toInt ≤ 23 := (by omega)
                      refine lv_aload_n hx hb dX12_expression_237 rfl (lv_at hl 1 rfl) ?_
                      refine p_get (ci := 12) (v := .ref qa16511) (C := RX12) (T := TX12) (N := 69) hx hb hT iw_X12 hown hK hw hW kd900 (by decide) rfl rfl 44 (by decide) eq16510 (hT _ tb_1418) (fun _ h9 => h9) dX12_expression_238 ?_
                      refine lv_aload_n hx hb dX12_expression_241 rfl (lv_at hl 1 rfl) ?_
                      refine p_get (ci := 12) (v := .int zi16506) (C := RX12) (T := TX12) (N := 69) hx hb hT iw_X12 hown hK hw hW kd900 (by decide) rfl rfl 45 (by decide) eq16505 (hT _ tb_1419) (fun _ h9 => h9) dX12_expression_242 ?_
                      refine lv_aload_n hx hb dX12_expression_245 rfl (lv_at hl 1 rfl) ?_
                      have eq16520 : hp16492 qa900 5 = .ref qa14816 := Eq.trans (Fr.at (cq := 13005) F16494 kd900 (cd_o (by decide)) (by decide)) eq15453
                      refine p_get (ci := 12) (v := .ref qa14816) (C := RX12) (T := TX12) (N := 69) hx hb hT iw_X12 hown hK hw hW kd900 (by decide) rfl rfl 5 (by decide) eq16520 (hT _ tb_1379) (fun _ h9 => h9) dX12_expression_246 ?_
                      refine lv_aload_n hx hb dX12_expression_249 rfl (lv_at hl 1 rfl) ?_
                      have eq16521 : hp16492 qa900 11 = .int zi15430 := Eq.trans (Fr.at (cq := 13011) F16494 kd900 (cd_o (by decide)) (by decide)) eq15429
                      refine p_get (ci := 12) (v := .int zi15430) (C := RX12) (T := TX12) (N := 69) hx hb hT iw_X12 hown hK hw hW kd900 (by decide) rfl rfl 11 (by decide) eq16521 (hT _ tb_1385) (fun _ h9 => h9) dX12_expression_250 ?_
                      have eq16522 : hp16492 qa14816 (zi15430 : Int32).toNatClampNeg = .int zi15455 := Eq.trans (Fr.at (cq := 62000) F16494 kd14817 (cd_a (by decide)) (by decide)) eq15454
                      refine p_iald (v := zi15455) hx hb hK hw hW kd14817 (by decide) rfl (hW.len kd14817 (n := 403) rfl (by decide)) (vp_b bd15445 (by decide) (by decide)) eq16522 dX12_expression_253 ?_
                      refine p_iast (x := zi15455) hx hb hK hw hS hW kd16512 (by decide) rfl (hW.len kd16512 (n := 64) rfl (by decide)) (vp_b bd16519 (by decide) (by decide)) dX12_expression_254 (fun hp16523 eh16524 H locs hw hS => ?_)
                      have ok16525 := wr_89000 ok16493 kd16512 eh16524
                      refine lv_aload_n hx hb dX12_expression_255 rfl (lv_at hl 1 rfl) ?_
                      refine lv_dup hx hb dX12_expression_256 rfl ?_
                      have eq16526 : hp16523 qa900 45 = .int zi16506 := Eq.trans (up_at eh16524 (Or.inl (kd_ne kd900 kd16512 (by decide)))) eq16505
                      refine p_get (ci := 12) (v := .int zi16506) (C := RX12) (T := TX12) (N := 69) hx hb hT iw_X12 hown hK hw hW kd900 (by decide) rfl rfl 45 (by decide) eq16526 (hT _ tb_1419) (fun _ h9 => h9) dX12_expression_257 ?_
                      refine lv_iconst (v := 1) hx hb dX12_expression_260 (by decide) ?_
                      refine lv_iadd hx hb dX12_expression_261 (lv_topi (fun zi16527 ea16528 => ?_))
                      have bd16529 : (1 : Int) ≤ zi16527.toInt ∧ zi16527.toInt ≤ 24 := b_iadd ea16528 bd16519 bc_1 (by decide) (by decide) (by decide) (by decide)
                      have qe16530 : zi16527.toInt = (zi16506 : Int32).toInt + (1 : Int32).toInt := e_iadd ea16528 bd16519 bc_1 (by decide) (by decide)
                      have qe16531 : zi16527.toInt = zi16506.toInt + 1 := by have ha : (1 : Int32).toInt = 1 := (by decide); rw [ha] at qe16530; exact qe16530
                      refine p_put (ci := 12) (v := .int zi16527) (ty := .int) (C := RX12) (T := TX12) (N := 69) hx hb hT iw_X12 tyX12 tyX12_ok nmX12 hown hK hw hS hW kd900 (by decide) rfl rfl 45 (by decide) (hT _ tb_1419) (fun _ h9 => h9) rfl (by decide +kernel) rfl rfl dX12_expression_262 (fun hp16532 eh16533 H locs hw hS => ?_)
                      have ok16534 := wr_13045 bd16529 (by decide) (by decide) ok16525 kd900 eh16533
                      refine lv_aload_n hx hb dX12_expression_265 rfl (lv_at hl 1 rfl) ?_
                      have eq16535 : hp16532 qa900 13 = .int zi15432 := Eq.trans (up_at eh16533 (Or.inr (by decide))) (Eq.trans (up_at eh16524 (Or.inl (kd_ne kd900 kd16512 (by decide)))) (Eq.trans (Fr.at (cq := 13013) F16494 kd900 (cd_o (by decide)) (by decide)) eq15431))
                      have eq16536 : hp16532 qa900 11 = .int zi15430 := Eq.trans (up_at eh16533 (Or.inr (by decide))) (Eq.trans (up_at eh16524 (Or.inl (kd_ne kd900 kd16512 (by decide)))) eq16521)
                      refine kq_v hw hS hA (va_runV (As := []) (rest := []) ⟨hx, hb, hml, hown, hT⟩ (cX12_goesOn_0 l G cy ev K ln Ls hW _ hp16532 ok16534 qa900 kd900) (cwV 0 hT (good_V tb_1639 tb_1636 tb_1638 tb_56 tb_122) rfl rfl rfl (by decide +kernel) ⟨Nat.le_of_ble_eq_true rfl, Nat.le_of_ble_eq_true rfl⟩) (pool_preV (ci := 12) hK hE hS hA hw hW kd900 (by decide) rfl) rfl rfl hl.1 rfl (lv_room (Nat.le_of_ble_eq_true rfl)) dX12_expression_266 ⟨Nat.le_of_ble_eq_true rfl, Nat.le_of_ble_eq_true rfl⟩) (fun hp16537 H locs hq16540 hw hS => ?_)
                      obtain ⟨ok16538, F16539, ⟨zi16542, eq16543, bd16544⟩, rh16545, rh16546, rh16547⟩ := hq16540
                      have hw : PW G cy K ln Ls A hp16537 H := hw
                      obtain ⟨zi16549, eq16548, bd16550⟩ := rd_13013 ok16538 kd900
                      simp only [gi_of eq16535, gi_of eq16536, gi_of eq16543, gi_of eq16548] at rh16545
                      simp only [gi_of eq16535, gi_of eq16548] at rh16546
                      simp only [gi_of eq16536, gi_of eq16543, gi_of eq16548] at rh16547
                      have eq16551 : hp16537 qa900 44 = .ref qa16511 := Eq.trans (Fr.at (cq := 13044) F16539 kd900 (cd_o (by decide)) (by decide)) (Eq.trans (up_at eh16533 (Or.inr (by decide))) (Eq.trans (up_at eh16524 (Or.inl (kd_ne kd900 kd16512 (by decide)))) eq16510))
                      have eq16553 : hp16537 qa900 45 = .int zi16527 := Eq.trans (Fr.at (cq := 13045) F16539 kd900 (cd_o (by decide)) (by decide)) (hp_self eh16533)
                      have eq16554 : hp16537 qa900 12 = .int zi15434 := Eq.trans (Fr.at (cq := 13012) F16539 kd900 (cd_o (by decide)) (by decide)) (Eq.trans (up_at eh16533 (Or.inr (by decide))) (Eq.trans (up_at eh16524 (Or.inl (kd_ne kd900 kd16512 (by decide)))) eq16509))
                      have eq16555 : hp16537 qa900 39 = .ref qa16514 := Eq.trans (Fr.at (cq := 13039) F16539 kd900 (cd_o (by decide)) (by decide)) (Eq.trans (up_at eh16533 (Or.inr (by decide))) (Eq.trans (up_at eh16524 (Or.inl (kd_ne kd900 kd16512 (by decide)))) eq16513))
                      have eq16556 : hp16537 qa900 40 = .ref qa16517 := Eq.trans (Fr.at (cq := 13040) F16539 kd900 (cd_o (by decide)) (by decide)) (Eq.trans (up_at eh16533 (Or.inr (by decide))) (Eq.trans (up_at eh16524 (Or.inl (kd_ne kd900 kd16512 (by decide)))) eq16516))
                      have eq16557 : hp16537 qa900 38 = .int zi16503 := Eq.trans (Fr.at (cq := 13038) F16539 kd900 (cd_o (by decide)) (by decide)) (Eq.trans (up_at eh16533 (Or.inr (by decide))) (Eq.trans (up_at eh16524 (Or.inl (kd_ne kd900 kd16512 (by decide)))) eq16502))
                      have ei16552 : EIx hp16537 qa900 gc0 0 := EI_opr (i := (zi16506 : Int32).toNatClampNeg) (k := zi15455.toInt) xq16497 (CO_opr xq16499 (by have := toi bc_1; omega)) (mA_up eq16510 eq16551 rfl eh16524 (Eq.trans (show hp16537 qa16511 = hp16532 qa16511 from (funext fun i => Fr.at (cq := 89000) F16539 kd16512 (cd_a (by decide)) (by decide))) (show hp16532 qa16511 = hp16523 qa16511 from (by rw [eh16533]; exact up2_row (kd_ne kd16512 kd900 (by decide)))))) (by rw [gi_of eq16505]; have := clampN (x := zi16506) (by omega); omega) (by rw [gi_of eq16553, gi_of eq16505]; omega) (by rw [gi_of eq16554, gi_of eq16509]; omega) (mA_eq eq16513 eq16555 (Eq.trans (show hp16537 qa16514 = hp16532 qa16514 from (funext fun i => Fr.at (cq := 84000) F16539 kd16515 (cd_a (by decide)) (by decide))) (Eq.trans (show hp16532 qa16514 = hp16523 qa16514 from (by rw [eh16533]; exact up2_row (kd_ne kd16515 kd900 (by decide)))) (show hp16523 qa16514 = hp16492 qa16514 from (by rw [eh16524]; exact up2_row (kd_ne kd16515 kd16512 (by decide))))))) (mA_eq eq16516 eq16556 (Eq.trans (show hp16537 qa16517 = hp16532 qa16517 from (funext fun i => Fr.at (cq := 85000) F16539 kd16518 (cd_a (by decide)) (by decide))) (Eq.trans (show hp16532 qa16517 = hp16523 qa16517 from (by rw [eh16533]; exact up2_row (kd_ne kd16518 kd900 (by decide)))) (show hp16523 qa16517 = hp16492 qa16517 from (by rw [eh16524]; exact up2_row (kd_ne kd16518 kd16512 (by decide))))))) (by rw [gi_of eq16557, gi_of eq16502]; omega)
                      refine lv_goto (tgt := 12) hx hb dX12_expression_269 (by decide) ?_
                      have eq16558 : hp16537 qa900 19 = .int zi11 := Eq.trans (Fr.at (cq := 13019) F16539 kd900 (cd_o (by decide)) (by decide)) (Eq.trans (up_at eh16533 (Or.inr (by decide))) (Eq.trans (up_at eh16524 (Or.inl (kd_ne kd900 kd16512 (by decide)))) (Eq.trans (Fr.at (cq := 13019) F16494 kd900 (cd_o (by decide)) (by decide)) eq15467)))
                      have pd16559 : LPx hp16537 qa900 := LP_fr ok16493 kd900 (Fr.tr (Fr.put (cq := 13045) (Fr.put (cq := 89000) (Fr.rf) eh16524 kd16512 (cd_a (by decide)) (by decide)) eh16533 kd900 (cd_o (by decide)) (by decide)) F16539 (by decide)) (by decide) xq16498
                      exact ih14026 hp16537 zi16542 zi16549 zi15434 zi16503 zi16527 _ _ ls (by have := toi bc_1; have := hm14028; omega) ok16538 (Fr.tr (Fr.put (cq := 13045) (Fr.put (cq := 89000) (Fr.tr (Fr.tr (Fr.tr (Fr.tr (Fr.tr (Fr.rf) F8554 (by decide)) F14505 (by decide)) F14835 (by decide)) F15427 (by decide)) F16494 (by decide)) eh16524 kd16512 (cd_a (by decide)) (by decide)) eh16533 kd900 (cd_o (by decide)) (by decide)) F16539 (by decide)) (b_wid2 bd16544 (by decide) (by decide)) eq16543 (b_wid2 bd16550 (by decide) (by decide)) eq16548 (b_wid2 bd15447 (by decide) (by decide)) eq16554 (b_wid2 bd16504 (by decide) (by decide)) eq16557 (b_wid2 bd16529 (by decide) (by decide)) eq16553 (by have := toi bc_1; omega) (by have := toi bc_1; omega) (by have := toi bc_1; omega) (by have := toi bc_1; omega) ei16552 pd16559 (lv_sub hl [1, 2, 0] rfl) hw hS
                have eq16564 : hp15204 qa900 19 = .int zi11 := Eq.trans (Fr.at (cq := 13019) F15205 kd900 (cd_o (by decide)) (by decide)) eq14853
                have lp16562 : ∀ (n16560 : Nat) (hp15204 : Nat → Nat → Value) (zi15208 : Int32) (zi15210 : Int32) (zi15212 : Int32) (zi15214 : Int32) (zi15216 : Int32) (H : Heap) (locs : List Loc) (ls : Array Slot), 1602 - 4*zi15208.toInt - zi15210.toInt < (n16560 : Int) → Ok K hp15204 → Fr [13011, 13012, 13013, 13014, 13038, 13045, 84000, 85000] K hp14833 hp15204 → ((0 : Int) ≤ zi15208.toInt ∧ zi15208.toInt ≤ 400) → hp15204 qa900 11 = .int zi15208 → ((0 : Int) ≤ zi15210.toInt ∧ zi15210.toInt ≤ 2) → hp15204 qa900 13 = .int zi15210 → ((0 : Int) ≤ zi15212.toInt ∧ zi15212.toInt ≤ 7) → hp15204 qa900 12 = .int zi15212 → ((0 : Int) ≤ zi15214.toInt ∧ zi15214.toInt ≤ 840) → hp15204 qa900 38 = .int zi15214 → ((0 : Int) ≤ zi15216.toInt ∧ zi15216.toInt ≤ 24) → hp15204 qa900 45 = .int zi15216 → (4*zi15208.toInt + zi15210.toInt ≥ 4*zi14848.toInt + zi14845.toInt) → (zi15210.toInt ≥ zi14845.toInt) → (zi15212.toInt ≤ 6 + zi15210.toInt) → (zi15214.toInt + zi15216.toInt ≤ 420*zi11.toInt + zi15208.toInt + zi15210.toInt) → (EIx hp15204 qa900 gc0 1) → (LPx hp15204 qa900) → lv_has ls 3 [(0, .ref qa900), (1, .int zi8)] → PW G cy K ln Ls A hp15204 H → va_S A s.heap H locs → W p l e ({ frames := 3, cells := 0, slots := 0, locals := 61 } : Room) s m ([.ref qa900] : List Value).toArray below meth c H locs 0 0 Q (F0 m 96 ls []) := by
                  intro n16560
                  induction n16560 with
                  | zero =>
                    intro hp15204 zi15208 zi15210 zi15212 zi15214 zi15216 H locs ls hm16563 ok15206 F15205 bd15223 eq15207 bd15224 eq15209 bd15225 eq15211 bd15226 eq15213 bd15227 eq15215 rq15217 rq15218 rq15219 rq15220 jx15221 jx15222 hl hw hS
                    exact absurd hm16563 (by omega)
                  | succ n16560 ih16561 =>
                    intro hp15204 zi15208 zi15210 zi15212 zi15214 zi15216 H locs ls hm16563 ok15206 F15205 bd15223 eq15207 bd15224 eq15209 bd15225 eq15211 bd15226 eq15213 bd15227 eq15215 rq15217 rq15218 rq15219 rq15220 jx15221 jx15222 hl hw hS
                    refine lv_aload_n hx hb dX12_expression_96 rfl (lv_at hl 0 rfl) ?_
                    refine lv_bipush (v := 7) hx hb dX12_expression_97 (by decide) ?_
                    have eq16565 : hp15204 qa900 5 = .ref qa14816 := Eq.trans (Fr.at (cq := 13005) F15205 kd900 (cd_o (by decide)) (by decide)) (Eq.trans (Fr.at (cq := 13005) F14835 kd900 (cd_o (by decide)) (by decide)) eq14815)
                    obtain ⟨zi16567, eq16566⟩ := rd_62000 ok15206 kd14817 ((zi15208 : Int32).toNatClampNeg)
                    refine kq_i hw hS hA (va_runV (As := [.int 7]) (rest := []) ⟨hx, hb, hml, hown, hT⟩ (cX12_is_0 l G cy ev K ln Ls hW _ hp15204 ok15206 qa900 7 kd900) (cwV 1 hT (good_V tb_1623 tb_1620 tb_1622 tb_52 tb_122) rfl rfl rfl (by decide +kernel) ⟨Nat.le_of_ble_eq_true rfl, Nat.le_of_ble_eq_true rfl⟩) (pool_preV (ci := 12) hK hE hS hA hw hW kd900 (by decide) rfl) rfl rfl hl.1 rfl (lv_room (Nat.le_of_ble_eq_true rfl)) dX12_expression_99 ⟨Nat.le_of_ble_eq_true rfl, Nat.le_of_ble_eq_true rfl⟩) (fun zi16572 hp16568 H locs hq16571 hw hS => ?_)
                    obtain ⟨ok16569, F16570, bd16573, hc16574, rh16575, rh16576, rh16577⟩ := hq16571
                    obtain rfl : hp15204 = hp16568 := (Fr.nil F16570).symm
                    have hw : PW G cy K ln Ls A hp15204 H := hw
                    rcases b01 bd16573 with cn16578 | cn16578
                    · skip
                      subst cn16578
                      have rh16579 := rh16577 rfl
                      simp only [ge_of eq16565 eq15207 eq16566, gi_of eq15209, toi bc_7] at rh16579
                      refine lv_if_eq (tgt := 145) hx hb dX12_expression_102 (by decide) (fun _ => ?_) (fun c => absurd (d_eq bc_0 bc_0) c)
                      exact jn15450 hp15204 zi15208 zi15210 zi15212 zi15214 zi15216 _ _ ls ok15206 (Fr.tr (Fr.rf) F15205 (by decide)) (b_wid2 bd15223 (by decide) (by decide)) eq15207 (b_wid2 bd15224 (by decide) (by decide)) eq15209 (b_wid2 bd15225 (by decide) (by decide)) eq15211 (b_wid2 bd15226 (by decide) (by decide)) eq15213 (b_wid2 bd15227 (by decide) (by decide)) eq15215 (by omega) (by omega) (by omega) (by omega) jx15221 jx15222 (lv_sub hl [0, 1] rfl) hw hS
                    · skip
                      subst cn16578
                      obtain ⟨zi16580, eq16581, bd16582⟩ := hc16574 rfl
                      have hx16583 : zi15210 = zi16580 := Value.int.inj (Eq.trans (Eq.symm eq15209) eq16581)
                      subst hx16583
                      have bd16584 : (0 : Int) ≤ zi15210.toInt ∧ zi15210.toInt ≤ 0 := b_meet bd15224 bd16582 (by decide) (by decide)
                      have rh16585 := rh16575 rfl
                      simp only [ge_of eq16565 eq15207 eq16566, toi bc_7] at rh16585
                      have rh16586 := rh16576 rfl
                      simp only [gi_of eq15209] at rh16586
                      refine lv_if_eq (tgt := 145) hx hb dX12_expression_102 (by decide) (fun c => absurd c (d_ne bc_1 bc_0 (by decide))) (fun _ => ?_)
                      refine lv_aload_n hx hb dX12_expression_105 rfl (lv_at hl 0 rfl) ?_
                      refine p_get (ci := 12) (v := .int zi15212) (C := RX12) (T := TX12) (N := 69) hx hb hT iw_X12 hown hK hw hW kd900 (by decide) rfl rfl 12 (by decide) eq15211 (hT _ tb_1386) (fun _ h9 => h9) dX12_expression_106 ?_
                      refine lv_iload_n hx hb dX12_expression_109 rfl (lv_at hl 1 rfl) ?_
                      refine lv_icmp_le (tgt := 145) hx hb dX12_expression_110 (by decide) (fun cn16587 => ?_) (fun cn16587 => ?_)
                      · skip
                        have tf16588 : zi15212.toInt ≤ zi8.toInt := (fa_le _ _).mp cn16587
                        have bd16589 : (0 : Int) ≤ zi15212.toInt ∧ zi15212.toInt ≤ 0 := r_le_x cn16587 bd15225 bd19 (by decide) (by decide)
                        exact jn15450 hp15204 zi15208 zi15210 zi15212 zi15214 zi15216 _ _ ls ok15206 (Fr.tr (Fr.rf) F15205 (by decide)) (b_wid2 bd15223 (by decide) (by decide)) eq15207 (b_wid2 bd16584 (by decide) (by decide)) eq15209 (b_wid2 bd16589 (by decide) (by decide)) eq15211 (b_wid2 bd15226 (by decide) (by decide)) eq15213 (b_wid2 bd15227 (by decide) (by decide)) eq15215 (by omega) (by omega) (by omega) (by omega) jx15221 jx15222 (lv_sub hl [0, 1] rfl) hw hS
                      · skip
                        have tf16590 : zi8.toInt < zi15212.toInt := (fa_lt _ _).mp (Int32.not_le.mp cn16587)
                        have bd16591 : (1 : Int) ≤ zi15212.toInt ∧ zi15212.toInt ≤ 7 := r_lt_y (Int32.not_le.mp cn16587) bd19 bd15225 (by decide) (by decide)
                        have el16592 := EI_lin jx15221
                        rw [gi_of eq15215, gi_of eq15211, gi_of eq15213] at el16592
                        have bd16593 : (0 : Int) ≤ zi15216.toInt ∧ zi15216.toInt ≤ 23 := (by omega)
                        refine lv_aload_n hx hb dX12_expression_113 rfl (lv_at hl 0 rfl) ?_
                        refine lv_iconst (v := 0) hx hb dX12_expression_114 (by decide) ?_
                        refine kq_v hw hS hA (va_runV (As := [.int 0]) (rest := []) ⟨hx, hb, hml, hown, hT⟩ (cX12_comesOut_0 l G cy ev K ln Ls hW _ hp15204 ok15206 qa900 0 gc0 kd900 (b_wid2 bc_0 (by decide) (by decide)) (by simp only [gi_of eq15213, gi_of eq16564, gi_of eq15215]; omega) (by simp only [gi_of eq15215]; omega) jx15221 jx15222) (cwV 1 hT (good_V tb_1715 tb_1712 tb_1714 tb_74 tb_122) rfl rfl rfl (by decide +kernel) ⟨Nat.le_of_ble_eq_true rfl, Nat.le_of_ble_eq_true rfl⟩) (pool_preV (ci := 12) hK hE hS hA hw hW kd900 (by decide) rfl) rfl rfl hl.1 rfl (lv_room (Nat.le_of_ble_eq_true rfl)) dX12_expression_115 ⟨Nat.le_of_ble_eq_true rfl, Nat.le_of_ble_eq_true rfl⟩) (fun hp16594 H locs hq16597 hw hS => ?_)
                        obtain ⟨ok16595, F16596, xq16599, xq16600, xq16601, rh16602, rh16603⟩ := hq16597
                        have hw : PW G cy K ln Ls A hp16594 H := hw
                        obtain ⟨zi16605, eq16604, bd16606⟩ := rd_13038 ok16595 kd900
                        obtain ⟨zi16608, eq16607, bd16609⟩ := rd_13045 ok16595 kd900
                        simp only [gi_of eq15213, gi_of eq15215, gi_of eq16604, gi_of eq16607] at rh16602
                        simp only [gi_of eq15215, gi_of eq16607] at rh16603
                        have el16610 := EI_lin xq16599
                        have eq16611 : hp16594 qa900 12 = .int zi15212 := Eq.trans (Fr.at (cq := 13012) F16596 kd900 (cd_o (by decide)) (by decide)) eq15211
                        rw [gi_of eq16607, gi_of eq16611, gi_of eq16604] at el16610
                        obtain ⟨qa16613, eq16612, kd16614⟩ := rd_13044 ok16595 kd900
                        obtain ⟨qa16616, eq16615, kd16617⟩ := rd_13039 ok16595 kd900
                        obtain ⟨qa16619, eq16618, kd16620⟩ := rd_13040 ok16595 kd900
                        have h616621 := CO_6 xq16601 (by decide) (by rw [gi_of eq16607]; omega)
                        have bd16622 : (1 : Int) ≤ zi16608.toInt ∧ zi16608.toInt ≤ 23 := (by omega)
                        refine lv_aload_n hx hb dX12_expression_118 rfl (lv_at hl 0 rfl) ?_
                        refine lv_dup hx hb dX12_expression_119 rfl ?_
                        refine p_get (ci := 12) (v := .int zi16608) (C := RX12) (T := TX12) (N := 69) hx hb hT iw_X12 hown hK hw hW kd900 (by decide) rfl rfl 45 (by decide) eq16607 (hT _ tb_1419) (fun _ h9 => h9) dX12_expression_120 ?_
                        refine lv_iconst (v := 1) hx hb dX12_expression_123 (by decide) ?_
                        refine lv_isub hx hb dX12_expression_124 (lv_topi (fun zi16623 ea16624 => ?_))
                        have bd16625 : (0 : Int) ≤ zi16623.toInt ∧ zi16623.toInt ≤ 22 := b_isub ea16624 bd16622 bc_1 (by decide) (by decide) (by decide) (by decide)
                        have qe16626 : zi16623.toInt = (zi16608 : Int32).toInt - (1 : Int32).toInt := e_isub ea16624 bd16622 bc_1 (by decide) (by decide)
                        have qe16627 : zi16623.toInt = zi16608.toInt - 1 := by have ha : (1 : Int32).toInt = 1 := (by decide); rw [ha] at qe16626; exact qe16626
                        refine p_put (ci := 12) (v := .int zi16623) (ty := .int) (C := RX12) (T := TX12) (N := 69) hx hb hT iw_X12 tyX12 tyX12_ok nmX12 hown hK hw hS hW kd900 (by decide) rfl rfl 45 (by decide) (hT _ tb_1419) (fun _ h9 => h9) rfl (by decide +kernel) rfl rfl dX12_expression_125 (fun hp16628 eh16629 H locs hw hS => ?_)
                        have ok16630 := wr_13045 bd16625 (by decide) (by decide) ok16595 kd900 eh16629
                        refine lv_aload_n hx hb dX12_expression_128 rfl (lv_at hl 0 rfl) ?_
                        refine lv_dup hx hb dX12_expression_129 rfl ?_
                        have eq16631 : hp16628 qa900 12 = .int zi15212 := Eq.trans (up_at eh16629 (Or.inr (by decide))) eq16611
                        refine p_get (ci := 12) (v := .int zi15212) (C := RX12) (T := TX12) (N := 69) hx hb hT iw_X12 hown hK hw hW kd900 (by decide) rfl rfl 12 (by decide) eq16631 (hT _ tb_1386) (fun _ h9 => h9) dX12_expression_130 ?_
                        refine lv_iconst (v := 1) hx hb dX12_expression_133 (by decide) ?_
                        refine lv_isub hx hb dX12_expression_134 (lv_topi (fun zi16632 ea16633 => ?_))
                        have bd16634 : (0 : Int) ≤ zi16632.toInt ∧ zi16632.toInt ≤ 6 := b_isub ea16633 bd16591 bc_1 (by decide) (by decide) (by decide) (by decide)
                        have qe16635 : zi16632.toInt = (zi15212 : Int32).toInt - (1 : Int32).toInt := e_isub ea16633 bd16591 bc_1 (by decide) (by decide)
                        have qe16636 : zi16632.toInt = zi15212.toInt - 1 := by have ha : (1 : Int32).toInt = 1 := (by decide); rw [ha] at qe16635; exact qe16635
                        refine p_put (ci := 12) (v := .int zi16632) (ty := .int) (C := RX12) (T := TX12) (N := 69) hx hb hT iw_X12 tyX12 tyX12_ok nmX12 hown hK hw hS hW kd900 (by decide) rfl rfl 12 (by decide) (hT _ tb_1386) (fun _ h9 => h9) rfl (by decide +kernel) rfl rfl dX12_expression_135 (fun hp16637 eh16638 H locs hw hS => ?_)
                        have ok16639 := wr_13012 bd16634 (by decide) (by decide) ok16630 kd900 eh16638
                        refine lv_aload_n hx hb dX12_expression_138 rfl (lv_at hl 0 rfl) ?_
                        have eq16640 : hp16637 qa900 13 = .int zi15210 := Eq.trans (up_at eh16638 (Or.inr (by decide))) (Eq.trans (up_at eh16629 (Or.inr (by decide))) (Eq.trans (Fr.at (cq := 13013) F16596 kd900 (cd_o (by decide)) (by decide)) eq15209))
                        have eq16641 : hp16637 qa900 11 = .int zi15208 := Eq.trans (up_at eh16638 (Or.inr (by decide))) (Eq.trans (up_at eh16629 (Or.inr (by decide))) (Eq.trans (Fr.at (cq := 13011) F16596 kd900 (cd_o (by decide)) (by decide)) eq15207))
                        refine kq_v hw hS hA (va_runV (As := []) (rest := []) ⟨hx, hb, hml, hown, hT⟩ (cX12_goesOn_0 l G cy ev K ln Ls hW _ hp16637 ok16639 qa900 kd900) (cwV 0 hT (good_V tb_1639 tb_1636 tb_1638 tb_56 tb_122) rfl rfl rfl (by decide +kernel) ⟨Nat.le_of_ble_eq_true rfl, Nat.le_of_ble_eq_true rfl⟩) (pool_preV (ci := 12) hK hE hS hA hw hW kd900 (by decide) rfl) rfl rfl hl.1 rfl (lv_room (Nat.le_of_ble_eq_true rfl)) dX12_expression_139 ⟨Nat.le_of_ble_eq_true rfl, Nat.le_of_ble_eq_true rfl⟩) (fun hp16642 H locs hq16645 hw hS => ?_)
                        obtain ⟨ok16643, F16644, ⟨zi16647, eq16648, bd16649⟩, rh16650, rh16651, rh16652⟩ := hq16645
                        have hw : PW G cy K ln Ls A hp16642 H := hw
                        obtain ⟨zi16654, eq16653, bd16655⟩ := rd_13013 ok16643 kd900
                        simp only [gi_of eq16640, gi_of eq16641, gi_of eq16648, gi_of eq16653] at rh16650
                        simp only [gi_of eq16640, gi_of eq16653] at rh16651
                        simp only [gi_of eq16641, gi_of eq16648, gi_of eq16653] at rh16652
                        have eq16657 : hp16642 qa900 44 = .ref qa16613 := Eq.trans (Fr.at (cq := 13044) F16644 kd900 (cd_o (by decide)) (by decide)) (Eq.trans (up_at eh16638 (Or.inr (by decide))) (Eq.trans (up_at eh16629 (Or.inr (by decide))) eq16612))
                        have eq16658 : hp16642 qa900 45 = .int zi16623 := Eq.trans (Fr.at (cq := 13045) F16644 kd900 (cd_o (by decide)) (by decide)) (Eq.trans (up_at eh16638 (Or.inr (by decide))) (hp_self eh16629))
                        have eq16659 : hp16642 qa900 12 = .int zi16632 := Eq.trans (Fr.at (cq := 13012) F16644 kd900 (cd_o (by decide)) (by decide)) (hp_self eh16638)
                        have eq16660 : hp16642 qa900 39 = .ref qa16616 := Eq.trans (Fr.at (cq := 13039) F16644 kd900 (cd_o (by decide)) (by decide)) (Eq.trans (up_at eh16638 (Or.inr (by decide))) (Eq.trans (up_at eh16629 (Or.inr (by decide))) eq16615))
                        have eq16661 : hp16642 qa900 40 = .ref qa16619 := Eq.trans (Fr.at (cq := 13040) F16644 kd900 (cd_o (by decide)) (by decide)) (Eq.trans (up_at eh16638 (Or.inr (by decide))) (Eq.trans (up_at eh16629 (Or.inr (by decide))) eq16618))
                        have eq16662 : hp16642 qa900 38 = .int zi16605 := Eq.trans (Fr.at (cq := 13038) F16644 kd900 (cd_o (by decide)) (by decide)) (Eq.trans (up_at eh16638 (Or.inr (by decide))) (Eq.trans (up_at eh16629 (Or.inr (by decide))) eq16604))
                        have ei16656 : EIx hp16642 qa900 gc0 1 := EI_close xq16599 (by rw [gi_of eq16607]; omega) h616621 (mA_eq eq16612 eq16657 (Eq.trans (show hp16642 qa16613 = hp16637 qa16613 from (funext fun i => Fr.at (cq := 89000) F16644 kd16614 (cd_a (by decide)) (by decide))) (Eq.trans (show hp16637 qa16613 = hp16628 qa16613 from (by rw [eh16638]; exact up2_row (kd_ne kd16614 kd900 (by decide)))) (show hp16628 qa16613 = hp16594 qa16613 from (by rw [eh16629]; exact up2_row (kd_ne kd16614 kd900 (by decide))))))) (by rw [gi_of eq16658, gi_of eq16607]; omega) (by rw [gi_of eq16659, gi_of eq16611]; omega) (mA_eq eq16615 eq16660 (Eq.trans (show hp16642 qa16616 = hp16637 qa16616 from (funext fun i => Fr.at (cq := 84000) F16644 kd16617 (cd_a (by decide)) (by decide))) (Eq.trans (show hp16637 qa16616 = hp16628 qa16616 from (by rw [eh16638]; exact up2_row (kd_ne kd16617 kd900 (by decide)))) (show hp16628 qa16616 = hp16594 qa16616 from (by rw [eh16629]; exact up2_row (kd_ne kd16617 kd900 (by decide))))))) (mA_eq eq16618 eq16661 (Eq.trans (show hp16642 qa16619 = hp16637 qa16619 from (funext fun i => Fr.at (cq := 85000) F16644 kd16620 (cd_a (by decide)) (by decide))) (Eq.trans (show hp16637 qa16619 = hp16628 qa16619 from (by rw [eh16638]; exact up2_row (kd_ne kd16620 kd900 (by decide)))) (show hp16628 qa16619 = hp16594 qa16619 from (by rw [eh16629]; exact up2_row (kd_ne kd16620 kd900 (by decide))))))) (by rw [gi_of eq16662, gi_of eq16604]; omega)
                        refine lv_goto (tgt := 96) hx hb dX12_expression_142 (by decide) ?_
                        have eq16663 : hp16642 qa900 19 = .int zi11 := Eq.trans (Fr.at (cq := 13019) F16644 kd900 (cd_o (by decide)) (by decide)) (Eq.trans (up_at eh16638 (Or.inr (by decide))) (Eq.trans (up_at eh16629 (Or.inr (by decide))) (Eq.trans (Fr.at (cq := 13019) F16596 kd900 (cd_o (by decide)) (by decide)) eq16564)))
                        have pd16664 : LPx hp16642 qa900 := LP_fr ok16595 kd900 (Fr.tr (Fr.put (cq := 13012) (Fr.put (cq := 13045) (Fr.rf) eh16629 kd900 (cd_o (by decide)) (by decide)) eh16638 kd900 (cd_o (by decide)) (by decide)) F16644 (by decide)) (by decide) xq16600
                        exact ih16561 hp16642 zi16647 zi16654 zi16632 zi16605 zi16623 _ _ ls (by have := hm16563; omega) ok16643 (Fr.tr (Fr.put (cq := 13012) (Fr.put (cq := 13045) (Fr.tr (Fr.tr (Fr.rf) F15205 (by decide)) F16596 (by decide)) eh16629 kd900 (cd_o (by decide)) (by decide)) eh16638 kd900 (cd_o (by decide)) (by decide)) F16644 (by decide)) (b_wid2 bd16649 (by decide) (by decide)) eq16648 (b_wid2 bd16655 (by decide) (by decide)) eq16653 (b_wid2 bd16634 (by decide) (by decide)) eq16659 (b_wid2 bd16606 (by decide) (by decide)) eq16662 (b_wid2 bd16625 (by decide) (by decide)) eq16658 (by omega) (by omega) (by omega) (by omega) ei16656 pd16664 (lv_sub hl [0, 1] rfl) hw hS
                exact lp16562 _ hp14833 zi14848 zi14845 zi14516 zi14851 zi14518 _ _ ls (lp_in _) ok14834 (Fr.rf) (b_wid2 bd14849 (by decide) (by decide)) eq14847 (b_wid2 bd14857 (by decide) (by decide)) eq14844 (b_wid2 bd14527 (by decide) (by decide)) eq14856 (b_wid2 bd14852 (by decide) (by decide)) eq14850 (b_wid2 bd14528 (by decide) (by decide)) eq14854 (by omega) (by omega) (by omega) (by omega) (xq14839 (by rw [gi_of eq14844]; omega)) xq14838 (lv_sub hl [0, 1] rfl) hw hS
              · skip
                have bd16665 : (1 : Int) ≤ zi14845.toInt ∧ zi14845.toInt ≤ 2 := r_lt_y (Int32.not_le.mp cn14855) bc_0 bd14846 (by decide) (by decide)
                rw [hQ]
                exact kz_v hx hb hr hlocks hS hp14833 hw ⟨ok14834, (Fr.tr (Fr.tr (Fr.tr (Fr.put (cq := 13045) (Fr.rf) eh21 kd900 (cd_o (by decide)) (by decide)) F8554 (by decide)) F14505 (by decide)) F14835 (by decide)), (xq14838), (fun h => absurd h (by rw [gi_of eq14844]; omega)), (by simp only [gi_of eq13, gi_of eq14844, gi_of eq14847, gi_of eq4]; omega), (by simp only [gi_of eq14844, gi_of eq4]; omega), (by simp only [gi_of eq14844, gi_of eq14856]; omega), (by simp only [gi_of eq14844, gi_of eq14847, gi_of eq14850, gi_of eq14853]; omega)⟩ (Nat.le_of_ble_eq_true rfl) (Nat.le_of_ble_eq_true rfl) dX12_expression_95
            · skip
              subst cn14830
              obtain ⟨zi16666, eq16667, bd16668⟩ := hc14826 rfl
              have hx16669 : zi14514 = zi16666 := Value.int.inj (Eq.trans (Eq.symm eq14513) eq16667)
              subst hx16669
              have bd16670 : (0 : Int) ≤ zi14514.toInt ∧ zi14514.toInt ≤ 0 := b_meet bd14526 bd16668 (by decide) (by decide)
              have rh16671 := rh14827 rfl
              simp only [ge_of eq14815 eq14509 eq14818, toi bc_6] at rh16671
              have rh16672 := rh14828 rfl
              simp only [gi_of eq14513] at rh16672
              refine lv_if_eq (tgt := 84) hx hb dX12_expression_29 (by decide) (fun c => absurd c (d_ne bc_1 bc_0 (by decide))) (fun _ => ?_)
              have el16673 := EI_lin jx14523
              rw [gi_of eq14517, gi_of eq14515, gi_of eq14813] at el16673
              obtain ⟨qa16675, eq16674, kd16676⟩ := rd_13044 ok14506 kd900
              obtain ⟨qa16678, eq16677, kd16679⟩ := rd_13039 ok14506 kd900
              obtain ⟨qa16681, eq16680, kd16682⟩ := rd_13040 ok14506 kd900
              have bd16683 : (0 : Int) ≤ zi14518.toInt ∧ zi14518.toInt ≤ 23 := (by omega)
              have bd16684 : (0 : Int) ≤ zi14516.toInt ∧ zi14516.toInt ≤ 6 := (by omega)
              refine lv_aload_n hx hb dX12_expression_32 rfl (lv_at hl 0 rfl) ?_
              refine p_get (ci := 12) (v := .int zi14516) (C := RX12) (T := TX12) (N := 69) hx hb hT iw_X12 hown hK hw hW kd900 (by decide) rfl rfl 12 (by decide) eq14515 (hT _ tb_1386) (fun _ h9 => h9) dX12_expression_33 ?_
              refine lv_bipush (v := 6) hx hb dX12_expression_36 (by decide) ?_
              refine lv_icmp_ne (tgt := 46) hx hb dX12_expression_38 (by decide) (fun cn16685 => ?_) (fun cn16685 => ?_)
              · skip
                have tf16686 : (zi14516 : Int32).toInt ≠ (6 : Int32).toInt := fun e => cn16685 (Int32.toInt_inj.mp e)
                have := toi bc_6
                have bd16687 : (0 : Int) ≤ zi14516.toInt ∧ zi14516.toInt ≤ 5 := r_ne_hi cn16685 bd16684 (toi bc_6) (by decide) (by decide)
                refine lv_aload_n hx hb dX12_expression_46 rfl (lv_at hl 0 rfl) ?_
                refine lv_dup hx hb dX12_expression_47 rfl ?_
                refine p_get (ci := 12) (v := .int zi14516) (C := RX12) (T := TX12) (N := 69) hx hb hT iw_X12 hown hK hw hW kd900 (by decide) rfl rfl 12 (by decide) eq14515 (hT _ tb_1386) (fun _ h9 => h9) dX12_expression_48 ?_
                refine lv_iconst (v := 1) hx hb dX12_expression_51 (by decide) ?_
                refine lv_iadd hx hb dX12_expression_52 (lv_topi (fun zi16688 ea16689 => ?_))
                have bd16690 : (1 : Int) ≤ zi16688.toInt ∧ zi16688.toInt ≤ 6 := b_iadd ea16689 bd16687 bc_1 (by decide) (by decide) (by decide) (by decide)
                have qe16691 : zi16688.toInt = (zi14516 : Int32).toInt + (1 : Int32).toInt := e_iadd ea16689 bd16687 bc_1 (by decide) (by decide)
                have qe16692 : zi16688.toInt = zi14516.toInt + 1 := by have ha : (1 : Int32).toInt = 1 := (by decide); rw [ha] at qe16691; exact qe16691
                refine p_put (ci := 12) (v := .int zi16688) (ty := .int) (C := RX12) (T := TX12) (N := 69) hx hb hT iw_X12 tyX12 tyX12_ok nmX12 hown hK hw hS hW kd900 (by decide) rfl rfl 12 (by decide) (hT _ tb_1386) (fun _ h9 => h9) rfl (by decide +kernel) rfl rfl dX12_expression_53 (fun hp16693 eh16694 H locs hw hS => ?_)
                have ok16695 := wr_13012 bd16690 (by decide) (by decide) ok14506 kd900 eh16694
                refine lv_aload_n hx hb dX12_expression_56 rfl (lv_at hl 0 rfl) ?_
                have eq16696 : hp16693 qa900 13 = .int zi14514 := Eq.trans (up_at eh16694 (Or.inr (by decide))) eq14513
                have eq16697 : hp16693 qa900 11 = .int zi14510 := Eq.trans (up_at eh16694 (Or.inr (by decide))) eq14509
                refine kq_v hw hS hA (va_runV (As := []) (rest := []) ⟨hx, hb, hml, hown, hT⟩ (cX12_goesOn_0 l G cy ev K ln Ls hW _ hp16693 ok16695 qa900 kd900) (cwV 0 hT (good_V tb_1639 tb_1636 tb_1638 tb_56 tb_122) rfl rfl rfl (by decide +kernel) ⟨Nat.le_of_ble_eq_true rfl, Nat.le_of_ble_eq_true rfl⟩) (pool_preV (ci := 12) hK hE hS hA hw hW kd900 (by decide) rfl) rfl rfl hl.1 rfl (lv_room (Nat.le_of_ble_eq_true rfl)) dX12_expression_57 ⟨Nat.le_of_ble_eq_true rfl, Nat.le_of_ble_eq_true rfl⟩) (fun hp16698 H locs hq16701 hw hS => ?_)
                obtain ⟨ok16699, F16700, ⟨zi16703, eq16704, bd16705⟩, rh16706, rh16707, rh16708⟩ := hq16701
                have hw : PW G cy K ln Ls A hp16698 H := hw
                obtain ⟨zi16710, eq16709, bd16711⟩ := rd_13013 ok16699 kd900
                simp only [gi_of eq16696, gi_of eq16697, gi_of eq16704, gi_of eq16709] at rh16706
                simp only [gi_of eq16696, gi_of eq16709] at rh16707
                simp only [gi_of eq16697, gi_of eq16704, gi_of eq16709] at rh16708
                refine lv_aload_n hx hb dX12_expression_60 rfl (lv_at hl 0 rfl) ?_
                have eq16712 : hp16698 qa900 44 = .ref qa16675 := Eq.trans (Fr.at (cq := 13044) F16700 kd900 (cd_o (by decide)) (by decide)) (Eq.trans (up_at eh16694 (Or.inr (by decide))) eq16674)
                refine p_get (ci := 12) (v := .ref qa16675) (C := RX12) (T := TX12) (N := 69) hx hb hT iw_X12 hown hK hw hW kd900 (by decide) rfl rfl 44 (by decide) eq16712 (hT _ tb_1418) (fun _ h9 => h9) dX12_expression_61 ?_
                refine lv_aload_n hx hb dX12_expression_64 rfl (lv_at hl 0 rfl) ?_
                have eq16713 : hp16698 qa900 45 = .int zi14518 := Eq.trans (Fr.at (cq := 13045) F16700 kd900 (cd_o (by decide)) (by decide)) (Eq.trans (up_at eh16694 (Or.inr (by decide))) eq14517)
                refine p_get (ci := 12) (v := .int zi14518) (C := RX12) (T := TX12) (N := 69) hx hb hT iw_X12 hown hK hw hW kd900 (by decide) rfl rfl 45 (by decide) eq16713 (hT _ tb_1419) (fun _ h9 => h9) dX12_expression_65 ?_
                refine lv_bipush (v := 6) hx hb dX12_expression_68 (by decide) ?_
                refine p_iast (x := 6) hx hb hK hw hS hW kd16676 (by decide) rfl (hW.len kd16676 (n := 64) rfl (by decide)) (vp_b bd16683 (by decide) (by decide)) dX12_expression_70 (fun hp16714 eh16715 H locs hw hS => ?_)
                have ok16716 := wr_89000 ok16699 kd16676 eh16715
                refine lv_aload_n hx hb dX12_expression_71 rfl (lv_at hl 0 rfl) ?_
                refine lv_dup hx hb dX12_expression_72 rfl ?_
                have eq16717 : hp16714 qa900 45 = .int zi14518 := Eq.trans (up_at eh16715 (Or.inl (kd_ne kd900 kd16676 (by decide)))) eq16713
                refine p_get (ci := 12) (v := .int zi14518) (C := RX12) (T := TX12) (N := 69) hx hb hT iw_X12 hown hK hw hW kd900 (by decide) rfl rfl 45 (by decide) eq16717 (hT _ tb_1419) (fun _ h9 => h9) dX12_expression_73 ?_
                refine lv_iconst (v := 1) hx hb dX12_expression_76 (by decide) ?_
                refine lv_iadd hx hb dX12_expression_77 (lv_topi (fun zi16718 ea16719 => ?_))
                have bd16720 : (1 : Int) ≤ zi16718.toInt ∧ zi16718.toInt ≤ 24 := b_iadd ea16719 bd16683 bc_1 (by decide) (by decide) (by decide) (by decide)
                have qe16721 : zi16718.toInt = (zi14518 : Int32).toInt + (1 : Int32).toInt := e_iadd ea16719 bd16683 bc_1 (by decide) (by decide)
                have qe16722 : zi16718.toInt = zi14518.toInt + 1 := by have ha : (1 : Int32).toInt = 1 := (by decide); rw [ha] at qe16721; exact qe16721
                refine p_put (ci := 12) (v := .int zi16718) (ty := .int) (C := RX12) (T := TX12) (N := 69) hx hb hT iw_X12 tyX12 tyX12_ok nmX12 hown hK hw hS hW kd900 (by decide) rfl rfl 45 (by decide) (hT _ tb_1419) (fun _ h9 => h9) rfl (by decide +kernel) rfl rfl dX12_expression_78 (fun hp16723 eh16724 H locs hw hS => ?_)
                have ok16725 := wr_13045 bd16720 (by decide) (by decide) ok16716 kd900 eh16724
                have eq16726 : hp16723 qa900 44 = .ref qa16675 := Eq.trans (up_at eh16724 (Or.inr (by decide))) (Eq.trans (up_at eh16715 (Or.inl (kd_ne kd900 kd16676 (by decide)))) eq16712)
                have eq16728 : hp16723 qa900 12 = .int zi16688 := Eq.trans (up_at eh16724 (Or.inr (by decide))) (Eq.trans (up_at eh16715 (Or.inl (kd_ne kd900 kd16676 (by decide)))) (Eq.trans (Fr.at (cq := 13012) F16700 kd900 (cd_o (by decide)) (by decide)) (hp_self eh16694)))
                have eq16729 : hp16723 qa900 39 = .ref qa16678 := Eq.trans (up_at eh16724 (Or.inr (by decide))) (Eq.trans (up_at eh16715 (Or.inl (kd_ne kd900 kd16676 (by decide)))) (Eq.trans (Fr.at (cq := 13039) F16700 kd900 (cd_o (by decide)) (by decide)) (Eq.trans (up_at eh16694 (Or.inr (by decide))) eq16677)))
                have eq16730 : hp16723 qa900 40 = .ref qa16681 := Eq.trans (up_at eh16724 (Or.inr (by decide))) (Eq.trans (up_at eh16715 (Or.inl (kd_ne kd900 kd16676 (by decide)))) (Eq.trans (Fr.at (cq := 13040) F16700 kd900 (cd_o (by decide)) (by decide)) (Eq.trans (up_at eh16694 (Or.inr (by decide))) eq16680)))
                have eq16731 : hp16723 qa900 38 = .int zi8563 := Eq.trans (up_at eh16724 (Or.inr (by decide))) (Eq.trans (up_at eh16715 (Or.inl (kd_ne kd900 kd16676 (by decide)))) (Eq.trans (Fr.at (cq := 13038) F16700 kd900 (cd_o (by decide)) (by decide)) (Eq.trans (up_at eh16694 (Or.inr (by decide))) eq14813)))
                have ei16727 : EIx hp16723 qa900 gc0 0 := EI_open (i := (zi14518 : Int32).toNatClampNeg) jx14523 (by rw [show (6 : Int) = (6 : Int32).toInt from by decide]; exact (mA_up eq16674 eq16726 (Eq.trans (show hp16698 qa16675 = hp16693 qa16675 from (funext fun i => Fr.at (cq := 89000) F16700 kd16676 (cd_a (by decide)) (by decide))) (show hp16693 qa16675 = hp14504 qa16675 from (by rw [eh16694]; exact up2_row (kd_ne kd16676 kd900 (by decide))))) eh16715 (show hp16723 qa16675 = hp16714 qa16675 from (by rw [eh16724]; exact up2_row (kd_ne kd16676 kd900 (by decide)))))) (by rw [gi_of eq14517]; have := clampN (x := zi14518) (by omega); omega) (by rw [gi_of (hp_self eh16724), gi_of eq14517]; omega) (by rw [gi_of eq16728, gi_of eq14515]; omega) (mA_eq eq16677 eq16729 (Eq.trans (show hp16723 qa16678 = hp16714 qa16678 from (by rw [eh16724]; exact up2_row (kd_ne kd16679 kd900 (by decide)))) (Eq.trans (show hp16714 qa16678 = hp16698 qa16678 from (by rw [eh16715]; exact up2_row (kd_ne kd16679 kd16676 (by decide)))) (Eq.trans (show hp16698 qa16678 = hp16693 qa16678 from (funext fun i => Fr.at (cq := 84000) F16700 kd16679 (cd_a (by decide)) (by decide))) (show hp16693 qa16678 = hp14504 qa16678 from (by rw [eh16694]; exact up2_row (kd_ne kd16679 kd900 (by decide)))))))) (mA_eq eq16680 eq16730 (Eq.trans (show hp16723 qa16681 = hp16714 qa16681 from (by rw [eh16724]; exact up2_row (kd_ne kd16682 kd900 (by decide)))) (Eq.trans (show hp16714 qa16681 = hp16698 qa16681 from (by rw [eh16715]; exact up2_row (kd_ne kd16682 kd16676 (by decide)))) (Eq.trans (show hp16698 qa16681 = hp16693 qa16681 from (funext fun i => Fr.at (cq := 85000) F16700 kd16682 (cd_a (by decide)) (by decide))) (show hp16693 qa16681 = hp14504 qa16681 from (by rw [eh16694]; exact up2_row (kd_ne kd16682 kd900 (by decide)))))))) (by rw [gi_of eq16731, gi_of eq14813]; omega)
                refine lv_goto (tgt := 23) hx hb dX12_expression_81 (by decide) ?_
                have eq16732 : hp16723 qa900 11 = .int zi16703 := Eq.trans (up_at eh16724 (Or.inr (by decide))) (Eq.trans (up_at eh16715 (Or.inl (kd_ne kd900 kd16676 (by decide)))) eq16704)
                have eq16733 : hp16723 qa900 13 = .int zi16710 := Eq.trans (up_at eh16724 (Or.inr (by decide))) (Eq.trans (up_at eh16715 (Or.inl (kd_ne kd900 kd16676 (by decide)))) eq16709)
                have eq16734 : hp16723 qa900 19 = .int zi11 := Eq.trans (up_at eh16724 (Or.inr (by decide))) (Eq.trans (up_at eh16715 (Or.inl (kd_ne kd900 kd16676 (by decide)))) (Eq.trans (Fr.at (cq := 13019) F16700 kd900 (cd_o (by decide)) (by decide)) (Eq.trans (up_at eh16694 (Or.inr (by decide))) eq14814)))
                have pd16735 : LPx hp16723 qa900 := LP_fr ok14506 kd900 (Fr.put (cq := 13045) (Fr.put (cq := 89000) (Fr.tr (Fr.put (cq := 13012) (Fr.rf) eh16694 kd900 (cd_o (by decide)) (by decide)) F16700 (by decide)) eh16715 kd16676 (cd_a (by decide)) (by decide)) eh16724 kd900 (cd_o (by decide)) (by decide)) (by decide) jx14524
                exact ih14810 hp16723 zi16703 zi16710 zi16688 zi16718 _ _ ls (by have := hm14812; omega) ok16725 (Fr.put (cq := 13045) (Fr.put (cq := 89000) (Fr.tr (Fr.put (cq := 13012) (Fr.tr (Fr.rf) F14505 (by decide)) eh16694 kd900 (cd_o (by decide)) (by decide)) F16700 (by decide)) eh16715 kd16676 (cd_a (by decide)) (by decide)) eh16724 kd900 (cd_o (by decide)) (by decide)) (b_wid2 bd16705 (by decide) (by decide)) eq16732 (b_wid2 bd16711 (by decide) (by decide)) eq16733 (b_wid2 bd16690 (by decide) (by decide)) eq16728 (b_wid2 bd16720 (by decide) (by decide)) (hp_self eh16724) (by omega) (by omega) (by omega) (by omega) ei16727 pd16735 (lv_sub hl [0, 1] rfl) hw hS
              · skip
                have bd16736 : (6 : Int) ≤ zi14516.toInt ∧ zi14516.toInt ≤ 6 := r_eq_x cn16685 bd16684 bc_6 (by decide) (by decide)
                refine lv_aload_n hx hb dX12_expression_41 rfl (lv_at hl 0 rfl) ?_
                refine lv_iconst (v := 2) hx hb dX12_expression_42 (by decide) ?_
                refine kq_v hw hS hA (va_runV (As := [.int 2]) (rest := []) ⟨hx, hb, hml, hown, hT⟩ (cX12_fail_0 l G cy ev K ln Ls hW _ hp14504 ok14506 qa900 2 kd900 (b_wid2 bc_2 (by decide) (by decide))) (cwV 1 hT (good_V tb_1635 tb_1632 tb_1634 tb_55 tb_122) rfl rfl rfl (by decide +kernel) ⟨Nat.le_of_ble_eq_true rfl, Nat.le_of_ble_eq_true rfl⟩) (pool_preV (ci := 12) hK hE hS hA hw hW kd900 (by decide) rfl) rfl rfl hl.1 rfl (lv_room (Nat.le_of_ble_eq_true rfl)) dX12_expression_43 ⟨Nat.le_of_ble_eq_true rfl, Nat.le_of_ble_eq_true rfl⟩) (fun hp16737 H locs hq16740 hw hS => ?_)
                obtain ⟨ok16738, F16739, ⟨zi16742, eq16743, bd16744⟩, rh16745⟩ := hq16740
                have hw : PW G cy K ln Ls A hp16737 H := hw
                simp only [gi_of eq14513, gi_of eq16743] at rh16745
                refine lv_aload_n hx hb dX12_expression_46 rfl (lv_at hl 0 rfl) ?_
                refine lv_dup hx hb dX12_expression_47 rfl ?_
                have eq16746 : hp16737 qa900 12 = .int zi14516 := Eq.trans (Fr.at (cq := 13012) F16739 kd900 (cd_o (by decide)) (by decide)) eq14515
                refine p_get (ci := 12) (v := .int zi14516) (C := RX12) (T := TX12) (N := 69) hx hb hT iw_X12 hown hK hw hW kd900 (by decide) rfl rfl 12 (by decide) eq16746 (hT _ tb_1386) (fun _ h9 => h9) dX12_expression_48 ?_
                refine lv_iconst (v := 1) hx hb dX12_expression_51 (by decide) ?_
                refine lv_iadd hx hb dX12_expression_52 (lv_topi (fun zi16747 ea16748 => ?_))
                have bd16749 : (7 : Int) ≤ zi16747.toInt ∧ zi16747.toInt ≤ 7 := b_iadd ea16748 bd16736 bc_1 (by decide) (by decide) (by decide) (by decide)
                have qe16750 : zi16747.toInt = (zi14516 : Int32).toInt + (1 : Int32).toInt := e_iadd ea16748 bd16736 bc_1 (by decide) (by decide)
                have qe16751 : zi16747.toInt = zi14516.toInt + 1 := by have ha : (1 : Int32).toInt = 1 := (by decide); rw [ha] at qe16750; exact qe16750
                refine p_put (ci := 12) (v := .int zi16747) (ty := .int) (C := RX12) (T := TX12) (N := 69) hx hb hT iw_X12 tyX12 tyX12_ok nmX12 hown hK hw hS hW kd900 (by decide) rfl rfl 12 (by decide) (hT _ tb_1386) (fun _ h9 => h9) rfl (by decide +kernel) rfl rfl dX12_expression_53 (fun hp16752 eh16753 H locs hw hS => ?_)
                have ok16754 := wr_13012 bd16749 (by decide) (by decide) ok16738 kd900 eh16753
                refine lv_aload_n hx hb dX12_expression_56 rfl (lv_at hl 0 rfl) ?_
                have eq16755 : hp16752 qa900 13 = .int zi16742 := Eq.trans (up_at eh16753 (Or.inr (by decide))) eq16743
                have eq16756 : hp16752 qa900 11 = .int zi14510 := Eq.trans (up_at eh16753 (Or.inr (by decide))) (Eq.trans (Fr.at (cq := 13011) F16739 kd900 (cd_o (by decide)) (by decide)) eq14509)
                refine kq_v hw hS hA (va_runV (As := []) (rest := []) ⟨hx, hb, hml, hown, hT⟩ (cX12_goesOn_0 l G cy ev K ln Ls hW _ hp16752 ok16754 qa900 kd900) (cwV 0 hT (good_V tb_1639 tb_1636 tb_1638 tb_56 tb_122) rfl rfl rfl (by decide +kernel) ⟨Nat.le_of_ble_eq_true rfl, Nat.le_of_ble_eq_true rfl⟩) (pool_preV (ci := 12) hK hE hS hA hw hW kd900 (by decide) rfl) rfl rfl hl.1 rfl (lv_room (Nat.le_of_ble_eq_true rfl)) dX12_expression_57 ⟨Nat.le_of_ble_eq_true rfl, Nat.le_of_ble_eq_true rfl⟩) (fun hp16757 H locs hq16760 hw hS => ?_)
                obtain ⟨ok16758, F16759, ⟨zi16762, eq16763, bd16764⟩, rh16765, rh16766, rh16767⟩ := hq16760
                have hw : PW G cy K ln Ls A hp16757 H := hw
                obtain ⟨zi16769, eq16768, bd16770⟩ := rd_13013 ok16758 kd900
                simp only [gi_of eq16755, gi_of eq16756, gi_of eq16763, gi_of eq16768] at rh16765
                simp only [gi_of eq16755, gi_of eq16768] at rh16766
                simp only [gi_of eq16756, gi_of eq16763, gi_of eq16768] at rh16767
                refine lv_aload_n hx hb dX12_expression_60 rfl (lv_at hl 0 rfl) ?_
                have eq16771 : hp16757 qa900 44 = .ref qa16675 := Eq.trans (Fr.at (cq := 13044) F16759 kd900 (cd_o (by decide)) (by decide)) (Eq.trans (up_at eh16753 (Or.inr (by decide))) (Eq.trans (Fr.at (cq := 13044) F16739 kd900 (cd_o (by decide)) (by decide)) eq16674))
                refine p_get (ci := 12) (v := .ref qa16675) (C := RX12) (T := TX12) (N := 69) hx hb hT iw_X12 hown hK hw hW kd900 (by decide) rfl rfl 44 (by decide) eq16771 (hT _ tb_1418) (fun _ h9 => h9) dX12_expression_61 ?_
                refine lv_aload_n hx hb dX12_expression_64 rfl (lv_at hl 0 rfl) ?_
                have eq16772 : hp16757 qa900 45 = .int zi14518 := Eq.trans (Fr.at (cq := 13045) F16759 kd900 (cd_o (by decide)) (by decide)) (Eq.trans (up_at eh16753 (Or.inr (by decide))) (Eq.trans (Fr.at (cq := 13045) F16739 kd900 (cd_o (by decide)) (by decide)) eq14517))
                refine p_get (ci := 12) (v := .int zi14518) (C := RX12) (T := TX12) (N := 69) hx hb hT iw_X12 hown hK hw hW kd900 (by decide) rfl rfl 45 (by decide) eq16772 (hT _ tb_1419) (fun _ h9 => h9) dX12_expression_65 ?_
                refine lv_bipush (v := 6) hx hb dX12_expression_68 (by decide) ?_
                refine p_iast (x := 6) hx hb hK hw hS hW kd16676 (by decide) rfl (hW.len kd16676 (n := 64) rfl (by decide)) (vp_b bd16683 (by decide) (by decide)) dX12_expression_70 (fun hp16773 eh16774 H locs hw hS => ?_)
                have ok16775 := wr_89000 ok16758 kd16676 eh16774
                refine lv_aload_n hx hb dX12_expression_71 rfl (lv_at hl 0 rfl) ?_
                refine lv_dup hx hb dX12_expression_72 rfl ?_
                have eq16776 : hp16773 qa900 45 = .int zi14518 := Eq.trans (up_at eh16774 (Or.inl (kd_ne kd900 kd16676 (by decide)))) eq16772
                refine p_get (ci := 12) (v := .int zi14518) (C := RX12) (T := TX12) (N := 69) hx hb hT iw_X12 hown hK hw hW kd900 (by decide) rfl rfl 45 (by decide) eq16776 (hT _ tb_1419) (fun _ h9 => h9) dX12_expression_73 ?_
                refine lv_iconst (v := 1) hx hb dX12_expression_76 (by decide) ?_
                refine lv_iadd hx hb dX12_expression_77 (lv_topi (fun zi16777 ea16778 => ?_))
                have bd16779 : (1 : Int) ≤ zi16777.toInt ∧ zi16777.toInt ≤ 24 := b_iadd ea16778 bd16683 bc_1 (by decide) (by decide) (by decide) (by decide)
                have qe16780 : zi16777.toInt = (zi14518 : Int32).toInt + (1 : Int32).toInt := e_iadd ea16778 bd16683 bc_1 (by decide) (by decide)
                have qe16781 : zi16777.toInt = zi14518.toInt + 1 := by have ha : (1 : Int32).toInt = 1 := (by decide); rw [ha] at qe16780; exact qe16780
                refine p_put (ci := 12) (v := .int zi16777) (ty := .int) (C := RX12) (T := TX12) (N := 69) hx hb hT iw_X12 tyX12 tyX12_ok nmX12 hown hK hw hS hW kd900 (by decide) rfl rfl 45 (by decide) (hT _ tb_1419) (fun _ h9 => h9) rfl (by decide +kernel) rfl rfl dX12_expression_78 (fun hp16782 eh16783 H locs hw hS => ?_)
                have ok16784 := wr_13045 bd16779 (by decide) (by decide) ok16775 kd900 eh16783
                have eq16785 : hp16782 qa900 44 = .ref qa16675 := Eq.trans (up_at eh16783 (Or.inr (by decide))) (Eq.trans (up_at eh16774 (Or.inl (kd_ne kd900 kd16676 (by decide)))) eq16771)
                have eq16787 : hp16782 qa900 12 = .int zi16747 := Eq.trans (up_at eh16783 (Or.inr (by decide))) (Eq.trans (up_at eh16774 (Or.inl (kd_ne kd900 kd16676 (by decide)))) (Eq.trans (Fr.at (cq := 13012) F16759 kd900 (cd_o (by decide)) (by decide)) (hp_self eh16753)))
                have eq16788 : hp16782 qa900 39 = .ref qa16678 := Eq.trans (up_at eh16783 (Or.inr (by decide))) (Eq.trans (up_at eh16774 (Or.inl (kd_ne kd900 kd16676 (by decide)))) (Eq.trans (Fr.at (cq := 13039) F16759 kd900 (cd_o (by decide)) (by decide)) (Eq.trans (up_at eh16753 (Or.inr (by decide))) (Eq.trans (Fr.at (cq := 13039) F16739 kd900 (cd_o (by decide)) (by decide)) eq16677))))
                have eq16789 : hp16782 qa900 40 = .ref qa16681 := Eq.trans (up_at eh16783 (Or.inr (by decide))) (Eq.trans (up_at eh16774 (Or.inl (kd_ne kd900 kd16676 (by decide)))) (Eq.trans (Fr.at (cq := 13040) F16759 kd900 (cd_o (by decide)) (by decide)) (Eq.trans (up_at eh16753 (Or.inr (by decide))) (Eq.trans (Fr.at (cq := 13040) F16739 kd900 (cd_o (by decide)) (by decide)) eq16680))))
                have eq16790 : hp16782 qa900 38 = .int zi8563 := Eq.trans (up_at eh16783 (Or.inr (by decide))) (Eq.trans (up_at eh16774 (Or.inl (kd_ne kd900 kd16676 (by decide)))) (Eq.trans (Fr.at (cq := 13038) F16759 kd900 (cd_o (by decide)) (by decide)) (Eq.trans (up_at eh16753 (Or.inr (by decide))) (Eq.trans (Fr.at (cq := 13038) F16739 kd900 (cd_o (by decide)) (by decide)) eq14813))))
                have ei16786 : EIx hp16782 qa900 gc0 0 := EI_open (i := (zi14518 : Int32).toNatClampNeg) jx14523 (by rw [show (6 : Int) = (6 : Int32).toInt from by decide]; exact (mA_up eq16674 eq16785 (Eq.trans (show hp16757 qa16675 = hp16752 qa16675 from (funext fun i => Fr.at (cq := 89000) F16759 kd16676 (cd_a (by decide)) (by decide))) (Eq.trans (show hp16752 qa16675 = hp16737 qa16675 from (by rw [eh16753]; exact up2_row (kd_ne kd16676 kd900 (by decide)))) (show hp16737 qa16675 = hp14504 qa16675 from (funext fun i => Fr.at (cq := 89000) F16739 kd16676 (cd_a (by decide)) (by decide))))) eh16774 (show hp16782 qa16675 = hp16773 qa16675 from (by rw [eh16783]; exact up2_row (kd_ne kd16676 kd900 (by decide)))))) (by rw [gi_of eq14517]; have := clampN (x := zi14518) (by omega); omega) (by rw [gi_of (hp_self eh16783), gi_of eq14517]; omega) (by rw [gi_of eq16787, gi_of eq14515]; omega) (mA_eq eq16677 eq16788 (Eq.trans (show hp16782 qa16678 = hp16773 qa16678 from (by rw [eh16783]; exact up2_row (kd_ne kd16679 kd900 (by decide)))) (Eq.trans (show hp16773 qa16678 = hp16757 qa16678 from (by rw [eh16774]; exact up2_row (kd_ne kd16679 kd16676 (by decide)))) (Eq.trans (show hp16757 qa16678 = hp16752 qa16678 from (funext fun i => Fr.at (cq := 84000) F16759 kd16679 (cd_a (by decide)) (by decide))) (Eq.trans (show hp16752 qa16678 = hp16737 qa16678 from (by rw [eh16753]; exact up2_row (kd_ne kd16679 kd900 (by decide)))) (show hp16737 qa16678 = hp14504 qa16678 from (funext fun i => Fr.at (cq := 84000) F16739 kd16679 (cd_a (by decide)) (by decide)))))))) (mA_eq eq16680 eq16789 (Eq.trans (show hp16782 qa16681 = hp16773 qa16681 from (by rw [eh16783]; exact up2_row (kd_ne kd16682 kd900 (by decide)))) (Eq.trans (show hp16773 qa16681 = hp16757 qa16681 from (by rw [eh16774]; exact up2_row (kd_ne kd16682 kd16676 (by decide)))) (Eq.trans (show hp16757 qa16681 = hp16752 qa16681 from (funext fun i => Fr.at (cq := 85000) F16759 kd16682 (cd_a (by decide)) (by decide))) (Eq.trans (show hp16752 qa16681 = hp16737 qa16681 from (by rw [eh16753]; exact up2_row (kd_ne kd16682 kd900 (by decide)))) (show hp16737 qa16681 = hp14504 qa16681 from (funext fun i => Fr.at (cq := 85000) F16739 kd16682 (cd_a (by decide)) (by decide)))))))) (by rw [gi_of eq16790, gi_of eq14813]; omega)
                refine lv_goto (tgt := 23) hx hb dX12_expression_81 (by decide) ?_
                have eq16791 : hp16782 qa900 11 = .int zi16762 := Eq.trans (up_at eh16783 (Or.inr (by decide))) (Eq.trans (up_at eh16774 (Or.inl (kd_ne kd900 kd16676 (by decide)))) eq16763)
                have eq16792 : hp16782 qa900 13 = .int zi16769 := Eq.trans (up_at eh16783 (Or.inr (by decide))) (Eq.trans (up_at eh16774 (Or.inl (kd_ne kd900 kd16676 (by decide)))) eq16768)
                have eq16793 : hp16782 qa900 19 = .int zi11 := Eq.trans (up_at eh16783 (Or.inr (by decide))) (Eq.trans (up_at eh16774 (Or.inl (kd_ne kd900 kd16676 (by decide)))) (Eq.trans (Fr.at (cq := 13019) F16759 kd900 (cd_o (by decide)) (by decide)) (Eq.trans (up_at eh16753 (Or.inr (by decide))) (Eq.trans (Fr.at (cq := 13019) F16739 kd900 (cd_o (by decide)) (by decide)) eq14814))))
                have pd16794 : LPx hp16782 qa900 := LP_fr ok14506 kd900 (Fr.put (cq := 13045) (Fr.put (cq := 89000) (Fr.tr (Fr.put (cq := 13012) (Fr.tr (Fr.rf) F16739 (by decide)) eh16753 kd900 (cd_o (by decide)) (by decide)) F16759 (by decide)) eh16774 kd16676 (cd_a (by decide)) (by decide)) eh16783 kd900 (cd_o (by decide)) (by decide)) (by decide) jx14524
                exact ih14810 hp16782 zi16762 zi16769 zi16747 zi16777 _ _ ls (by have := hm14812; omega) ok16784 (Fr.put (cq := 13045) (Fr.put (cq := 89000) (Fr.tr (Fr.put (cq := 13012) (Fr.tr (Fr.tr (Fr.rf) F14505 (by decide)) F16739 (by decide)) eh16753 kd900 (cd_o (by decide)) (by decide)) F16759 (by decide)) eh16774 kd16676 (cd_a (by decide)) (by decide)) eh16783 kd900 (cd_o (by decide)) (by decide)) (b_wid2 bd16764 (by decide) (by decide)) eq16791 (b_wid2 bd16770 (by decide) (by decide)) eq16792 (b_wid2 bd16749 (by decide) (by decide)) eq16787 (b_wid2 bd16779 (by decide) (by decide)) (hp_self eh16783) (by omega) (by omega) (by omega) (by omega) ei16786 pd16794 (lv_sub hl [0, 1] rfl) hw hS
        exact lp14811 _ hp8553 zi8557 zi8559 zi8561 zi8565 _ _ ls (lp_in _) ok8555 (Fr.rf) (b_wid2 bd8572 (by decide) (by decide)) eq8556 (b_wid2 bd14033 (by decide) (by decide)) eq8558 (b_wid2 bd8574 (by decide) (by decide)) eq8560 (b_wid2 bd8576 (by decide) (by decide)) eq8564 (by have := toi bc_1; omega) (by have := toi bc_1; omega) (by have := toi bc_1; omega) (by have := toi bc_1; omega) jx8570 jx8571 (lv_sub hl [0, 1] rfl) hw hS
  have pd16795 : LPx hp20 qa900 := LP_fr ok0 kd900 (Fr.put (cq := 13045) (Fr.rf) eh21 kd900 (cd_o (by decide)) (by decide)) (by decide) pdLPx
  exact lp14027 _ hp20 zi14 zi5 zi8 zi2 0 _ _ ls (lp_in _) ok22 (Fr.rf) (b_wid2 bd15 (by decide) (by decide)) eq26 (b_wid2 bd6 (by decide) (by decide)) eq27 (b_wid2 bd19 (by decide) (by decide)) eq24 (b_wid2 bd3 (by decide) (by decide)) eq25 (b_wid2 bc_0 (by decide) (by decide)) (hp_self eh21) (by have := toi bc_0; have := toi bc_1; omega) (by have := toi bc_0; have := toi bc_1; omega) (by have := toi bc_0; have := toi bc_1; omega) (by have := toi bc_0; have := toi bc_1; omega) ei23 pd16795 (lv_sub hl [2, 1, 0] rfl) hw hS
