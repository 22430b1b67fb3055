set_option maxRecDepth 100000 in
set_option maxHeartbeats 4000000 in
theorem cX12_comesOut_0 (l : Launch) (G : va_G) (cy : Nat → ClassId) (ev : Ew) (K ln : Nat → Nat) (Ls : List Nat) (hW : SW K ln Ls) (sz : Nat) (hp0 : Nat → Nat → Value) (ok0 : Ok K hp0) (qa900 : Nat) (zi901 : Int32) (gc0 : Int) (kd900 : K qa900 = 13) (bd901 : ((0 : Int) ≤ zi901.toInt ∧ zi901.toInt ≤ 1)) (rp0 : (gi hp0 qa900 38) + (gi hp0 qa900 45) ≤ 420*(gi hp0 qa900 19) + 402) (rp1 : (gi hp0 qa900 45) ≤ 63) (pdEI1 : EIx hp0 qa900 gc0 1) (pdLPx : LPx hp0 qa900) : Met l yX12_comesOut (WS yX12_comesOut cX12_comesOut 3 none) { frames := 1, cells := 0, slots := 0, locals := 22 } (PB2 [.ref qa900, .int zi901] sz G cy ev (va_pl Ls (cellOf cy K ln hp0))) (QBv (S := (Nat → Nat → Value)) (fun u : (Nat → Nat → Value) => Ok K u ∧ Fr [13038, 13045, 84000, 85000] K hp0 u ∧ (EIx u qa900 gc0 1) ∧ (LPx u qa900) ∧ (COx u qa900 zi901) ∧ ((gi u qa900 38) + (gi u qa900 45) = (gi hp0 qa900 38) + (gi hp0 qa900 45)) ∧ ((gi u qa900 45) ≤ (gi hp0 qa900 45))) G (fun u => va_pl Ls (cellOf cy K ln u)) (va_A (va_pl Ls (cellOf cy K ln hp0)) sz)) 0 0 (va_A (va_pl Ls (cellOf cy K ln hp0)) sz) := by
  refine met_of2 (y := yX12_comesOut) (L := 3) (av := [.ref qa900, .int zi901]) (Qc := fun A => QBv (S := (Nat → Nat → Value)) (fun u : (Nat → Nat → Value) => Ok K u ∧ Fr [13038, 13045, 84000, 85000] K hp0 u ∧ (EIx u qa900 gc0 1) ∧ (LPx u qa900) ∧ (COx u qa900 zi901) ∧ ((gi u qa900 38) + (gi u qa900 45) = (gi hp0 qa900 38) + (gi hp0 qa900 45)) ∧ ((gi u qa900 45) ≤ (gi hp0 qa900 45))) G (fun u => va_pl Ls (cellOf cy K ln u)) A) (plainFor_of_name (by decide)) (Nat.le_of_ble_eq_true rfl) ?_
  intro p e s m below meth c hsz hx hb hr hml hown hT hlocks hin hK A hA hE hw hS ls hl
  have hw : PW G cy K ln Ls A hp0 s.heap := hw
  have hown : s.vm.findClass "LieClockModel" = some m.cls := hown
  have hl : lv_has ls 3 [(0, .ref qa900), (1, .int zi901)] := hl
  obtain ⟨Q, hQ⟩ : ∃ Q : State → Prop, Q = MQ below (QBv (S := (Nat → Nat → Value)) (fun u : (Nat → Nat → Value) => Ok K u ∧ Fr [13038, 13045, 84000, 85000] K hp0 u ∧ (EIx u qa900 gc0 1) ∧ (LPx u qa900) ∧ (COx u qa900 zi901) ∧ ((gi u qa900 38) + (gi u qa900 45) = (gi hp0 qa900 38) + (gi hp0 qa900 45)) ∧ ((gi u qa900 45) ≤ (gi hp0 qa900 45))) G (fun u => va_pl Ls (cellOf cy K ln u)) A) ([.ref qa900, .int zi901] : List Value).toArray s 0 0 A := ⟨_, rfl⟩
  rw [← hQ]
  obtain ⟨zi2, eq1, bd3⟩ := rd_13038 ok0 kd900
  obtain ⟨zi5, eq4, bd6⟩ := rd_13019 ok0 kd900
  obtain ⟨zi8, eq7, bd9⟩ := rd_13045 ok0 kd900
  have rq0 := rp0
  simp only [gi_of eq1, gi_of eq4, gi_of eq7] at rq0
  have rq1 := rp1
  simp only [gi_of eq7] at rq1
  obtain ⟨zi11, eq10, bd12⟩ := rd_13012 ok0 kd900
  have lp670 : ∀ (n668 : Nat) (hp409 : Nat → Nat → Value) (zi413 : Int32) (zi417 : Int32) (H : Heap) (locs : List Loc) (ls : Array Slot), zi417.toInt < (n668 : Int) → Ok K hp409 → Fr [13038, 13045, 84000, 85000] K hp0 hp409 → ((0 : Int) ≤ zi413.toInt ∧ zi413.toInt ≤ 840) → hp409 qa900 38 = .int zi413 → ((0 : Int) ≤ zi417.toInt ∧ zi417.toInt ≤ 64) → hp409 qa900 45 = .int zi417 → (zi413.toInt + zi417.toInt = zi2.toInt + zi8.toInt) → (zi417.toInt ≤ zi8.toInt) → (EIx hp409 qa900 gc0 1) → (LPx hp409 qa900) → lv_has ls 3 [(0, .ref qa900), (1, .int zi901)] → PW G cy K ln Ls A hp409 H → va_S A s.heap H locs → W p l e ({ frames := 1, cells := 0, slots := 0, locals := 22 } : Room) s m ([.ref qa900, .int zi901] : List Value).toArray below meth c H locs 0 0 Q (F0 m 0 ls []) := by
    intro n668
    induction n668 with
    | zero =>
      intro hp409 zi413 zi417 H locs ls hm671 ok411 F410 bd422 eq412 bd423 eq416 rq418 rq419 jx420 jx421 hl hw hS
      exact absurd hm671 (by omega)
    | succ n668 ih669 =>
      intro hp409 zi413 zi417 H locs ls hm671 ok411 F410 bd422 eq412 bd423 eq416 rq418 rq419 jx420 jx421 hl hw hS
      refine lv_aload_n hx hb dX12_comesOut_0 rfl (lv_at hl 0 rfl) ?_
      refine p_get (ci := 12) (v := .int zi417) (C := RX12) (T := TX12) (N := 69) hx hb hT iw_X12 hown hK hw hW kd900 (by decide) rfl rfl 45 (by decide) eq416 (hT _ tb_1419) (fun _ h9 => h9) dX12_comesOut_1 ?_
      have eq675 : hp409 qa900 19 = .int zi5 := Eq.trans (Fr.at (cq := 13019) F410 kd900 (cd_o (by decide)) (by decide)) eq4
      have eq676 : hp409 qa900 12 = .int zi11 := Eq.trans (Fr.at (cq := 13012) F410 kd900 (cd_o (by decide)) (by decide)) eq10
      refine lv_if_le (tgt := 91) hx hb dX12_comesOut_4 (by decide) (fun cn674 => ?_) (fun cn674 => ?_)
      · skip
        have bd677 : (0 : Int) ≤ zi417.toInt ∧ zi417.toInt ≤ 0 := r_le_x cn674 bd423 bc_0 (by decide) (by decide)
        rw [hQ]
        exact kz_v hx hb hr hlocks hS hp409 hw ⟨ok411, (Fr.tr (Fr.rf) F410 (by decide)), (jx420), (jx421), (Or.inl (by rw [gi_of eq416]; omega)), (by simp only [gi_of eq1, gi_of eq412, gi_of eq416, gi_of eq7]; omega), (by simp only [gi_of eq416, gi_of eq7]; omega)⟩ (Nat.le_of_ble_eq_true rfl) (Nat.le_of_ble_eq_true rfl) dX12_comesOut_91
      · skip
        have bd678 : (1 : Int) ≤ zi417.toInt ∧ zi417.toInt ≤ 64 := r_lt_y (Int32.not_le.mp cn674) bc_0 bd423 (by decide) (by decide)
        obtain ⟨qa680, eq679, kd681⟩ := rd_13044 ok411 kd900
        obtain ⟨qa683, eq682, kd684⟩ := rd_13039 ok411 kd900
        obtain ⟨qa686, eq685, kd687⟩ := rd_13040 ok411 kd900
        refine lv_aload_n hx hb dX12_comesOut_7 rfl (lv_at hl 0 rfl) ?_
        refine p_get (ci := 12) (v := .ref qa680) (C := RX12) (T := TX12) (N := 69) hx hb hT iw_X12 hown hK hw hW kd900 (by decide) rfl rfl 44 (by decide) eq679 (hT _ tb_1418) (fun _ h9 => h9) dX12_comesOut_8 ?_
        refine lv_aload_n hx hb dX12_comesOut_11 rfl (lv_at hl 0 rfl) ?_
        refine p_get (ci := 12) (v := .int zi417) (C := RX12) (T := TX12) (N := 69) hx hb hT iw_X12 hown hK hw hW kd900 (by decide) rfl rfl 45 (by decide) eq416 (hT _ tb_1419) (fun _ h9 => h9) dX12_comesOut_12 ?_
        refine lv_iconst (v := 1) hx hb dX12_comesOut_15 (by decide) ?_
        refine lv_isub hx hb dX12_comesOut_16 (lv_topi (fun zi688 ea689 => ?_))
        have bd690 : (0 : Int) ≤ zi688.toInt ∧ zi688.toInt ≤ 63 := b_isub ea689 bd678 bc_1 (by decide) (by decide) (by decide) (by decide)
        have qe691 : zi688.toInt = (zi417 : Int32).toInt - (1 : Int32).toInt := e_isub ea689 bd678 bc_1 (by decide) (by decide)
        have qe692 : zi688.toInt = zi417.toInt - 1 := by have ha : (1 : Int32).toInt = 1 := (by decide); rw [ha] at qe691; exact qe691
        obtain ⟨zi694, eq693⟩ := rd_89000 ok411 kd681 ((zi688 : Int32).toNatClampNeg)
        refine p_iald (v := zi694) hx hb hK hw hW kd681 (by decide) rfl (hW.len kd681 (n := 64) rfl (by decide)) (vp_b bd690 (by decide) (by decide)) eq693 dX12_comesOut_17 ?_
        refine lv_istore_n (lv' := [(2, .int zi694), (0, .ref qa900), (1, .int zi901)]) hx hb dX12_comesOut_18 rfl hl (by decide) rfl (fun ls hl => ?_)
        refine lv_iload_n hx hb dX12_comesOut_19 rfl (lv_at hl 0 rfl) ?_
        refine lv_bipush (v := 6) hx hb dX12_comesOut_20 (by decide) ?_
        refine lv_icmp_eq (tgt := 41) hx hb dX12_comesOut_22 (by decide) (fun cn695 => ?_) (fun cn695 => ?_)
        · skip
          have bd696 : (6 : Int) ≤ zi694.toInt ∧ zi694.toInt ≤ 6 := r_eq_x cn695 (b_all zi694) bc_6 (by decide) (by decide)
          rw [hQ]
          exact kz_v hx hb hr hlocks hS hp409 hw ⟨ok411, (Fr.tr (Fr.rf) F410 (by decide)), (jx420), (jx421), (Or.inr (Or.inl (by rw [gi_of eq416, show (zi417.toInt - 1).toNat = (zi688 : Int32).toNatClampNeg from by have := clampN (x := zi688) (by omega); omega, mA_of eq679 eq693]; omega))), (by simp only [gi_of eq1, gi_of eq412, gi_of eq416, gi_of eq7]; omega), (by simp only [gi_of eq416, gi_of eq7]; omega)⟩ (Nat.le_of_ble_eq_true rfl) (Nat.le_of_ble_eq_true rfl) dX12_comesOut_41
        · skip
          have tf697 : (zi694 : Int32).toInt ≠ (6 : Int32).toInt := fun e => cn695 (Int32.toInt_inj.mp e)
          have := toi bc_6
          refine lv_iload_n hx hb dX12_comesOut_25 rfl (lv_at hl 2 rfl) ?_
          refine lv_if_eq (tgt := 42) hx hb dX12_comesOut_26 (by decide) (fun cn698 => ?_) (fun cn698 => ?_)
          · skip
            have bd699 : (0 : Int) ≤ zi901.toInt ∧ zi901.toInt ≤ 0 := r_eq_x cn698 bd901 bc_0 (by decide) (by decide)
            refine lv_aload_n hx hb dX12_comesOut_42 rfl (lv_at hl 1 rfl) ?_
            refine lv_dup hx hb dX12_comesOut_43 rfl ?_
            refine p_get (ci := 12) (v := .int zi417) (C := RX12) (T := TX12) (N := 69) hx hb hT iw_X12 hown hK hw hW kd900 (by decide) rfl rfl 45 (by decide) eq416 (hT _ tb_1419) (fun _ h9 => h9) dX12_comesOut_44 ?_
            refine lv_iconst (v := 1) hx hb dX12_comesOut_47 (by decide) ?_
            refine lv_isub hx hb dX12_comesOut_48 (lv_topi (fun zi700 ea701 => ?_))
            have bd702 : (0 : Int) ≤ zi700.toInt ∧ zi700.toInt ≤ 63 := b_isub ea701 bd678 bc_1 (by decide) (by decide) (by decide) (by decide)
            have qe703 : zi700.toInt = (zi417 : Int32).toInt - (1 : Int32).toInt := e_isub ea701 bd678 bc_1 (by decide) (by decide)
            have qe704 : zi700.toInt = zi417.toInt - 1 := by have ha : (1 : Int32).toInt = 1 := (by decide); rw [ha] at qe703; exact qe703
            refine p_put (ci := 12) (v := .int zi700) (ty := .int) (C := RX12) (T := TX12) (N := 69) hx hb hT iw_X12 tyX12 tyX12_ok nmX12 hown hK hw hS hW kd900 (by decide) rfl rfl 45 (by decide) (hT _ tb_1419) (fun _ h9 => h9) rfl (by decide +kernel) rfl rfl dX12_comesOut_49 (fun hp705 eh706 H locs hw hS => ?_)
            have ok707 := wr_13045 bd702 (by decide) (by decide) ok411 kd900 eh706
            refine lv_aload_n hx hb dX12_comesOut_52 rfl (lv_at hl 1 rfl) ?_
            refine lv_iload_n hx hb dX12_comesOut_53 rfl (lv_at hl 0 rfl) ?_
            refine lv_bipush (v := 8) hx hb dX12_comesOut_54 (by decide) ?_
            have eq709 : hp705 qa900 38 = .int zi413 := Eq.trans (up_at eh706 (Or.inr (by decide))) eq412
            have eq710 : hp705 qa900 19 = .int zi5 := Eq.trans (up_at eh706 (Or.inr (by decide))) eq675
            have eq711 : hp705 qa900 12 = .int zi11 := Eq.trans (up_at eh706 (Or.inr (by decide))) eq676
            have jn722 : ∀ (zi720 : Int32) (H : Heap) (locs : List Loc) (ls : Array Slot), ((2 : Int) ≤ zi720.toInt ∧ zi720.toInt ≤ 5) → lv_has ls 3 [(0, .ref qa900), (1, .int zi901)] → PW G cy K ln Ls A hp705 H → va_S A s.heap H locs → W p l e ({ frames := 1, cells := 0, slots := 0, locals := 22 } : Room) s m ([.ref qa900, .int zi901] : List Value).toArray below meth c H locs 0 0 Q (F0 m 84 ls [.int zi720, .ref qa900]) := by
              intro zi720 H locs ls bd721 hl hw hS
              refine lv_iconst (v := 0) hx hb dX12_comesOut_84 (by decide) ?_
              refine kq_v hw hS hA (va_runV (As := [.int zi720, .int 0]) (rest := []) ⟨hx, hb, hml, hown, hT⟩ (cX12_emit_0 l G cy ev K ln Ls hW _ hp705 ok707 qa900 zi720 0 kd900 (b_wid2 bd721 (by decide) (by decide)) (by simp only [gi_of eq709]; omega)) (cwV 2 hT (good_V tb_1711 tb_1708 tb_1710 tb_73 tb_122) rfl rfl rfl (by decide +kernel) ⟨Nat.le_of_ble_eq_true rfl, Nat.le_of_ble_eq_true rfl⟩) (pool_preV (ci := 12) hK hE hS hA hw hW kd900 (by decide) rfl) rfl rfl hl.1 rfl (lv_room (Nat.le_of_ble_eq_true rfl)) dX12_comesOut_85 ⟨Nat.le_of_ble_eq_true rfl, Nat.le_of_ble_eq_true rfl⟩) (fun hp723 H locs hq726 hw hS => ?_)
              obtain ⟨ok724, F725, ⟨zi728, eq729, bd730⟩, xq731, rh732⟩ := hq726
              have hw : PW G cy K ln Ls A hp723 H := hw
              simp only [gi_of eq709, gi_of eq729] at rh732
              have ei733 : EIx hp723 qa900 gc0 1 := EI_pop ok411 kd900 jx420 eh706 (by rw [gi_of eq416]; omega) xq731 F725 (by rw [gi_of eq416]; omega) (by rw [gi_of eq416, show (zi417.toInt - 1).toNat = (zi688 : Int32).toNatClampNeg from by have := clampN (x := zi688) (by omega); omega, mA_of eq679 eq693]; omega) (by have := bd721; omega)
              have pd734 : LPx hp705 qa900 := LP_fr ok411 kd900 (show Fr [13045] K hp409 hp705 from (Fr.put (cq := 13045) (Fr.rf) eh706 kd900 (cd_o (by decide)) (by decide))) (by decide) jx421
              have lp735 : LPx hp723 qa900 := LP_emit ok707 kd900 pd734 xq731 F725 (by rw [gi_of eq709, gi_of eq710]; omega)
              refine lv_goto (tgt := 0) hx hb dX12_comesOut_88 (by decide) ?_
              have eq736 : hp723 qa900 45 = .int zi700 := Eq.trans (Fr.at (cq := 13045) F725 kd900 (cd_o (by decide)) (by decide)) (hp_self eh706)
              have eq737 : hp723 qa900 19 = .int zi5 := Eq.trans (Fr.at (cq := 13019) F725 kd900 (cd_o (by decide)) (by decide)) eq710
              have eq738 : hp723 qa900 12 = .int zi11 := Eq.trans (Fr.at (cq := 13012) F725 kd900 (cd_o (by decide)) (by decide)) eq711
              exact ih669 hp723 zi728 zi700 _ _ ls (by have := hm671; omega) ok724 (Fr.tr (Fr.put (cq := 13045) (Fr.tr (Fr.rf) F410 (by decide)) eh706 kd900 (cd_o (by decide)) (by decide)) F725 (by decide)) (b_wid2 bd730 (by decide) (by decide)) eq729 (b_wid2 bd702 (by decide) (by decide)) eq736 (by omega) (by omega) ei733 lp735 (lv_sub hl [0, 1] rfl) hw hS
            refine lv_icmp_ne (tgt := 63) hx hb dX12_comesOut_56 (by decide) (fun cn708 => ?_) (fun cn708 => ?_)
            · skip
              have tf739 : (zi694 : Int32).toInt ≠ (8 : Int32).toInt := fun e => cn708 (Int32.toInt_inj.mp e)
              have := toi bc_8
              refine lv_iload_n hx hb dX12_comesOut_63 rfl (lv_at hl 0 rfl) ?_
              refine lv_bipush (v := 9) hx hb dX12_comesOut_64 (by decide) ?_
              refine lv_icmp_ne (tgt := 73) hx hb dX12_comesOut_66 (by decide) (fun cn740 => ?_) (fun cn740 => ?_)
              · skip
                have tf741 : (zi694 : Int32).toInt ≠ (9 : Int32).toInt := fun e => cn740 (Int32.toInt_inj.mp e)
                have := toi bc_9
                refine lv_iload_n hx hb dX12_comesOut_73 rfl (lv_at hl 0 rfl) ?_
                refine lv_bipush (v := 10) hx hb dX12_comesOut_74 (by decide) ?_
                refine lv_icmp_ne (tgt := 83) hx hb dX12_comesOut_76 (by decide) (fun cn742 => ?_) (fun cn742 => ?_)
                · skip
                  have tf743 : (zi694 : Int32).toInt ≠ (10 : Int32).toInt := fun e => cn742 (Int32.toInt_inj.mp e)
                  have := toi bc_10
                  refine lv_iconst (v := 5) hx hb dX12_comesOut_83 (by decide) ?_
                  exact jn722 5 _ _ ls (b_wid2 bc_5 (by decide) (by decide)) (lv_sub hl [1, 2] rfl) hw hS
                · skip
                  have bd744 : (10 : Int) ≤ zi694.toInt ∧ zi694.toInt ≤ 10 := r_eq_x cn742 (b_all zi694) bc_10 (by decide) (by decide)
                  refine lv_iconst (v := 4) hx hb dX12_comesOut_79 (by decide) ?_
                  refine lv_goto (tgt := 84) hx hb dX12_comesOut_80 (by decide) ?_
                  exact jn722 4 _ _ ls (b_wid2 bc_4 (by decide) (by decide)) (lv_sub hl [1, 2] rfl) hw hS
              · skip
                have bd745 : (9 : Int) ≤ zi694.toInt ∧ zi694.toInt ≤ 9 := r_eq_x cn740 (b_all zi694) bc_9 (by decide) (by decide)
                refine lv_iconst (v := 3) hx hb dX12_comesOut_69 (by decide) ?_
                refine lv_goto (tgt := 84) hx hb dX12_comesOut_70 (by decide) ?_
                exact jn722 3 _ _ ls (b_wid2 bc_3 (by decide) (by decide)) (lv_sub hl [1, 2] rfl) hw hS
            · skip
              have bd746 : (8 : Int) ≤ zi694.toInt ∧ zi694.toInt ≤ 8 := r_eq_x cn708 (b_all zi694) bc_8 (by decide) (by decide)
              refine lv_iconst (v := 2) hx hb dX12_comesOut_59 (by decide) ?_
              refine lv_goto (tgt := 84) hx hb dX12_comesOut_60 (by decide) ?_
              exact jn722 2 _ _ ls (b_wid2 bc_2 (by decide) (by decide)) (lv_sub hl [1, 2] rfl) hw hS
          · skip
            have tf747 : (zi901 : Int32).toInt ≠ (0 : Int32).toInt := fun e => cn698 (Int32.toInt_inj.mp e)
            have := toi bc_0
            have bd748 : (1 : Int) ≤ zi901.toInt ∧ zi901.toInt ≤ 1 := r_ne_lo cn698 bd901 (toi bc_0) (by decide) (by decide)
            refine lv_iload_n hx hb dX12_comesOut_29 rfl (lv_at hl 0 rfl) ?_
            refine lv_bipush (v := 8) hx hb dX12_comesOut_30 (by decide) ?_
            refine lv_icmp_eq (tgt := 41) hx hb dX12_comesOut_32 (by decide) (fun cn749 => ?_) (fun cn749 => ?_)
            · skip
              have bd750 : (8 : Int) ≤ zi694.toInt ∧ zi694.toInt ≤ 8 := r_eq_x cn749 (b_all zi694) bc_8 (by decide) (by decide)
              rw [hQ]
              exact kz_v hx hb hr hlocks hS hp409 hw ⟨ok411, (Fr.tr (Fr.rf) F410 (by decide)), (jx420), (jx421), (Or.inr (Or.inr ⟨by omega, Or.inl (by rw [gi_of eq416, show (zi417.toInt - 1).toNat = (zi688 : Int32).toNatClampNeg from by have := clampN (x := zi688) (by omega); omega, mA_of eq679 eq693]; omega)⟩)), (by simp only [gi_of eq1, gi_of eq412, gi_of eq416, gi_of eq7]; omega), (by simp only [gi_of eq416, gi_of eq7]; omega)⟩ (Nat.le_of_ble_eq_true rfl) (Nat.le_of_ble_eq_true rfl) dX12_comesOut_41
            · skip
              have tf751 : (zi694 : Int32).toInt ≠ (8 : Int32).toInt := fun e => cn749 (Int32.toInt_inj.mp e)
              have := toi bc_8
              refine lv_iload_n hx hb dX12_comesOut_35 rfl (lv_at hl 0 rfl) ?_
              refine lv_bipush (v := 9) hx hb dX12_comesOut_36 (by decide) ?_
              refine lv_icmp_ne (tgt := 42) hx hb dX12_comesOut_38 (by decide) (fun cn752 => ?_) (fun cn752 => ?_)
              · skip
                have tf753 : (zi694 : Int32).toInt ≠ (9 : Int32).toInt := fun e => cn752 (Int32.toInt_inj.mp e)
                have := toi bc_9
                refine lv_aload_n hx hb dX12_comesOut_42 rfl (lv_at hl 1 rfl) ?_
                refine lv_dup hx hb dX12_comesOut_43 rfl ?_
                refine p_get (ci := 12) (v := .int zi417) (C := RX12) (T := TX12) (N := 69) hx hb hT iw_X12 hown hK hw hW kd900 (by decide) rfl rfl 45 (by decide) eq416 (hT _ tb_1419) (fun _ h9 => h9) dX12_comesOut_44 ?_
                refine lv_iconst (v := 1) hx hb dX12_comesOut_47 (by decide) ?_
                refine lv_isub hx hb dX12_comesOut_48 (lv_topi (fun zi754 ea755 => ?_))
                have bd756 : (0 : Int) ≤ zi754.toInt ∧ zi754.toInt ≤ 63 := b_isub ea755 bd678 bc_1 (by decide) (by decide) (by decide) (by decide)
                have qe757 : zi754.toInt = (zi417 : Int32).toInt - (1 : Int32).toInt := e_isub ea755 bd678 bc_1 (by decide) (by decide)
                have qe758 : zi754.toInt = zi417.toInt - 1 := by have ha : (1 : Int32).toInt = 1 := (by decide); rw [ha] at qe757; exact qe757
                refine p_put (ci := 12) (v := .int zi754) (ty := .int) (C := RX12) (T := TX12) (N := 69) hx hb hT iw_X12 tyX12 tyX12_ok nmX12 hown hK hw hS hW kd900 (by decide) rfl rfl 45 (by decide) (hT _ tb_1419) (fun _ h9 => h9) rfl (by decide +kernel) rfl rfl dX12_comesOut_49 (fun hp759 eh760 H locs hw hS => ?_)
                have ok761 := wr_13045 bd756 (by decide) (by decide) ok411 kd900 eh760
                refine lv_aload_n hx hb dX12_comesOut_52 rfl (lv_at hl 1 rfl) ?_
                refine lv_iload_n hx hb dX12_comesOut_53 rfl (lv_at hl 0 rfl) ?_
                refine lv_bipush (v := 8) hx hb dX12_comesOut_54 (by decide) ?_
                have eq763 : hp759 qa900 38 = .int zi413 := Eq.trans (up_at eh760 (Or.inr (by decide))) eq412
                have eq764 : hp759 qa900 19 = .int zi5 := Eq.trans (up_at eh760 (Or.inr (by decide))) eq675
                have eq765 : hp759 qa900 12 = .int zi11 := Eq.trans (up_at eh760 (Or.inr (by decide))) eq676
                have jn776 : ∀ (zi774 : Int32) (H : Heap) (locs : List Loc) (ls : Array Slot), ((2 : Int) ≤ zi774.toInt ∧ zi774.toInt ≤ 5) → lv_has ls 3 [(0, .ref qa900), (1, .int zi901)] → PW G cy K ln Ls A hp759 H → va_S A s.heap H locs → W p l e ({ frames := 1, cells := 0, slots := 0, locals := 22 } : Room) s m ([.ref qa900, .int zi901] : List Value).toArray below meth c H locs 0 0 Q (F0 m 84 ls [.int zi774, .ref qa900]) := by
                  intro zi774 H locs ls bd775 hl hw hS
                  refine lv_iconst (v := 0) hx hb dX12_comesOut_84 (by decide) ?_
                  refine kq_v hw hS hA (va_runV (As := [.int zi774, .int 0]) (rest := []) ⟨hx, hb, hml, hown, hT⟩ (cX12_emit_0 l G cy ev K ln Ls hW _ hp759 ok761 qa900 zi774 0 kd900 (b_wid2 bd775 (by decide) (by decide)) (by simp only [gi_of eq763]; omega)) (cwV 2 hT (good_V tb_1711 tb_1708 tb_1710 tb_73 tb_122) rfl rfl rfl (by decide +kernel) ⟨Nat.le_of_ble_eq_true rfl, Nat.le_of_ble_eq_true rfl⟩) (pool_preV (ci := 12) hK hE hS hA hw hW kd900 (by decide) rfl) rfl rfl hl.1 rfl (lv_room (Nat.le_of_ble_eq_true rfl)) dX12_comesOut_85 ⟨Nat.le_of_ble_eq_true rfl, Nat.le_of_ble_eq_true rfl⟩) (fun hp777 H locs hq780 hw hS => ?_)
                  obtain ⟨ok778, F779, ⟨zi782, eq783, bd784⟩, xq785, rh786⟩ := hq780
                  have hw : PW G cy K ln Ls A hp777 H := hw
                  simp only [gi_of eq763, gi_of eq783] at rh786
                  have ei787 : EIx hp777 qa900 gc0 1 := EI_pop ok411 kd900 jx420 eh760 (by rw [gi_of eq416]; omega) xq785 F779 (by rw [gi_of eq416]; omega) (by rw [gi_of eq416, show (zi417.toInt - 1).toNat = (zi688 : Int32).toNatClampNeg from by have := clampN (x := zi688) (by omega); omega, mA_of eq679 eq693]; omega) (by have := bd775; omega)
                  have pd788 : LPx hp759 qa900 := LP_fr ok411 kd900 (show Fr [13045] K hp409 hp759 from (Fr.put (cq := 13045) (Fr.rf) eh760 kd900 (cd_o (by decide)) (by decide))) (by decide) jx421
                  have lp789 : LPx hp777 qa900 := LP_emit ok761 kd900 pd788 xq785 F779 (by rw [gi_of eq763, gi_of eq764]; omega)
                  refine lv_goto (tgt := 0) hx hb dX12_comesOut_88 (by decide) ?_
                  have eq790 : hp777 qa900 45 = .int zi754 := Eq.trans (Fr.at (cq := 13045) F779 kd900 (cd_o (by decide)) (by decide)) (hp_self eh760)
                  have eq791 : hp777 qa900 19 = .int zi5 := Eq.trans (Fr.at (cq := 13019) F779 kd900 (cd_o (by decide)) (by decide)) eq764
                  have eq792 : hp777 qa900 12 = .int zi11 := Eq.trans (Fr.at (cq := 13012) F779 kd900 (cd_o (by decide)) (by decide)) eq765
                  exact ih669 hp777 zi782 zi754 _ _ ls (by have := hm671; omega) ok778 (Fr.tr (Fr.put (cq := 13045) (Fr.tr (Fr.rf) F410 (by decide)) eh760 kd900 (cd_o (by decide)) (by decide)) F779 (by decide)) (b_wid2 bd784 (by decide) (by decide)) eq783 (b_wid2 bd756 (by decide) (by decide)) eq790 (by omega) (by omega) ei787 lp789 (lv_sub hl [0, 1] rfl) hw hS
                refine lv_icmp_ne (tgt := 63) hx hb dX12_comesOut_56 (by decide) (fun cn762 => ?_) (fun cn762 => ?_)
                · skip
                  have tf793 : (zi694 : Int32).toInt ≠ (8 : Int32).toInt := fun e => cn762 (Int32.toInt_inj.mp e)
                  have := toi bc_8
                  refine lv_iload_n hx hb dX12_comesOut_63 rfl (lv_at hl 0 rfl) ?_
                  refine lv_bipush (v := 9) hx hb dX12_comesOut_64 (by decide) ?_
                  refine lv_icmp_ne (tgt := 73) hx hb dX12_comesOut_66 (by decide) (fun cn794 => ?_) (fun cn794 => ?_)
                  · skip
                    have tf795 : (zi694 : Int32).toInt ≠ (9 : Int32).toInt := fun e => cn794 (Int32.toInt_inj.mp e)
                    have := toi bc_9
                    refine lv_iload_n hx hb dX12_comesOut_73 rfl (lv_at hl 0 rfl) ?_
                    refine lv_bipush (v := 10) hx hb dX12_comesOut_74 (by decide) ?_
                    refine lv_icmp_ne (tgt := 83) hx hb dX12_comesOut_76 (by decide) (fun cn796 => ?_) (fun cn796 => ?_)
                    · skip
                      have tf797 : (zi694 : Int32).toInt ≠ (10 : Int32).toInt := fun e => cn796 (Int32.toInt_inj.mp e)
                      have := toi bc_10
                      refine lv_iconst (v := 5) hx hb dX12_comesOut_83 (by decide) ?_
                      exact jn776 5 _ _ ls (b_wid2 bc_5 (by decide) (by decide)) (lv_sub hl [1, 2] rfl) hw hS
                    · skip
                      have bd798 : (10 : Int) ≤ zi694.toInt ∧ zi694.toInt ≤ 10 := r_eq_x cn796 (b_all zi694) bc_10 (by decide) (by decide)
                      refine lv_iconst (v := 4) hx hb dX12_comesOut_79 (by decide) ?_
                      refine lv_goto (tgt := 84) hx hb dX12_comesOut_80 (by decide) ?_
                      exact jn776 4 _ _ ls (b_wid2 bc_4 (by decide) (by decide)) (lv_sub hl [1, 2] rfl) hw hS
                  · skip
                    have bd799 : (9 : Int) ≤ zi694.toInt ∧ zi694.toInt ≤ 9 := r_eq_x cn794 (b_all zi694) bc_9 (by decide) (by decide)
                    refine lv_iconst (v := 3) hx hb dX12_comesOut_69 (by decide) ?_
                    refine lv_goto (tgt := 84) hx hb dX12_comesOut_70 (by decide) ?_
                    exact jn776 3 _ _ ls (b_wid2 bc_3 (by decide) (by decide)) (lv_sub hl [1, 2] rfl) hw hS
                · skip
                  have bd800 : (8 : Int) ≤ zi694.toInt ∧ zi694.toInt ≤ 8 := r_eq_x cn762 (b_all zi694) bc_8 (by decide) (by decide)
                  refine lv_iconst (v := 2) hx hb dX12_comesOut_59 (by decide) ?_
                  refine lv_goto (tgt := 84) hx hb dX12_comesOut_60 (by decide) ?_
                  exact jn776 2 _ _ ls (b_wid2 bc_2 (by decide) (by decide)) (lv_sub hl [1, 2] rfl) hw hS
              · skip
                have bd801 : (9 : Int) ≤ zi694.toInt ∧ zi694.toInt ≤ 9 := r_eq_x cn752 (b_all zi694) bc_9 (by decide) (by decide)
                rw [hQ]
                exact kz_v hx hb hr hlocks hS hp409 hw ⟨ok411, (Fr.tr (Fr.rf) F410 (by decide)), (jx420), (jx421), (Or.inr (Or.inr ⟨by omega, Or.inr (by rw [gi_of eq416, show (zi417.toInt - 1).toNat = (zi688 : Int32).toNatClampNeg from by have := clampN (x := zi688) (by omega); omega, mA_of eq679 eq693]; omega)⟩)), (by simp only [gi_of eq1, gi_of eq412, gi_of eq416, gi_of eq7]; omega), (by simp only [gi_of eq416, gi_of eq7]; omega)⟩ (Nat.le_of_ble_eq_true rfl) (Nat.le_of_ble_eq_true rfl) dX12_comesOut_41
  exact lp670 _ hp0 zi2 zi8 _ _ ls (lp_in _) ok0 (Fr.rf) (b_wid2 bd3 (by decide) (by decide)) eq1 (b_wid2 bd9 (by decide) (by decide)) eq7 (by omega) (by omega) pdEI1 pdLPx (lv_sub hl [0, 1] rfl) hw hS

set_option maxRecDepth 100000 in
set_option maxHeartbeats 4000000 in
theorem cX12_expression_0 (l : Launch) (G : va_G) (cy : Nat → ClassId) (ev : Ew) (K ln : Nat → Nat) (Ls : List Nat) (hW : SW K ln Ls) (sz : Nat) (hp0 : Nat → Nat → Value) (ok0 : Ok K hp0) (qa900 : Nat) (kd900 : K qa900 = 13) (rp0 : (gi hp0 qa900 12) = 0) (rp1 : (gi hp0 qa900 38) ≤ 420*(gi hp0 qa900 19) + (gi hp0 qa900 11) + (gi hp0 qa900 13)) (pdLPx : LPx hp0 qa900) : Met l yX12_expression (WS yX12_expression cX12_expression 3 none) { frames := 3, cells := 0, slots := 0, locals := 61 } (PB2 [.ref qa900] sz G cy ev (va_pl Ls (cellOf cy K ln hp0))) (QBv (S := (Nat → Nat → Value)) (fun u : (Nat → Nat → Value) => Ok K u ∧ Fr [13011, 13012, 13013, 13014, 13038, 13045, 84000, 85000, 89000] K hp0 u ∧ (LPx u qa900) ∧ (gi u qa900 13 = 0 → gi hp0 qa900 38 < gi u qa900 38 ∧ CF (mA u qa900 39) (mA u qa900 40) (gi hp0 qa900 38).toNat (gi u qa900 38 - gi hp0 qa900 38).toNat) ∧ (4*(gi u qa900 11) + (gi u qa900 13) ≥ 4*(gi hp0 qa900 11) + (gi hp0 qa900 13)) ∧ ((gi u qa900 13) ≥ (gi hp0 qa900 13)) ∧ ((gi u qa900 12) ≤ 7*(gi u qa900 13)) ∧ ((gi u qa900 38) ≤ 420*(gi u qa900 19) + (gi u qa900 11) + (gi u qa900 13))) G (fun u => va_pl Ls (cellOf cy K ln u)) (va_A (va_pl Ls (cellOf cy K ln hp0)) sz)) 0 0 (va_A (va_pl Ls (cellOf cy K ln hp0)) sz) := by
  refine met_of2 (y := yX12_expression) (L := 3) (av := [.ref qa900]) (Qc := fun A => QBv (S := (Nat → Nat → Value)) (fun u : (Nat → Nat → Value) => Ok K u ∧ Fr [13011, 13012, 13013, 13014, 13038, 13045, 84000, 85000, 89000] K hp0 u ∧ (LPx u qa900) ∧ (gi u qa900 13 = 0 → gi hp0 qa900 38 < gi u qa900 38 ∧ CF (mA u qa900 39) (mA u qa900 40) (gi hp0 qa900 38).toNat (gi u qa900 38 - gi hp0 qa900 38).toNat) ∧ (4*(gi u qa900 11) + (gi u qa900 13) ≥ 4*(gi hp0 qa900 11) + (gi hp0 qa900 13)) ∧ ((gi u qa900 13) ≥ (gi hp0 qa900 13)) ∧ ((gi u qa900 12) ≤ 7*(gi u qa900 13)) ∧ ((gi u qa900 38) ≤ 420*(gi u qa900 19) + (gi u qa900 11) + (gi u qa900 13))) G (fun u => va_pl Ls (cellOf cy K ln u)) A) (plainFor_of_name (by decide)) (Nat.le_of_ble_eq_true rfl) ?_
  intro p e s m below meth c hsz hx hb hr hml hown hT hlocks hin hK A hA hE hw hS ls hl
  have hw : PW G cy K ln Ls A hp0 s.heap := hw
  have hown : s.vm.findClass "LieClockModel" = some m.cls := hown
  have hl : lv_has ls 3 [(0, .ref qa900)] := hl
  obtain ⟨Q, hQ⟩ : ∃ Q : State → Prop, Q = MQ below (QBv (S := (Nat → Nat → Value)) (fun u : (Nat → Nat → Value) => Ok K u ∧ Fr [13011, 13012, 13013, 13014, 13038, 13045, 84000, 85000, 89000] K hp0 u ∧ (LPx u qa900) ∧ (gi u qa900 13 = 0 → gi hp0 qa900 38 < gi u qa900 38 ∧ CF (mA u qa900 39) (mA u qa900 40) (gi hp0 qa900 38).toNat (gi u qa900 38 - gi hp0 qa900 38).toNat) ∧ (4*(gi u qa900 11) + (gi u qa900 13) ≥ 4*(gi hp0 qa900 11) + (gi hp0 qa900 13)) ∧ ((gi u qa900 13) ≥ (gi hp0 qa900 13)) ∧ ((gi u qa900 12) ≤ 7*(gi u qa900 13)) ∧ ((gi u qa900 38) ≤ 420*(gi u qa900 19) + (gi u qa900 11) + (gi u qa900 13))) G (fun u => va_pl Ls (cellOf cy K ln u)) A) ([.ref qa900] : List Value).toArray s 0 0 A := ⟨_, rfl⟩
  rw [← hQ]
  obtain ⟨zi2, eq1, bd3⟩ := rd_13038 ok0 kd900
  obtain ⟨zi5, eq4, bd6⟩ := rd_13013 ok0 kd900
  obtain ⟨zi8, eq7, bd9⟩ := rd_13012 ok0 kd900
  obtain ⟨zi11, eq10, bd12⟩ := rd_13019 ok0 kd900
  obtain ⟨zi14, eq13, bd15⟩ := rd_13011 ok0 kd900
  have rq0 := rp0
  simp only [gi_of eq7] at rq0
  have rq1 := rp1
  simp only [gi_of eq1, gi_of eq4, gi_of eq10, gi_of eq13] at rq1
  obtain ⟨gc0, hgc0⟩ : ∃ x : Int, x = gi hp0 qa900 38 := ⟨_, rfl⟩
  obtain ⟨zi17, eq16, bd18⟩ := rd_13045 ok0 kd900
  have bd19 : (0 : Int) ≤ zi8.toInt ∧ zi8.toInt ≤ 0 := (by omega)
  refine lv_aload_n hx hb dX12_expression_0 rfl (lv_at hl 0 rfl) ?_
  refine lv_iconst (v := 0) hx hb dX12_expression_1 (by decide) ?_
  refine p_put (ci := 12) (v := .int 0) (ty := .int) (C := RX12) (T := TX12) (N := 69) hx hb hT iw_X12 tyX12 tyX12_ok nmX12 hown hK hw hS hW kd900 (by decide) rfl rfl 45 (by decide) (hT _ tb_1419) (fun _ h9 => h9) rfl (by decide +kernel) rfl rfl dX12_expression_2 (fun hp20 eh21 H locs hw hS => ?_)
  have ok22 := wr_13045 bc_0 (by decide) (by decide) ok0 kd900 eh21
  have eq24 : hp20 qa900 12 = .int zi8 := Eq.trans (up_at eh21 (Or.inr (by decide))) eq7
  have eq25 : hp20 qa900 38 = .int zi2 := Eq.trans (up_at eh21 (Or.inr (by decide))) eq1
  have ei23 : EIx hp20 qa900 gc0 0 := by rw [hgc0, gi_of eq1, ← gi_of eq25]; exact EI_zero (by rw [gi_of (hp_self eh21)]; decide) (by rw [gi_of eq24]; omega) (by rw [gi_of eq25]; omega)
  refine lv_aload_n hx hb dX12_expression_5 rfl (lv_at hl 0 rfl) ?_
  refine p_get (ci := 12) (v := .int zi8) (C := RX12) (T := TX12) (N := 69) hx hb hT iw_X12 hown hK hw hW kd900 (by decide) rfl rfl 12 (by decide) eq24 (hT _ tb_1386) (fun _ h9 => h9) dX12_expression_6 ?_
  refine lv_istore_n (lv' := [(1, .int zi8), (0, .ref qa900)]) hx hb dX12_expression_9 rfl hl (by decide) rfl (fun ls hl => ?_)
  refine lv_iconst (v := 1) hx hb dX12_expression_10 (by decide) ?_
  refine lv_istore_n (lv' := [(2, .int 1), (1, .int zi8), (0, .ref qa900)]) hx hb dX12_expression_11 rfl hl (by decide) rfl (fun ls hl => ?_)
  have eq26 : hp20 qa900 11 = .int zi14 := Eq.trans (up_at eh21 (Or.inr (by decide))) eq13
  have eq27 : hp20 qa900 13 = .int zi5 := Eq.trans (up_at eh21 (Or.inr (by decide))) eq4
  have eq28 : hp20 qa900 19 = .int zi11 := Eq.trans (up_at eh21 (Or.inr (by decide))) eq10
  have lp14042 : ∀ (n14040 : Nat) (hp8562 : Nat → Nat → Value) (zi8566 : Int32) (zi8568 : Int32) (zi8570 : Int32) (zi8572 : Int32) (zi8574 : Int32) (H : Heap) (locs : List Loc) (ls : Array Slot), 1602 - 4*zi8566.toInt - zi8568.toInt < (n14040 : Int) → Ok K hp8562 → Fr [13011, 13012, 13013, 13014, 13038, 13045, 84000, 85000, 89000] K hp20 hp8562 → ((0 : Int) ≤ zi8566.toInt ∧ zi8566.toInt ≤ 400) → hp8562 qa900 11 = .int zi8566 → ((0 : Int) ≤ zi8568.toInt ∧ zi8568.toInt ≤ 2) → hp8562 qa900 13 = .int zi8568 → ((0 : Int) ≤ zi8570.toInt ∧ zi8570.toInt ≤ 7) → hp8562 qa900 12 = .int zi8570 → ((0 : Int) ≤ zi8572.toInt ∧ zi8572.toInt ≤ 840) → hp8562 qa900 38 = .int zi8572 → ((0 : Int) ≤ zi8574.toInt ∧ zi8574.toInt ≤ 24) → hp8562 qa900 45 = .int zi8574 → (4*zi8566.toInt + zi8568.toInt ≥ 4*zi14.toInt + zi5.toInt) → (zi8568.toInt ≥ zi5.toInt) → (zi8570.toInt ≤ 6 + zi8568.toInt) → (zi8572.toInt + zi8574.toInt ≤ 420*zi11.toInt + zi8566.toInt + zi8568.toInt) → (EIx hp8562 qa900 gc0 0) → (LPx hp8562 qa900) → lv_has ls 3 [(0, .ref qa900), (1, .int zi8), (2, .int 1)] → PW G cy K ln Ls A hp8562 H → va_S A s.heap H locs → W p l e ({ frames := 3, cells := 0, slots := 0, locals := 61 } : Room) s m ([.ref qa900] : List Value).toArray below meth c H locs 0 0 Q (F0 m 12 ls []) := by
    intro n14040
    induction n14040 with
    | zero =>
      intro hp8562 zi8566 zi8568 zi8570 zi8572 zi8574 H locs ls hm14043 ok8564 F8563 bd8581 eq8565 bd8582 eq8567 bd8583 eq8569 bd8584 eq8571 bd8585 eq8573 rq8575 rq8576 rq8577 rq8578 jx8579 jx8580 hl hw hS
      exact absurd hm14043 (by omega)
    | succ n14040 ih14041 =>
      intro hp8562 zi8566 zi8568 zi8570 zi8572 zi8574 H locs ls hm14043 ok8564 F8563 bd8581 eq8565 bd8582 eq8567 bd8583 eq8569 bd8584 eq8571 bd8585 eq8573 rq8575 rq8576 rq8577 rq8578 jx8579 jx8580 hl hw hS
      refine lv_iload_n hx hb dX12_expression_12 rfl (lv_at hl 2 rfl) ?_
      refine lv_if_eq (tgt := 272) hx hb dX12_expression_13 (by decide) (fun c => absurd c (d_ne bc_1 bc_0 (by decide))) (fun _ => ?_)
      refine lv_aload_n hx hb dX12_expression_16 rfl (lv_at hl 0 rfl) ?_
      refine p_get (ci := 12) (v := .int zi8568) (C := RX12) (T := TX12) (N := 69) hx hb hT iw_X12 hown hK hw hW kd900 (by decide) rfl rfl 13 (by decide) eq8567 (hT _ tb_1387) (fun _ h9 => h9) dX12_expression_17 ?_
      have eq14046 : hp8562 qa900 19 = .int zi11 := Eq.trans (Fr.at (cq := 13019) F8563 kd900 (cd_o (by decide)) (by decide)) eq28
      refine lv_if_ne (tgt := 272) hx hb dX12_expression_20 (by decide) (fun cn14045 => ?_) (fun cn14045 => ?_)
      · skip
        have tf14047 : (zi8568 : Int32).toInt ≠ (0 : Int32).toInt := fun e => cn14045 (Int32.toInt_inj.mp e)
        have := toi bc_0
        have bd14048 : (1 : Int) ≤ zi8568.toInt ∧ zi8568.toInt ≤ 2 := r_ne_lo cn14045 bd8582 (toi bc_0) (by decide) (by decide)
        rw [hQ]
        exact kz_v hx hb hr hlocks hS hp8562 hw ⟨ok8564, (Fr.tr (Fr.put (cq := 13045) (Fr.rf) eh21 kd900 (cd_o (by decide)) (by decide)) F8563 (by decide)), (jx8580), (fun h => absurd h (by rw [gi_of eq8567]; omega)), (by simp only [gi_of eq13, gi_of eq4, gi_of eq8565, gi_of eq8567]; omega), (by simp only [gi_of eq4, gi_of eq8567]; omega), (by simp only [gi_of eq8567, gi_of eq8569]; omega), (by simp only [gi_of eq14046, gi_of eq8565, gi_of eq8567, gi_of eq8571]; omega)⟩ (Nat.le_of_ble_eq_true rfl) (Nat.le_of_ble_eq_true rfl) dX12_expression_272
      · skip
        have bd14049 : (0 : Int) ≤ zi8568.toInt ∧ zi8568.toInt ≤ 0 := r_eq_x cn14045 bd8582 bc_0 (by decide) (by decide)
        have lp14827 : ∀ (n14825 : Nat) (hp14520 : Nat → Nat → Value) (zi14526 : Int32) (zi14530 : Int32) (zi14532 : Int32) (zi14534 : Int32) (H : Heap) (locs : List Loc) (ls : Array Slot), 1602 - 4*zi14526.toInt - zi14530.toInt < (n14825 : Int) → Ok K hp14520 → Fr [13011, 13012, 13013, 13014, 13045, 89000] K hp8562 hp14520 → ((0 : Int) ≤ zi14526.toInt ∧ zi14526.toInt ≤ 400) → hp14520 qa900 11 = .int zi14526 → ((0 : Int) ≤ zi14530.toInt ∧ zi14530.toInt ≤ 2) → hp14520 qa900 13 = .int zi14530 → ((0 : Int) ≤ zi14532.toInt ∧ zi14532.toInt ≤ 7) → hp14520 qa900 12 = .int zi14532 → ((0 : Int) ≤ zi14534.toInt ∧ zi14534.toInt ≤ 24) → hp14520 qa900 45 = .int zi14534 → (4*zi14526.toInt + zi14530.toInt ≥ 4*zi8566.toInt + zi8568.toInt) → (zi14530.toInt ≥ zi8568.toInt) → (zi14532.toInt ≤ 6 + zi14530.toInt) → (zi8572.toInt + zi14534.toInt ≤ 420*zi11.toInt + zi14526.toInt + zi14530.toInt) → (EIx hp14520 qa900 gc0 0) → (LPx hp14520 qa900) → lv_has ls 3 [(0, .ref qa900), (1, .int zi8)] → PW G cy K ln Ls A hp14520 H → va_S A s.heap H locs → W p l e ({ frames := 3, cells := 0, slots := 0, locals := 61 } : Room) s m ([.ref qa900] : List Value).toArray below meth c H locs 0 0 Q (F0 m 23 ls []) := by
          intro n14825
          induction n14825 with
          | zero =>
            intro hp14520 zi14526 zi14530 zi14532 zi14534 H locs ls hm14828 ok14522 F14521 bd14541 eq14525 bd14542 eq14529 bd14543 eq14531 bd14544 eq14533 rq14535 rq14536 rq14537 rq14538 jx14539 jx14540 hl hw hS
            exact absurd hm14828 (by omega)
          | succ n14825 ih14826 =>
            intro hp14520 zi14526 zi14530 zi14532 zi14534 H locs ls hm14828 ok14522 F14521 bd14541 eq14525 bd14542 eq14529 bd14543 eq14531 bd14544 eq14533 rq14535 rq14536 rq14537 rq14538 jx14539 jx14540 hl hw hS
            refine lv_aload_n hx hb dX12_expression_23 rfl (lv_at hl 0 rfl) ?_
            refine lv_bipush (v := 6) hx hb dX12_expression_24 (by decide) ?_
            obtain ⟨qa14832, eq14831, kd14833⟩ := rd_13005 ok14522 kd900
            obtain ⟨zi14835, eq14834⟩ := rd_62000 ok14522 kd14833 ((zi14526 : Int32).toNatClampNeg)
            refine kq_i hw hS hA (va_runV (As := [.int 6]) (rest := []) ⟨hx, hb, hml, hown, hT⟩ (cX12_is_0 l G cy ev K ln Ls hW _ hp14520 ok14522 qa900 6 kd900) (cwV 1 hT (good_V tb_1623 tb_1620 tb_1622 tb_52 tb_122) rfl rfl rfl (by decide +kernel) ⟨Nat.le_of_ble_eq_true rfl, Nat.le_of_ble_eq_true rfl⟩) (pool_preV (ci := 12) hK hE hS hA hw hW kd900 (by decide) rfl) rfl rfl hl.1 rfl (lv_room (Nat.le_of_ble_eq_true rfl)) dX12_expression_26 ⟨Nat.le_of_ble_eq_true rfl, Nat.le_of_ble_eq_true rfl⟩) (fun zi14840 hp14836 H locs hq14839 hw hS => ?_)
            obtain ⟨ok14837, F14838, bd14841, hc14842, rh14843, rh14844, rh14845⟩ := hq14839
            obtain rfl : hp14520 = hp14836 := (Fr.nil F14838).symm
            have hw : PW G cy K ln Ls A hp14520 H := hw
            have eq14847 : hp14520 qa900 38 = .int zi8572 := Eq.trans (Fr.at (cq := 13038) F14521 kd900 (cd_o (by decide)) (by decide)) eq8571
            have eq14848 : hp14520 qa900 19 = .int zi11 := Eq.trans (Fr.at (cq := 13019) F14521 kd900 (cd_o (by decide)) (by decide)) eq14046
            rcases b01 bd14841 with cn14846 | cn14846
            · skip
              subst cn14846
              have rh14849 := rh14845 rfl
              simp only [ge_of eq14831 eq14525 eq14834, gi_of eq14529, toi bc_6] at rh14849
              refine lv_if_eq (tgt := 84) hx hb dX12_expression_29 (by decide) (fun _ => ?_) (fun c => absurd (d_eq bc_0 bc_0) c)
              have el14850 := EI_lin jx14539
              rw [gi_of eq14533, gi_of eq14531, gi_of eq14847] at el14850
              refine lv_aload_n hx hb dX12_expression_84 rfl (lv_at hl 0 rfl) ?_
              refine kq_v hw hS hA (va_runV (As := []) (rest := []) ⟨hx, hb, hml, hown, hT⟩ (cX12_unit_0 l G cy ev K ln Ls hW _ hp14520 ok14522 qa900 gc0 kd900 (by simp only [gi_of eq14847, gi_of eq14529, gi_of eq14848, gi_of eq14525, gi_of eq14533]; omega) jx14539 jx14540) (cwV 0 hT (good_V tb_1707 tb_1704 tb_1706 tb_72 tb_122) rfl rfl rfl (by decide +kernel) ⟨Nat.le_of_ble_eq_true rfl, Nat.le_of_ble_eq_true rfl⟩) (pool_preV (ci := 12) hK hE hS hA hw hW kd900 (by decide) rfl) rfl rfl hl.1 rfl (lv_room (Nat.le_of_ble_eq_true rfl)) dX12_expression_85 ⟨Nat.le_of_ble_eq_true rfl, Nat.le_of_ble_eq_true rfl⟩) (fun hp14851 H locs hq14854 hw hS => ?_)
              obtain ⟨ok14852, F14853, xq14856, xq14857, rh14858, rh14859, rh14860, rh14861⟩ := hq14854
              have hw : PW G cy K ln Ls A hp14851 H := hw
              obtain ⟨zi14863, eq14862, bd14864⟩ := rd_13013 ok14852 kd900
              obtain ⟨zi14866, eq14865, bd14867⟩ := rd_13011 ok14852 kd900
              simp only [gi_of eq14525, gi_of eq14529, gi_of eq14862, gi_of eq14865] at rh14858
              simp only [gi_of eq14529, gi_of eq14862] at rh14859
              simp only [gi_of eq14525, gi_of eq14862, gi_of eq14865] at rh14860
              obtain ⟨zi14869, eq14868, bd14870⟩ := rd_13038 ok14852 kd900
              have eq14871 : hp14851 qa900 19 = .int zi11 := Eq.trans (Fr.at (cq := 13019) F14853 kd900 (cd_o (by decide)) (by decide)) eq14848
              have eq14872 : hp14851 qa900 45 = .int zi14534 := Eq.trans (Fr.at (cq := 13045) F14853 kd900 (cd_o (by decide)) (by decide)) eq14533
              simp only [gi_of eq14862, gi_of eq14865, gi_of eq14868, gi_of eq14871, gi_of eq14872] at rh14861
              refine lv_aload_n hx hb dX12_expression_88 rfl (lv_at hl 0 rfl) ?_
              refine p_get (ci := 12) (v := .int zi14863) (C := RX12) (T := TX12) (N := 69) hx hb hT iw_X12 hown hK hw hW kd900 (by decide) rfl rfl 13 (by decide) eq14862 (hT _ tb_1387) (fun _ h9 => h9) dX12_expression_89 ?_
              have eq14874 : hp14851 qa900 12 = .int zi14532 := Eq.trans (Fr.at (cq := 13012) F14853 kd900 (cd_o (by decide)) (by decide)) eq14531
              refine lv_if_le (tgt := 96) hx hb dX12_expression_92 (by decide) (fun cn14873 => ?_) (fun cn14873 => ?_)
              · skip
                have bd14875 : (0 : Int) ≤ zi14863.toInt ∧ zi14863.toInt ≤ 0 := r_le_x cn14873 bd14864 bc_0 (by decide) (by decide)
                have jn15468 : ∀ (hp15444 : Nat → Nat → Value) (zi15448 : Int32) (zi15450 : Int32) (zi15452 : Int32) (zi15454 : Int32) (zi15456 : Int32) (H : Heap) (locs : List Loc) (ls : Array Slot), Ok K hp15444 → Fr [13011, 13012, 13013, 13014, 13038, 13045, 84000, 85000] K hp14851 hp15444 → ((0 : Int) ≤ zi15448.toInt ∧ zi15448.toInt ≤ 400) → hp15444 qa900 11 = .int zi15448 → ((0 : Int) ≤ zi15450.toInt ∧ zi15450.toInt ≤ 2) → hp15444 qa900 13 = .int zi15450 → ((0 : Int) ≤ zi15452.toInt ∧ zi15452.toInt ≤ 7) → hp15444 qa900 12 = .int zi15452 → ((0 : Int) ≤ zi15454.toInt ∧ zi15454.toInt ≤ 840) → hp15444 qa900 38 = .int zi15454 → ((0 : Int) ≤ zi15456.toInt ∧ zi15456.toInt ≤ 24) → hp15444 qa900 45 = .int zi15456 → (4*zi15448.toInt + zi15450.toInt ≥ 4*zi14866.toInt + zi14863.toInt) → (zi15450.toInt ≥ zi14863.toInt) → (zi15452.toInt ≤ 6 + zi15450.toInt) → (zi15454.toInt + zi15456.toInt ≤ 420*zi11.toInt + zi15448.toInt + zi15450.toInt) → (EIx hp15444 qa900 gc0 1) → (LPx hp15444 qa900) → lv_has ls 3 [(0, .ref qa900), (1, .int zi8)] → PW G cy K ln Ls A hp15444 H → va_S A s.heap H locs → W p l e ({ frames := 3, cells := 0, slots := 0, locals := 61 } : Room) s m ([.ref qa900] : List Value).toArray below meth c H locs 0 0 Q (F0 m 145 ls []) := by
                  intro hp15444 zi15448 zi15450 zi15452 zi15454 zi15456 H locs ls ok15446 F15445 bd15463 eq15447 bd15464 eq15449 bd15465 eq15451 bd15466 eq15453 bd15467 eq15455 rq15457 rq15458 rq15459 rq15460 jx15461 jx15462 hl hw hS
                  have el15469 := EI_lin jx15461
                  rw [gi_of eq15455, gi_of eq15451, gi_of eq15453] at el15469
                  have bd15470 : (0 : Int) ≤ zi15456.toInt ∧ zi15456.toInt ≤ 23 := (by omega)
                  refine lv_aload_n hx hb dX12_expression_145 rfl (lv_at hl 0 rfl) ?_
                  refine lv_bipush (v := 8) hx hb dX12_expression_146 (by decide) ?_
                  have eq15471 : hp15444 qa900 5 = .ref qa14832 := Eq.trans (Fr.at (cq := 13005) F15445 kd900 (cd_o (by decide)) (by decide)) (Eq.trans (Fr.at (cq := 13005) F14853 kd900 (cd_o (by decide)) (by decide)) eq14831)
                  obtain ⟨zi15473, eq15472⟩ := rd_62000 ok15446 kd14833 ((zi15448 : Int32).toNatClampNeg)
                  refine kq_i hw hS hA (va_runV (As := [.int 8]) (rest := []) ⟨hx, hb, hml, hown, hT⟩ (cX12_is_0 l G cy ev K ln Ls hW _ hp15444 ok15446 qa900 8 kd900) (cwV 1 hT (good_V tb_1623 tb_1620 tb_1622 tb_52 tb_122) rfl rfl rfl (by decide +kernel) ⟨Nat.le_of_ble_eq_true rfl, Nat.le_of_ble_eq_true rfl⟩) (pool_preV (ci := 12) hK hE hS hA hw hW kd900 (by decide) rfl) rfl rfl hl.1 rfl (lv_room (Nat.le_of_ble_eq_true rfl)) dX12_expression_148 ⟨Nat.le_of_ble_eq_true rfl, Nat.le_of_ble_eq_true rfl⟩) (fun zi15478 hp15474 H locs hq15477 hw hS => ?_)
                  obtain ⟨ok15475, F15476, bd15479, hc15480, rh15481, rh15482, rh15483⟩ := hq15477
                  obtain rfl : hp15444 = hp15474 := (Fr.nil F15476).symm
                  have hw : PW G cy K ln Ls A hp15444 H := hw
                  have eq15485 : hp15444 qa900 19 = .int zi11 := Eq.trans (Fr.at (cq := 13019) F15445 kd900 (cd_o (by decide)) (by decide)) eq14871
                  rcases b01 bd15479 with cn15484 | cn15484
                  · skip
                    subst cn15484
                    have rh15486 := rh15483 rfl
                    simp only [ge_of eq15471 eq15447 eq15472, gi_of eq15449, toi bc_8] at rh15486
                    refine lv_if_ne (tgt := 181) hx hb dX12_expression_151 (by decide) (fun c => absurd (d_eq bc_0 bc_0) c) (fun _ => ?_)
                    refine lv_aload_n hx hb dX12_expression_154 rfl (lv_at hl 0 rfl) ?_
                    refine lv_bipush (v := 9) hx hb dX12_expression_155 (by decide) ?_
                    refine kq_i hw hS hA (va_runV (As := [.int 9]) (rest := []) ⟨hx, hb, hml, hown, hT⟩ (cX12_is_0 l G cy ev K ln Ls hW _ hp15444 ok15446 qa900 9 kd900) (cwV 1 hT (good_V tb_1623 tb_1620 tb_1622 tb_52 tb_122) rfl rfl rfl (by decide +kernel) ⟨Nat.le_of_ble_eq_true rfl, Nat.le_of_ble_eq_true rfl⟩) (pool_preV (ci := 12) hK hE hS hA hw hW kd900 (by decide) rfl) rfl rfl hl.1 rfl (lv_room (Nat.le_of_ble_eq_true rfl)) dX12_expression_157 ⟨Nat.le_of_ble_eq_true rfl, Nat.le_of_ble_eq_true rfl⟩) (fun zi15491 hp15487 H locs hq15490 hw hS => ?_)
                    obtain ⟨ok15488, F15489, bd15492, hc15493, rh15494, rh15495, rh15496⟩ := hq15490
                    obtain rfl : hp15444 = hp15487 := (Fr.nil F15489).symm
                    have hw : PW G cy K ln Ls A hp15444 H := hw
                    rcases b01 bd15492 with cn15497 | cn15497
                    · skip
                      subst cn15497
                      have rh15498 := rh15496 rfl
                      simp only [ge_of eq15471 eq15447 eq15472, gi_of eq15449, toi bc_9] at rh15498
                      refine lv_if_ne (tgt := 181) hx hb dX12_expression_160 (by decide) (fun c => absurd (d_eq bc_0 bc_0) c) (fun _ => ?_)
                      refine lv_aload_n hx hb dX12_expression_163 rfl (lv_at hl 0 rfl) ?_
                      refine lv_bipush (v := 10) hx hb dX12_expression_164 (by decide) ?_
                      refine kq_i hw hS hA (va_runV (As := [.int 10]) (rest := []) ⟨hx, hb, hml, hown, hT⟩ (cX12_is_0 l G cy ev K ln Ls hW _ hp15444 ok15446 qa900 10 kd900) (cwV 1 hT (good_V tb_1623 tb_1620 tb_1622 tb_52 tb_122) rfl rfl rfl (by decide +kernel) ⟨Nat.le_of_ble_eq_true rfl, Nat.le_of_ble_eq_true rfl⟩) (pool_preV (ci := 12) hK hE hS hA hw hW kd900 (by decide) rfl) rfl rfl hl.1 rfl (lv_room (Nat.le_of_ble_eq_true rfl)) dX12_expression_166 ⟨Nat.le_of_ble_eq_true rfl, Nat.le_of_ble_eq_true rfl⟩) (fun zi15503 hp15499 H locs hq15502 hw hS => ?_)
                      obtain ⟨ok15500, F15501, bd15504, hc15505, rh15506, rh15507, rh15508⟩ := hq15502
                      obtain rfl : hp15444 = hp15499 := (Fr.nil F15501).symm
                      have hw : PW G cy K ln Ls A hp15444 H := hw
                      rcases b01 bd15504 with cn15509 | cn15509
                      · skip
                        subst cn15509
                        have rh15510 := rh15508 rfl
                        simp only [ge_of eq15471 eq15447 eq15472, gi_of eq15449, toi bc_10] at rh15510
                        refine lv_if_ne (tgt := 181) hx hb dX12_expression_169 (by decide) (fun c => absurd (d_eq bc_0 bc_0) c) (fun _ => ?_)
                        refine lv_aload_n hx hb dX12_expression_172 rfl (lv_at hl 0 rfl) ?_
                        refine lv_bipush (v := 15) hx hb dX12_expression_173 (by decide) ?_
                        refine kq_i hw hS hA (va_runV (As := [.int 15]) (rest := []) ⟨hx, hb, hml, hown, hT⟩ (cX12_is_0 l G cy ev K ln Ls hW _ hp15444 ok15446 qa900 15 kd900) (cwV 1 hT (good_V tb_1623 tb_1620 tb_1622 tb_52 tb_122) rfl rfl rfl (by decide +kernel) ⟨Nat.le_of_ble_eq_true rfl, Nat.le_of_ble_eq_true rfl⟩) (pool_preV (ci := 12) hK hE hS hA hw hW kd900 (by decide) rfl) rfl rfl hl.1 rfl (lv_room (Nat.le_of_ble_eq_true rfl)) dX12_expression_175 ⟨Nat.le_of_ble_eq_true rfl, Nat.le_of_ble_eq_true rfl⟩) (fun zi15515 hp15511 H locs hq15514 hw hS => ?_)
                        obtain ⟨ok15512, F15513, bd15516, hc15517, rh15518, rh15519, rh15520⟩ := hq15514
                        obtain rfl : hp15444 = hp15511 := (Fr.nil F15513).symm
                        have hw : PW G cy K ln Ls A hp15444 H := hw
                        rcases b01 bd15516 with cn15521 | cn15521
                        · skip
                          subst cn15521
                          have rh15522 := rh15520 rfl
                          simp only [ge_of eq15471 eq15447 eq15472, gi_of eq15449, toi bc_15] at rh15522
                          refine lv_if_eq (tgt := 185) hx hb dX12_expression_178 (by decide) (fun _ => ?_) (fun c => absurd (d_eq bc_0 bc_0) c)
                          refine lv_iconst (v := 0) hx hb dX12_expression_185 (by decide) ?_
                          refine lv_istore_n (lv' := [(2, .int 0), (0, .ref qa900), (1, .int zi8)]) hx hb dX12_expression_186 rfl hl (by decide) rfl (fun ls hl => ?_)
                          refine lv_iload_n hx hb dX12_expression_187 rfl (lv_at hl 0 rfl) ?_
                          refine lv_if_ne (tgt := 210) hx hb dX12_expression_188 (by decide) (fun c => absurd (d_eq bc_0 bc_0) c) (fun _ => ?_)
                          refine lv_aload_n hx hb dX12_expression_191 rfl (lv_at hl 1 rfl) ?_
                          refine p_get (ci := 12) (v := .int zi15452) (C := RX12) (T := TX12) (N := 69) hx hb hT iw_X12 hown hK hw hW kd900 (by decide) rfl rfl 12 (by decide) eq15451 (hT _ tb_1386) (fun _ h9 => h9) dX12_expression_192 ?_
                          refine lv_iload_n hx hb dX12_expression_195 rfl (lv_at hl 2 rfl) ?_
                          refine lv_icmp_le (tgt := 204) hx hb dX12_expression_196 (by decide) (fun cn15523 => ?_) (fun cn15523 => ?_)
                          · skip
                            have tf15524 : zi15452.toInt ≤ zi8.toInt := (fa_le _ _).mp cn15523
                            have bd15525 : (0 : Int) ≤ zi15452.toInt ∧ zi15452.toInt ≤ 0 := r_le_x cn15523 bd15465 bd19 (by decide) (by decide)
                            refine lv_aload_n hx hb dX12_expression_204 rfl (lv_at hl 1 rfl) ?_
                            refine lv_iconst (v := 0) hx hb dX12_expression_205 (by decide) ?_
                            refine kq_v hw hS hA (va_runV (As := [.int 0]) (rest := []) ⟨hx, hb, hml, hown, hT⟩ (cX12_comesOut_0 l G cy ev K ln Ls hW _ hp15444 ok15446 qa900 0 gc0 kd900 (b_wid2 bc_0 (by decide) (by decide)) (by simp only [gi_of eq15453, gi_of eq15485, gi_of eq15455]; omega) (by simp only [gi_of eq15455]; omega) jx15461 jx15462) (cwV 1 hT (good_V tb_1715 tb_1712 tb_1714 tb_74 tb_122) rfl rfl rfl (by decide +kernel) ⟨Nat.le_of_ble_eq_true rfl, Nat.le_of_ble_eq_true rfl⟩) (pool_preV (ci := 12) hK hE hS hA hw hW kd900 (by decide) rfl) rfl rfl hl.1 rfl (lv_room (Nat.le_of_ble_eq_true rfl)) dX12_expression_206 ⟨Nat.le_of_ble_eq_true rfl, Nat.le_of_ble_eq_true rfl⟩) (fun hp15526 H locs hq15529 hw hS => ?_)
                            obtain ⟨ok15527, F15528, xq15531, xq15532, xq15533, rh15534, rh15535⟩ := hq15529
                            have hw : PW G cy K ln Ls A hp15526 H := hw
                            obtain ⟨zi15537, eq15536, bd15538⟩ := rd_13038 ok15527 kd900
                            obtain ⟨zi15540, eq15539, bd15541⟩ := rd_13045 ok15527 kd900
                            simp only [gi_of eq15453, gi_of eq15455, gi_of eq15536, gi_of eq15539] at rh15534
                            simp only [gi_of eq15455, gi_of eq15539] at rh15535
                            have eq15542 : hp15526 qa900 13 = .int zi15450 := Eq.trans (Fr.at (cq := 13013) F15528 kd900 (cd_o (by decide)) (by decide)) eq15449
                            have eq15543 : hp15526 qa900 11 = .int zi15448 := Eq.trans (Fr.at (cq := 13011) F15528 kd900 (cd_o (by decide)) (by decide)) eq15447
                            have eq15544 : hp15526 qa900 12 = .int zi15452 := Eq.trans (Fr.at (cq := 13012) F15528 kd900 (cd_o (by decide)) (by decide)) eq15451
                            have eq15545 : hp15526 qa900 19 = .int zi11 := Eq.trans (Fr.at (cq := 13019) F15528 kd900 (cd_o (by decide)) (by decide)) eq15485
                            rw [hQ]
                            exact kz_v hx hb hr hlocks hS hp15526 hw ⟨ok15527, (Fr.tr (Fr.tr (Fr.tr (Fr.tr (Fr.tr (Fr.put (cq := 13045) (Fr.rf) eh21 kd900 (cd_o (by decide)) (by decide)) F8563 (by decide)) F14521 (by decide)) F14853 (by decide)) F15445 (by decide)) F15528 (by decide)), (xq15532), (fun _ => by rw [← hgc0]; exact ei_end xq15531), (by simp only [gi_of eq13, gi_of eq15542, gi_of eq15543, gi_of eq4]; omega), (by simp only [gi_of eq15542, gi_of eq4]; omega), (by simp only [gi_of eq15542, gi_of eq15544]; omega), (by simp only [gi_of eq15536, gi_of eq15542, gi_of eq15543, gi_of eq15545]; omega)⟩ (Nat.le_of_ble_eq_true rfl) (Nat.le_of_ble_eq_true rfl) dX12_expression_209
                          · skip
                            have tf15546 : zi8.toInt < zi15452.toInt := (fa_lt _ _).mp (Int32.not_le.mp cn15523)
                            have bd15547 : (1 : Int) ≤ zi15452.toInt ∧ zi15452.toInt ≤ 7 := r_lt_y (Int32.not_le.mp cn15523) bd19 bd15465 (by decide) (by decide)
                            refine lv_aload_n hx hb dX12_expression_199 rfl (lv_at hl 1 rfl) ?_
                            refine lv_iconst (v := 1) hx hb dX12_expression_200 (by decide) ?_
                            refine kq_v hw hS hA (va_runV (As := [.int 1]) (rest := []) ⟨hx, hb, hml, hown, hT⟩ (cX12_fail_0 l G cy ev K ln Ls hW _ hp15444 ok15446 qa900 1 kd900 (b_wid2 bc_1 (by decide) (by decide))) (cwV 1 hT (good_V tb_1635 tb_1632 tb_1634 tb_55 tb_122) rfl rfl rfl (by decide +kernel) ⟨Nat.le_of_ble_eq_true rfl, Nat.le_of_ble_eq_true rfl⟩) (pool_preV (ci := 12) hK hE hS hA hw hW kd900 (by decide) rfl) rfl rfl hl.1 rfl (lv_room (Nat.le_of_ble_eq_true rfl)) dX12_expression_201 ⟨Nat.le_of_ble_eq_true rfl, Nat.le_of_ble_eq_true rfl⟩) (fun hp15548 H locs hq15551 hw hS => ?_)
                            obtain ⟨ok15549, F15550, ⟨zi15553, eq15554, bd15555⟩, rh15556⟩ := hq15551
                            have hw : PW G cy K ln Ls A hp15548 H := hw
                            simp only [gi_of eq15449, gi_of eq15554] at rh15556
                            refine lv_aload_n hx hb dX12_expression_204 rfl (lv_at hl 1 rfl) ?_
                            refine lv_iconst (v := 0) hx hb dX12_expression_205 (by decide) ?_
                            have eq15557 : hp15548 qa900 38 = .int zi15454 := Eq.trans (Fr.at (cq := 13038) F15550 kd900 (cd_o (by decide)) (by decide)) eq15453
                            have eq15558 : hp15548 qa900 19 = .int zi11 := Eq.trans (Fr.at (cq := 13019) F15550 kd900 (cd_o (by decide)) (by decide)) eq15485
                            have eq15559 : hp15548 qa900 45 = .int zi15456 := Eq.trans (Fr.at (cq := 13045) F15550 kd900 (cd_o (by decide)) (by decide)) eq15455
                            have pd15560 : EIx hp15548 qa900 gc0 1 := EI_fr ok15446 kd900 (show Fr [13013, 13014] K hp15444 hp15548 from (Fr.tr (Fr.rf) F15550 (by decide))) (by decide) jx15461
                            have pd15561 : LPx hp15548 qa900 := LP_fr ok15446 kd900 (show Fr [13013, 13014] K hp15444 hp15548 from (Fr.tr (Fr.rf) F15550 (by decide))) (by decide) jx15462
                            refine kq_v hw hS hA (va_runV (As := [.int 0]) (rest := []) ⟨hx, hb, hml, hown, hT⟩ (cX12_comesOut_0 l G cy ev K ln Ls hW _ hp15548 ok15549 qa900 0 gc0 kd900 (b_wid2 bc_0 (by decide) (by decide)) (by simp only [gi_of eq15557, gi_of eq15558, gi_of eq15559]; omega) (by simp only [gi_of eq15559]; omega) pd15560 pd15561) (cwV 1 hT (good_V tb_1715 tb_1712 tb_1714 tb_74 tb_122) rfl rfl rfl (by decide +kernel) ⟨Nat.le_of_ble_eq_true rfl, Nat.le_of_ble_eq_true rfl⟩) (pool_preV (ci := 12) hK hE hS hA hw hW kd900 (by decide) rfl) rfl rfl hl.1 rfl (lv_room (Nat.le_of_ble_eq_true rfl)) dX12_expression_206 ⟨Nat.le_of_ble_eq_true rfl, Nat.le_of_ble_eq_true rfl⟩) (fun hp15562 H locs hq15565 hw hS => ?_)
                            obtain ⟨ok15563, F15564, xq15567, xq15568, xq15569, rh15570, rh15571⟩ := hq15565
                            have hw : PW G cy K ln Ls A hp15562 H := hw
                            obtain ⟨zi15573, eq15572, bd15574⟩ := rd_13038 ok15563 kd900
                            obtain ⟨zi15576, eq15575, bd15577⟩ := rd_13045 ok15563 kd900
                            simp only [gi_of eq15557, gi_of eq15559, gi_of eq15572, gi_of eq15575] at rh15570
                            simp only [gi_of eq15559, gi_of eq15575] at rh15571
                            have eq15578 : hp15562 qa900 13 = .int zi15553 := Eq.trans (Fr.at (cq := 13013) F15564 kd900 (cd_o (by decide)) (by decide)) eq15554
                            have eq15579 : hp15562 qa900 11 = .int zi15448 := Eq.trans (Fr.at (cq := 13011) F15564 kd900 (cd_o (by decide)) (by decide)) (Eq.trans (Fr.at (cq := 13011) F15550 kd900 (cd_o (by decide)) (by decide)) eq15447)
                            have eq15580 : hp15562 qa900 12 = .int zi15452 := Eq.trans (Fr.at (cq := 13012) F15564 kd900 (cd_o (by decide)) (by decide)) (Eq.trans (Fr.at (cq := 13012) F15550 kd900 (cd_o (by decide)) (by decide)) eq15451)
                            have eq15581 : hp15562 qa900 19 = .int zi11 := Eq.trans (Fr.at (cq := 13019) F15564 kd900 (cd_o (by decide)) (by decide)) eq15558
                            rw [hQ]
                            exact kz_v hx hb hr hlocks hS hp15562 hw ⟨ok15563, (Fr.tr (Fr.tr (Fr.tr (Fr.tr (Fr.tr (Fr.tr (Fr.put (cq := 13045) (Fr.rf) eh21 kd900 (cd_o (by decide)) (by decide)) F8563 (by decide)) F14521 (by decide)) F14853 (by decide)) F15445 (by decide)) F15550 (by decide)) F15564 (by decide)), (xq15568), (fun _ => by rw [← hgc0]; exact ei_end xq15567), (by simp only [gi_of eq13, gi_of eq15578, gi_of eq15579, gi_of eq4]; omega), (by simp only [gi_of eq15578, gi_of eq4]; omega), (by simp only [gi_of eq15578, gi_of eq15580]; omega), (by simp only [gi_of eq15572, gi_of eq15578, gi_of eq15579, gi_of eq15581]; omega)⟩ (Nat.le_of_ble_eq_true rfl) (Nat.le_of_ble_eq_true rfl) dX12_expression_209
                        · skip
                          subst cn15521
                          obtain ⟨zi15582, eq15583, bd15584⟩ := hc15517 rfl
                          have hx15585 : zi15450 = zi15582 := Value.int.inj (Eq.trans (Eq.symm eq15449) eq15583)
                          subst hx15585
                          have bd15586 : (0 : Int) ≤ zi15450.toInt ∧ zi15450.toInt ≤ 0 := b_meet bd15464 bd15584 (by decide) (by decide)
                          have rh15587 := rh15518 rfl
                          simp only [ge_of eq15471 eq15447 eq15472, toi bc_15] at rh15587
                          have rh15588 := rh15519 rfl
                          simp only [gi_of eq15449] at rh15588
                          refine lv_if_eq (tgt := 185) hx hb dX12_expression_178 (by decide) (fun c => absurd c (d_ne bc_1 bc_0 (by decide))) (fun _ => ?_)
                          refine lv_iconst (v := 1) hx hb dX12_expression_181 (by decide) ?_
                          refine lv_goto (tgt := 186) hx hb dX12_expression_182 (by decide) ?_
                          refine lv_istore_n (lv' := [(2, .int 1), (0, .ref qa900), (1, .int zi8)]) hx hb dX12_expression_186 rfl hl (by decide) rfl (fun ls hl => ?_)
                          refine lv_iload_n hx hb dX12_expression_187 rfl (lv_at hl 0 rfl) ?_
                          refine lv_if_ne (tgt := 210) hx hb dX12_expression_188 (by decide) (fun _ => ?_) (fun c => absurd c (d_ne bc_1 bc_0 (by decide)))
                          refine lv_aload_n hx hb dX12_expression_210 rfl (lv_at hl 1 rfl) ?_
                          refine lv_aload_n hx hb dX12_expression_211 rfl (lv_at hl 1 rfl) ?_
                          refine lv_bipush (v := 10) hx hb dX12_expression_212 (by decide) ?_
                          refine kq_i hw hS hA (va_runV (As := [.int 10]) (rest := [.ref qa900]) ⟨hx, hb, hml, hown, hT⟩ (cX12_is_0 l G cy ev K ln Ls hW _ hp15444 ok15446 qa900 10 kd900) (cwV 1 hT (good_V tb_1623 tb_1620 tb_1622 tb_52 tb_122) rfl rfl rfl (by decide +kernel) ⟨Nat.le_of_ble_eq_true rfl, Nat.le_of_ble_eq_true rfl⟩) (pool_preV (ci := 12) hK hE hS hA hw hW kd900 (by decide) rfl) rfl rfl hl.1 rfl (lv_room (Nat.le_of_ble_eq_true rfl)) dX12_expression_214 ⟨Nat.le_of_ble_eq_true rfl, Nat.le_of_ble_eq_true rfl⟩) (fun zi15593 hp15589 H locs hq15592 hw hS => ?_)
                          obtain ⟨ok15590, F15591, bd15594, hc15595, rh15596, rh15597, rh15598⟩ := hq15592
                          obtain rfl : hp15444 = hp15589 := (Fr.nil F15591).symm
                          have hw : PW G cy K ln Ls A hp15444 H := hw
                          rcases b01 bd15594 with cn15599 | cn15599
                          · skip
                            subst cn15599
                            have rh15600 := rh15598 rfl
                            simp only [ge_of eq15471 eq15447 eq15472, gi_of eq15449, toi bc_10] at rh15600
                            refine lv_if_ne (tgt := 229) hx hb dX12_expression_217 (by decide) (fun c => absurd (d_eq bc_0 bc_0) c) (fun _ => ?_)
                            refine lv_aload_n hx hb dX12_expression_220 rfl (lv_at hl 1 rfl) ?_
                            refine lv_bipush (v := 15) hx hb dX12_expression_221 (by decide) ?_
                            refine kq_i hw hS hA (va_runV (As := [.int 15]) (rest := [.ref qa900]) ⟨hx, hb, hml, hown, hT⟩ (cX12_is_0 l G cy ev K ln Ls hW _ hp15444 ok15446 qa900 15 kd900) (cwV 1 hT (good_V tb_1623 tb_1620 tb_1622 tb_52 tb_122) rfl rfl rfl (by decide +kernel) ⟨Nat.le_of_ble_eq_true rfl, Nat.le_of_ble_eq_true rfl⟩) (pool_preV (ci := 12) hK hE hS hA hw hW kd900 (by decide) rfl) rfl rfl hl.1 rfl (lv_room (Nat.le_of_ble_eq_true rfl)) dX12_expression_223 ⟨Nat.le_of_ble_eq_true rfl, Nat.le_of_ble_eq_true rfl⟩) (fun zi15605 hp15601 H locs hq15604 hw hS => ?_)
                            obtain ⟨ok15602, F15603, bd15606, hc15607, rh15608, rh15609, rh15610⟩ := hq15604
                            obtain rfl : hp15444 = hp15601 := (Fr.nil F15603).symm
                            have hw : PW G cy K ln Ls A hp15444 H := hw
                            rcases b01 bd15606 with cn15611 | cn15611
                            · skip
                              subst cn15611
                              have rh15612 := rh15610 rfl
                              simp only [ge_of eq15471 eq15447 eq15472, gi_of eq15449, toi bc_15] at rh15612
                              refine lv_if_eq (tgt := 233) hx hb dX12_expression_226 (by decide) (fun _ => ?_) (fun c => absurd (d_eq bc_0 bc_0) c)
                              refine lv_iconst (v := 0) hx hb dX12_expression_233 (by decide) ?_
                              refine kq_v hw hS hA (va_runV (As := [.int 0]) (rest := []) ⟨hx, hb, hml, hown, hT⟩ (cX12_comesOut_0 l G cy ev K ln Ls hW _ hp15444 ok15446 qa900 0 gc0 kd900 (b_wid2 bc_0 (by decide) (by decide)) (by simp only [gi_of eq15453, gi_of eq15485, gi_of eq15455]; omega) (by simp only [gi_of eq15455]; omega) jx15461 jx15462) (cwV 1 hT (good_V tb_1715 tb_1712 tb_1714 tb_74 tb_122) rfl rfl rfl (by decide +kernel) ⟨Nat.le_of_ble_eq_true rfl, Nat.le_of_ble_eq_true rfl⟩) (pool_preV (ci := 12) hK hE hS hA hw hW kd900 (by decide) rfl) rfl rfl hl.1 rfl (lv_room (Nat.le_of_ble_eq_true rfl)) dX12_expression_234 ⟨Nat.le_of_ble_eq_true rfl, Nat.le_of_ble_eq_true rfl⟩) (fun hp15613 H locs hq15616 hw hS => ?_)
                              obtain ⟨ok15614, F15615, xq15618, xq15619, xq15620, rh15621, rh15622⟩ := hq15616
                              have hw : PW G cy K ln Ls A hp15613 H := hw
                              obtain ⟨zi15624, eq15623, bd15625⟩ := rd_13038 ok15614 kd900
                              obtain ⟨zi15627, eq15626, bd15628⟩ := rd_13045 ok15614 kd900
                              simp only [gi_of eq15453, gi_of eq15455, gi_of eq15623, gi_of eq15626] at rh15621
                              simp only [gi_of eq15455, gi_of eq15626] at rh15622
                              have el15629 := EI_lin xq15618
                              have eq15630 : hp15613 qa900 12 = .int zi15452 := Eq.trans (Fr.at (cq := 13012) F15615 kd900 (cd_o (by decide)) (by decide)) eq15451
                              rw [gi_of eq15626, gi_of eq15630, gi_of eq15623] at el15629
                              obtain ⟨qa15632, eq15631, kd15633⟩ := rd_13044 ok15614 kd900
                              obtain ⟨qa15635, eq15634, kd15636⟩ := rd_13039 ok15614 kd900
                              obtain ⟨qa15638, eq15637, kd15639⟩ := rd_13040 ok15614 kd900
                              have bd15640 : (0 : Int) ≤ zi15627.toInt ∧ zi15627.toInt ≤ 23 := (by omega)
                              refine lv_aload_n hx hb dX12_expression_237 rfl (lv_at hl 1 rfl) ?_
                              refine p_get (ci := 12) (v := .ref qa15632) (C := RX12) (T := TX12) (N := 69) hx hb hT iw_X12 hown hK hw hW kd900 (by decide) rfl rfl 44 (by decide) eq15631 (hT _ tb_1418) (fun _ h9 => h9) dX12_expression_238 ?_
                              refine lv_aload_n hx hb dX12_expression_241 rfl (lv_at hl 1 rfl) ?_
                              refine p_get (ci := 12) (v := .int zi15627) (C := RX12) (T := TX12) (N := 69) hx hb hT iw_X12 hown hK hw hW kd900 (by decide) rfl rfl 45 (by decide) eq15626 (hT _ tb_1419) (fun _ h9 => h9) dX12_expression_242 ?_
                              refine lv_aload_n hx hb dX12_expression_245 rfl (lv_at hl 1 rfl) ?_
                              have eq15641 : hp15613 qa900 5 = .ref qa14832 := Eq.trans (Fr.at (cq := 13005) F15615 kd900 (cd_o (by decide)) (by decide)) eq15471
                              refine p_get (ci := 12) (v := .ref qa14832) (C := RX12) (T := TX12) (N := 69) hx hb hT iw_X12 hown hK hw hW kd900 (by decide) rfl rfl 5 (by decide) eq15641 (hT _ tb_1379) (fun _ h9 => h9) dX12_expression_246 ?_
                              refine lv_aload_n hx hb dX12_expression_249 rfl (lv_at hl 1 rfl) ?_
                              have eq15642 : hp15613 qa900 11 = .int zi15448 := Eq.trans (Fr.at (cq := 13011) F15615 kd900 (cd_o (by decide)) (by decide)) eq15447
                              refine p_get (ci := 12) (v := .int zi15448) (C := RX12) (T := TX12) (N := 69) hx hb hT iw_X12 hown hK hw hW kd900 (by decide) rfl rfl 11 (by decide) eq15642 (hT _ tb_1385) (fun _ h9 => h9) dX12_expression_250 ?_
                              have eq15643 : hp15613 qa14832 (zi15448 : Int32).toNatClampNeg = .int zi15473 := Eq.trans (Fr.at (cq := 62000) F15615 kd14833 (cd_a (by decide)) (by decide)) eq15472
                              refine p_iald (v := zi15473) hx hb hK hw hW kd14833 (by decide) rfl (hW.len kd14833 (n := 403) rfl (by decide)) (vp_b bd15463 (by decide) (by decide)) eq15643 dX12_expression_253 ?_
                              refine p_iast (x := zi15473) hx hb hK hw hS hW kd15633 (by decide) rfl (hW.len kd15633 (n := 64) rfl (by decide)) (vp_b bd15640 (by decide) (by decide)) dX12_expression_254 (fun hp15644 eh15645 H locs hw hS => ?_)
                              have ok15646 := wr_89000 ok15614 kd15633 eh15645
                              refine lv_aload_n hx hb dX12_expression_255 rfl (lv_at hl 1 rfl) ?_
                              refine lv_dup hx hb dX12_expression_256 rfl ?_
                              have eq15647 : hp15644 qa900 45 = .int zi15627 := Eq.trans (up_at eh15645 (Or.inl (kd_ne kd900 kd15633 (by decide)))) eq15626
                              refine p_get (ci := 12) (v := .int zi15627) (C := RX12) (T := TX12) (N := 69) hx hb hT iw_X12 hown hK hw hW kd900 (by decide) rfl rfl 45 (by decide) eq15647 (hT _ tb_1419) (fun _ h9 => h9) dX12_expression_257 ?_
                              refine lv_iconst (v := 1) hx hb dX12_expression_260 (by decide) ?_
                              refine lv_iadd hx hb dX12_expression_261 (lv_topi (fun zi15648 ea15649 => ?_))
                              have bd15650 : (1 : Int) ≤ zi15648.toInt ∧ zi15648.toInt ≤ 24 := b_iadd ea15649 bd15640 bc_1 (by decide) (by decide) (by decide) (by decide)
                              have qe15651 : zi15648.toInt = (zi15627 : Int32).toInt + (1 : Int32).toInt := e_iadd ea15649 bd15640 bc_1 (by decide) (by decide)
                              have qe15652 : zi15648.toInt = zi15627.toInt + 1 := by have ha : (1 : Int32).toInt = 1 := (by decide); rw [ha] at qe15651; exact qe15651
                              refine p_put (ci := 12) (v := .int zi15648) (ty := .int) (C := RX12) (T := TX12) (N := 69) hx hb hT iw_X12 tyX12 tyX12_ok nmX12 hown hK hw hS hW kd900 (by decide) rfl rfl 45 (by decide) (hT _ tb_1419) (fun _ h9 => h9) rfl (by decide +kernel) rfl rfl dX12_expression_262 (fun hp15653 eh15654 H locs hw hS => ?_)
                              have ok15655 := wr_13045 bd15650 (by decide) (by decide) ok15646 kd900 eh15654
                              refine lv_aload_n hx hb dX12_expression_265 rfl (lv_at hl 1 rfl) ?_
                              have eq15656 : hp15653 qa900 13 = .int zi15450 := Eq.trans (up_at eh15654 (Or.inr (by decide))) (Eq.trans (up_at eh15645 (Or.inl (kd_ne kd900 kd15633 (by decide)))) (Eq.trans (Fr.at (cq := 13013) F15615 kd900 (cd_o (by decide)) (by decide)) eq15449))
                              have eq15657 : hp15653 qa900 11 = .int zi15448 := Eq.trans (up_at eh15654 (Or.inr (by decide))) (Eq.trans (up_at eh15645 (Or.inl (kd_ne kd900 kd15633 (by decide)))) eq15642)
                              refine kq_v hw hS hA (va_runV (As := []) (rest := []) ⟨hx, hb, hml, hown, hT⟩ (cX12_goesOn_0 l G cy ev K ln Ls hW _ hp15653 ok15655 qa900 kd900) (cwV 0 hT (good_V tb_1639 tb_1636 tb_1638 tb_56 tb_122) rfl rfl rfl (by decide +kernel) ⟨Nat.le_of_ble_eq_true rfl, Nat.le_of_ble_eq_true rfl⟩) (pool_preV (ci := 12) hK hE hS hA hw hW kd900 (by decide) rfl) rfl rfl hl.1 rfl (lv_room (Nat.le_of_ble_eq_true rfl)) dX12_expression_266 ⟨Nat.le_of_ble_eq_true rfl, Nat.le_of_ble_eq_true rfl⟩) (fun hp15658 H locs hq15661 hw hS => ?_)
                              obtain ⟨ok15659, F15660, ⟨zi15663, eq15664, bd15665⟩, rh15666, rh15667, rh15668⟩ := hq15661
                              have hw : PW G cy K ln Ls A hp15658 H := hw
                              obtain ⟨zi15670, eq15669, bd15671⟩ := rd_13013 ok15659 kd900
                              simp only [gi_of eq15656, gi_of eq15657, gi_of eq15664, gi_of eq15669] at rh15666
                              simp only [gi_of eq15656, gi_of eq15669] at rh15667
                              simp only [gi_of eq15657, gi_of eq15664, gi_of eq15669] at rh15668
                              have eq15672 : hp15658 qa900 44 = .ref qa15632 := Eq.trans (Fr.at (cq := 13044) F15660 kd900 (cd_o (by decide)) (by decide)) (Eq.trans (up_at eh15654 (Or.inr (by decide))) (Eq.trans (up_at eh15645 (Or.inl (kd_ne kd900 kd15633 (by decide)))) eq15631))
                              have eq15674 : hp15658 qa900 45 = .int zi15648 := Eq.trans (Fr.at (cq := 13045) F15660 kd900 (cd_o (by decide)) (by decide)) (hp_self eh15654)
                              have eq15675 : hp15658 qa900 12 = .int zi15452 := Eq.trans (Fr.at (cq := 13012) F15660 kd900 (cd_o (by decide)) (by decide)) (Eq.trans (up_at eh15654 (Or.inr (by decide))) (Eq.trans (up_at eh15645 (Or.inl (kd_ne kd900 kd15633 (by decide)))) eq15630))
                              have eq15676 : hp15658 qa900 39 = .ref qa15635 := Eq.trans (Fr.at (cq := 13039) F15660 kd900 (cd_o (by decide)) (by decide)) (Eq.trans (up_at eh15654 (Or.inr (by decide))) (Eq.trans (up_at eh15645 (Or.inl (kd_ne kd900 kd15633 (by decide)))) eq15634))
                              have eq15677 : hp15658 qa900 40 = .ref qa15638 := Eq.trans (Fr.at (cq := 13040) F15660 kd900 (cd_o (by decide)) (by decide)) (Eq.trans (up_at eh15654 (Or.inr (by decide))) (Eq.trans (up_at eh15645 (Or.inl (kd_ne kd900 kd15633 (by decide)))) eq15637))
                              have eq15678 : hp15658 qa900 38 = .int zi15624 := Eq.trans (Fr.at (cq := 13038) F15660 kd900 (cd_o (by decide)) (by decide)) (Eq.trans (up_at eh15654 (Or.inr (by decide))) (Eq.trans (up_at eh15645 (Or.inl (kd_ne kd900 kd15633 (by decide)))) eq15623))
                              have ei15673 : EIx hp15658 qa900 gc0 0 := EI_opr (i := (zi15627 : Int32).toNatClampNeg) (k := zi15473.toInt) xq15618 (CO_opr xq15620 (by have := toi bc_0; omega)) (mA_up eq15631 eq15672 rfl eh15645 (Eq.trans (show hp15658 qa15632 = hp15653 qa15632 from (funext fun i => Fr.at (cq := 89000) F15660 kd15633 (cd_a (by decide)) (by decide))) (show hp15653 qa15632 = hp15644 qa15632 from (by rw [eh15654]; exact up2_row (kd_ne kd15633 kd900 (by decide)))))) (by rw [gi_of eq15626]; have := clampN (x := zi15627) (by omega); omega) (by rw [gi_of eq15674, gi_of eq15626] <;> (omega)) (by rw [gi_of eq15675, gi_of eq15630] <;> (omega)) (mA_eq eq15634 eq15676 (Eq.trans (show hp15658 qa15635 = hp15653 qa15635 from (funext fun i => Fr.at (cq := 84000) F15660 kd15636 (cd_a (by decide)) (by decide))) (Eq.trans (show hp15653 qa15635 = hp15644 qa15635 from (by rw [eh15654]; exact up2_row (kd_ne kd15636 kd900 (by decide)))) (show hp15644 qa15635 = hp15613 qa15635 from (by rw [eh15645]; exact up2_row (kd_ne kd15636 kd15633 (by decide))))))) (mA_eq eq15637 eq15677 (Eq.trans (show hp15658 qa15638 = hp15653 qa15638 from (funext fun i => Fr.at (cq := 85000) F15660 kd15639 (cd_a (by decide)) (by decide))) (Eq.trans (show hp15653 qa15638 = hp15644 qa15638 from (by rw [eh15654]; exact up2_row (kd_ne kd15639 kd900 (by decide)))) (show hp15644 qa15638 = hp15613 qa15638 from (by rw [eh15645]; exact up2_row (kd_ne kd15639 kd15633 (by decide))))))) (by rw [gi_of eq15678, gi_of eq15623] <;> (omega))
                              refine lv_goto (tgt := 12) hx hb dX12_expression_269 (by decide) ?_
                              have eq15679 : hp15658 qa900 19 = .int zi11 := Eq.trans (Fr.at (cq := 13019) F15660 kd900 (cd_o (by decide)) (by decide)) (Eq.trans (up_at eh15654 (Or.inr (by decide))) (Eq.trans (up_at eh15645 (Or.inl (kd_ne kd900 kd15633 (by decide)))) (Eq.trans (Fr.at (cq := 13019) F15615 kd900 (cd_o (by decide)) (by decide)) eq15485)))
                              have pd15680 : LPx hp15658 qa900 := LP_fr ok15614 kd900 (show Fr [13011, 13013, 13014, 13045, 89000] K hp15613 hp15658 from (Fr.tr (Fr.put (cq := 13045) (Fr.put (cq := 89000) (Fr.rf) eh15645 kd15633 (cd_a (by decide)) (by decide)) eh15654 kd900 (cd_o (by decide)) (by decide)) F15660 (by decide))) (by decide) xq15619
                              exact ih14041 hp15658 zi15663 zi15670 zi15452 zi15624 zi15648 _ _ ls (by have := toi bc_1; have := hm14043; omega) ok15659 (Fr.tr (Fr.put (cq := 13045) (Fr.put (cq := 89000) (Fr.tr (Fr.tr (Fr.tr (Fr.tr (Fr.tr (Fr.rf) F8563 (by decide)) F14521 (by decide)) F14853 (by decide)) F15445 (by decide)) F15615 (by decide)) eh15645 kd15633 (cd_a (by decide)) (by decide)) eh15654 kd900 (cd_o (by decide)) (by decide)) F15660 (by decide)) (b_wid2 bd15665 (by decide) (by decide)) eq15664 (b_wid2 bd15671 (by decide) (by decide)) eq15669 (b_wid2 bd15465 (by decide) (by decide)) eq15675 (b_wid2 bd15625 (by decide) (by decide)) eq15678 (b_wid2 bd15650 (by decide) (by decide)) eq15674 (by have := toi bc_1; omega) (by have := toi bc_1; omega) (by have := toi bc_1; omega) (by have := toi bc_1; omega) ei15673 pd15680 (lv_sub hl [1, 2, 0] rfl) hw hS
                            · skip
                              subst cn15611
                              obtain ⟨zi15681, eq15682, bd15683⟩ := hc15607 rfl
                              have hx15684 : zi15450 = zi15681 := Value.int.inj (Eq.trans (Eq.symm eq15449) eq15682)
                              subst hx15684
                              have bd15685 : (0 : Int) ≤ zi15450.toInt ∧ zi15450.toInt ≤ 0 := b_meet bd15586 bd15683 (by decide) (by decide)
                              have rh15686 := rh15608 rfl
                              simp only [ge_of eq15471 eq15447 eq15472, toi bc_15] at rh15686
                              have rh15687 := rh15609 rfl
                              simp only [gi_of eq15449] at rh15687
                              refine lv_if_eq (tgt := 233) hx hb dX12_expression_226 (by decide) (fun c => absurd c (d_ne bc_1 bc_0 (by decide))) (fun _ => ?_)
                              refine lv_iconst (v := 1) hx hb dX12_expression_229 (by decide) ?_
                              refine lv_goto (tgt := 234) hx hb dX12_expression_230 (by decide) ?_
                              refine kq_v hw hS hA (va_runV (As := [.int 1]) (rest := []) ⟨hx, hb, hml, hown, hT⟩ (cX12_comesOut_0 l G cy ev K ln Ls hW _ hp15444 ok15446 qa900 1 gc0 kd900 (b_wid2 bc_1 (by decide) (by decide)) (by simp only [gi_of eq15453, gi_of eq15485, gi_of eq15455]; omega) (by simp only [gi_of eq15455]; omega) jx15461 jx15462) (cwV 1 hT (good_V tb_1715 tb_1712 tb_1714 tb_74 tb_122) rfl rfl rfl (by decide +kernel) ⟨Nat.le_of_ble_eq_true rfl, Nat.le_of_ble_eq_true rfl⟩) (pool_preV (ci := 12) hK hE hS hA hw hW kd900 (by decide) rfl) rfl rfl hl.1 rfl (lv_room (Nat.le_of_ble_eq_true rfl)) dX12_expression_234 ⟨Nat.le_of_ble_eq_true rfl, Nat.le_of_ble_eq_true rfl⟩) (fun hp15688 H locs hq15691 hw hS => ?_)
                              obtain ⟨ok15689, F15690, xq15693, xq15694, xq15695, rh15696, rh15697⟩ := hq15691
                              have hw : PW G cy K ln Ls A hp15688 H := hw
                              obtain ⟨zi15699, eq15698, bd15700⟩ := rd_13038 ok15689 kd900
                              obtain ⟨zi15702, eq15701, bd15703⟩ := rd_13045 ok15689 kd900
                              simp only [gi_of eq15453, gi_of eq15455, gi_of eq15698, gi_of eq15701] at rh15696
                              simp only [gi_of eq15455, gi_of eq15701] at rh15697
                              have el15704 := EI_lin xq15693
                              have eq15705 : hp15688 qa900 12 = .int zi15452 := Eq.trans (Fr.at (cq := 13012) F15690 kd900 (cd_o (by decide)) (by decide)) eq15451
                              rw [gi_of eq15701, gi_of eq15705, gi_of eq15698] at el15704
                              obtain ⟨qa15707, eq15706, kd15708⟩ := rd_13044 ok15689 kd900
                              obtain ⟨qa15710, eq15709, kd15711⟩ := rd_13039 ok15689 kd900
                              obtain ⟨qa15713, eq15712, kd15714⟩ := rd_13040 ok15689 kd900
                              have bd15715 : (0 : Int) ≤ zi15702.toInt ∧ zi15702.toInt ≤ 23 := (by omega)
                              refine lv_aload_n hx hb dX12_expression_237 rfl (lv_at hl 1 rfl) ?_
                              refine p_get (ci := 12) (v := .ref qa15707) (C := RX12) (T := TX12) (N := 69) hx hb hT iw_X12 hown hK hw hW kd900 (by decide) rfl rfl 44 (by decide) eq15706 (hT _ tb_1418) (fun _ h9 => h9) dX12_expression_238 ?_
                              refine lv_aload_n hx hb dX12_expression_241 rfl (lv_at hl 1 rfl) ?_
                              refine p_get (ci := 12) (v := .int zi15702) (C := RX12) (T := TX12) (N := 69) hx hb hT iw_X12 hown hK hw hW kd900 (by decide) rfl rfl 45 (by decide) eq15701 (hT _ tb_1419) (fun _ h9 => h9) dX12_expression_242 ?_
                              refine lv_aload_n hx hb dX12_expression_245 rfl (lv_at hl 1 rfl) ?_
                              have eq15716 : hp15688 qa900 5 = .ref qa14832 := Eq.trans (Fr.at (cq := 13005) F15690 kd900 (cd_o (by decide)) (by decide)) eq15471
                              refine p_get (ci := 12) (v := .ref qa14832) (C := RX12) (T := TX12) (N := 69) hx hb hT iw_X12 hown hK hw hW kd900 (by decide) rfl rfl 5 (by decide) eq15716 (hT _ tb_1379) (fun _ h9 => h9) dX12_expression_246 ?_
                              refine lv_aload_n hx hb dX12_expression_249 rfl (lv_at hl 1 rfl) ?_
                              have eq15717 : hp15688 qa900 11 = .int zi15448 := Eq.trans (Fr.at (cq := 13011) F15690 kd900 (cd_o (by decide)) (by decide)) eq15447
                              refine p_get (ci := 12) (v := .int zi15448) (C := RX12) (T := TX12) (N := 69) hx hb hT iw_X12 hown hK hw hW kd900 (by decide) rfl rfl 11 (by decide) eq15717 (hT _ tb_1385) (fun _ h9 => h9) dX12_expression_250 ?_
                              have eq15718 : hp15688 qa14832 (zi15448 : Int32).toNatClampNeg = .int zi15473 := Eq.trans (Fr.at (cq := 62000) F15690 kd14833 (cd_a (by decide)) (by decide)) eq15472
                              refine p_iald (v := zi15473) hx hb hK hw hW kd14833 (by decide) rfl (hW.len kd14833 (n := 403) rfl (by decide)) (vp_b bd15463 (by decide) (by decide)) eq15718 dX12_expression_253 ?_
                              refine p_iast (x := zi15473) hx hb hK hw hS hW kd15708 (by decide) rfl (hW.len kd15708 (n := 64) rfl (by decide)) (vp_b bd15715 (by decide) (by decide)) dX12_expression_254 (fun hp15719 eh15720 H locs hw hS => ?_)
                              have ok15721 := wr_89000 ok15689 kd15708 eh15720
                              refine lv_aload_n hx hb dX12_expression_255 rfl (lv_at hl 1 rfl) ?_
                              refine lv_dup hx hb dX12_expression_256 rfl ?_
                              have eq15722 : hp15719 qa900 45 = .int zi15702 := Eq.trans (up_at eh15720 (Or.inl (kd_ne kd900 kd15708 (by decide)))) eq15701
                              refine p_get (ci := 12) (v := .int zi15702) (C := RX12) (T := TX12) (N := 69) hx hb hT iw_X12 hown hK hw hW kd900 (by decide) rfl rfl 45 (by decide) eq15722 (hT _ tb_1419) (fun _ h9 => h9) dX12_expression_257 ?_
                              refine lv_iconst (v := 1) hx hb dX12_expression_260 (by decide) ?_
                              refine lv_iadd hx hb dX12_expression_261 (lv_topi (fun zi15723 ea15724 => ?_))
                              have bd15725 : (1 : Int) ≤ zi15723.toInt ∧ zi15723.toInt ≤ 24 := b_iadd ea15724 bd15715 bc_1 (by decide) (by decide) (by decide) (by decide)
                              have qe15726 : zi15723.toInt = (zi15702 : Int32).toInt + (1 : Int32).toInt := e_iadd ea15724 bd15715 bc_1 (by decide) (by decide)
                              have qe15727 : zi15723.toInt = zi15702.toInt + 1 := by have ha : (1 : Int32).toInt = 1 := (by decide); rw [ha] at qe15726; exact qe15726
                              refine p_put (ci := 12) (v := .int zi15723) (ty := .int) (C := RX12) (T := TX12) (N := 69) hx hb hT iw_X12 tyX12 tyX12_ok nmX12 hown hK hw hS hW kd900 (by decide) rfl rfl 45 (by decide) (hT _ tb_1419) (fun _ h9 => h9) rfl (by decide +kernel) rfl rfl dX12_expression_262 (fun hp15728 eh15729 H locs hw hS => ?_)
                              have ok15730 := wr_13045 bd15725 (by decide) (by decide) ok15721 kd900 eh15729
                              refine lv_aload_n hx hb dX12_expression_265 rfl (lv_at hl 1 rfl) ?_
                              have eq15731 : hp15728 qa900 13 = .int zi15450 := Eq.trans (up_at eh15729 (Or.inr (by decide))) (Eq.trans (up_at eh15720 (Or.inl (kd_ne kd900 kd15708 (by decide)))) (Eq.trans (Fr.at (cq := 13013) F15690 kd900 (cd_o (by decide)) (by decide)) eq15449))
                              have eq15732 : hp15728 qa900 11 = .int zi15448 := Eq.trans (up_at eh15729 (Or.inr (by decide))) (Eq.trans (up_at eh15720 (Or.inl (kd_ne kd900 kd15708 (by decide)))) eq15717)
                              refine kq_v hw hS hA (va_runV (As := []) (rest := []) ⟨hx, hb, hml, hown, hT⟩ (cX12_goesOn_0 l G cy ev K ln Ls hW _ hp15728 ok15730 qa900 kd900) (cwV 0 hT (good_V tb_1639 tb_1636 tb_1638 tb_56 tb_122) rfl rfl rfl (by decide +kernel) ⟨Nat.le_of_ble_eq_true rfl, Nat.le_of_ble_eq_true rfl⟩) (pool_preV (ci := 12) hK hE hS hA hw hW kd900 (by decide) rfl) rfl rfl hl.1 rfl (lv_room (Nat.le_of_ble_eq_true rfl)) dX12_expression_266 ⟨Nat.le_of_ble_eq_true rfl, Nat.le_of_ble_eq_true rfl⟩) (fun hp15733 H locs hq15736 hw hS => ?_)
                              obtain ⟨ok15734, F15735, ⟨zi15738, eq15739, bd15740⟩, rh15741, rh15742, rh15743⟩ := hq15736
                              have hw : PW G cy K ln Ls A hp15733 H := hw
                              obtain ⟨zi15745, eq15744, bd15746⟩ := rd_13013 ok15734 kd900
                              simp only [gi_of eq15731, gi_of eq15732, gi_of eq15739, gi_of eq15744] at rh15741
                              simp only [gi_of eq15731, gi_of eq15744] at rh15742
                              simp only [gi_of eq15732, gi_of eq15739, gi_of eq15744] at rh15743
                              have eq15747 : hp15733 qa900 44 = .ref qa15707 := Eq.trans (Fr.at (cq := 13044) F15735 kd900 (cd_o (by decide)) (by decide)) (Eq.trans (up_at eh15729 (Or.inr (by decide))) (Eq.trans (up_at eh15720 (Or.inl (kd_ne kd900 kd15708 (by decide)))) eq15706))
                              have eq15749 : hp15733 qa900 45 = .int zi15723 := Eq.trans (Fr.at (cq := 13045) F15735 kd900 (cd_o (by decide)) (by decide)) (hp_self eh15729)
                              have eq15750 : hp15733 qa900 12 = .int zi15452 := Eq.trans (Fr.at (cq := 13012) F15735 kd900 (cd_o (by decide)) (by decide)) (Eq.trans (up_at eh15729 (Or.inr (by decide))) (Eq.trans (up_at eh15720 (Or.inl (kd_ne kd900 kd15708 (by decide)))) eq15705))
                              have eq15751 : hp15733 qa900 39 = .ref qa15710 := Eq.trans (Fr.at (cq := 13039) F15735 kd900 (cd_o (by decide)) (by decide)) (Eq.trans (up_at eh15729 (Or.inr (by decide))) (Eq.trans (up_at eh15720 (Or.inl (kd_ne kd900 kd15708 (by decide)))) eq15709))
                              have eq15752 : hp15733 qa900 40 = .ref qa15713 := Eq.trans (Fr.at (cq := 13040) F15735 kd900 (cd_o (by decide)) (by decide)) (Eq.trans (up_at eh15729 (Or.inr (by decide))) (Eq.trans (up_at eh15720 (Or.inl (kd_ne kd900 kd15708 (by decide)))) eq15712))
                              have eq15753 : hp15733 qa900 38 = .int zi15699 := Eq.trans (Fr.at (cq := 13038) F15735 kd900 (cd_o (by decide)) (by decide)) (Eq.trans (up_at eh15729 (Or.inr (by decide))) (Eq.trans (up_at eh15720 (Or.inl (kd_ne kd900 kd15708 (by decide)))) eq15698))
                              have ei15748 : EIx hp15733 qa900 gc0 0 := EI_opr (i := (zi15702 : Int32).toNatClampNeg) (k := zi15473.toInt) xq15693 (CO_opr xq15695 (by have := toi bc_1; omega)) (mA_up eq15706 eq15747 rfl eh15720 (Eq.trans (show hp15733 qa15707 = hp15728 qa15707 from (funext fun i => Fr.at (cq := 89000) F15735 kd15708 (cd_a (by decide)) (by decide))) (show hp15728 qa15707 = hp15719 qa15707 from (by rw [eh15729]; exact up2_row (kd_ne kd15708 kd900 (by decide)))))) (by rw [gi_of eq15701]; have := clampN (x := zi15702) (by omega); omega) (by rw [gi_of eq15749, gi_of eq15701] <;> (omega)) (by rw [gi_of eq15750, gi_of eq15705] <;> (omega)) (mA_eq eq15709 eq15751 (Eq.trans (show hp15733 qa15710 = hp15728 qa15710 from (funext fun i => Fr.at (cq := 84000) F15735 kd15711 (cd_a (by decide)) (by decide))) (Eq.trans (show hp15728 qa15710 = hp15719 qa15710 from (by rw [eh15729]; exact up2_row (kd_ne kd15711 kd900 (by decide)))) (show hp15719 qa15710 = hp15688 qa15710 from (by rw [eh15720]; exact up2_row (kd_ne kd15711 kd15708 (by decide))))))) (mA_eq eq15712 eq15752 (Eq.trans (show hp15733 qa15713 = hp15728 qa15713 from (funext fun i => Fr.at (cq := 85000) F15735 kd15714 (cd_a (by decide)) (by decide))) (Eq.trans (show hp15728 qa15713 = hp15719 qa15713 from (by rw [eh15729]; exact up2_row (kd_ne kd15714 kd900 (by decide)))) (show hp15719 qa15713 = hp15688 qa15713 from (by rw [eh15720]; exact up2_row (kd_ne kd15714 kd15708 (by decide))))))) (by rw [gi_of eq15753, gi_of eq15698] <;> (omega))
                              refine lv_goto (tgt := 12) hx hb dX12_expression_269 (by decide) ?_
                              have eq15754 : hp15733 qa900 19 = .int zi11 := Eq.trans (Fr.at (cq := 13019) F15735 kd900 (cd_o (by decide)) (by decide)) (Eq.trans (up_at eh15729 (Or.inr (by decide))) (Eq.trans (up_at eh15720 (Or.inl (kd_ne kd900 kd15708 (by decide)))) (Eq.trans (Fr.at (cq := 13019) F15690 kd900 (cd_o (by decide)) (by decide)) eq15485)))
                              have pd15755 : LPx hp15733 qa900 := LP_fr ok15689 kd900 (show Fr [13011, 13013, 13014, 13045, 89000] K hp15688 hp15733 from (Fr.tr (Fr.put (cq := 13045) (Fr.put (cq := 89000) (Fr.rf) eh15720 kd15708 (cd_a (by decide)) (by decide)) eh15729 kd900 (cd_o (by decide)) (by decide)) F15735 (by decide))) (by decide) xq15694
                              exact ih14041 hp15733 zi15738 zi15745 zi15452 zi15699 zi15723 _ _ ls (by have := toi bc_1; have := hm14043; omega) ok15734 (Fr.tr (Fr.put (cq := 13045) (Fr.put (cq := 89000) (Fr.tr (Fr.tr (Fr.tr (Fr.tr (Fr.tr (Fr.rf) F8563 (by decide)) F14521 (by decide)) F14853 (by decide)) F15445 (by decide)) F15690 (by decide)) eh15720 kd15708 (cd_a (by decide)) (by decide)) eh15729 kd900 (cd_o (by decide)) (by decide)) F15735 (by decide)) (b_wid2 bd15740 (by decide) (by decide)) eq15739 (b_wid2 bd15746 (by decide) (by decide)) eq15744 (b_wid2 bd15465 (by decide) (by decide)) eq15750 (b_wid2 bd15700 (by decide) (by decide)) eq15753 (b_wid2 bd15725 (by decide) (by decide)) eq15749 (by have := toi bc_1; omega) (by have := toi bc_1; omega) (by have := toi bc_1; omega) (by have := toi bc_1; omega) ei15748 pd15755 (lv_sub hl [1, 2, 0] rfl) hw hS
                          · skip
                            subst cn15599
                            obtain ⟨zi15756, eq15757, bd15758⟩ := hc15595 rfl
                            have hx15759 : zi15450 = zi15756 := Value.int.inj (Eq.trans (Eq.symm eq15449) eq15757)
                            subst hx15759
                            have bd15760 : (0 : Int) ≤ zi15450.toInt ∧ zi15450.toInt ≤ 0 := b_meet bd15586 bd15758 (by decide) (by decide)
                            have rh15761 := rh15596 rfl
                            simp only [ge_of eq15471 eq15447 eq15472, toi bc_10] at rh15761
                            have rh15762 := rh15597 rfl
                            simp only [gi_of eq15449] at rh15762
                            refine lv_if_ne (tgt := 229) hx hb dX12_expression_217 (by decide) (fun _ => ?_) (fun c => absurd c (d_ne bc_1 bc_0 (by decide)))
                            refine lv_iconst (v := 1) hx hb dX12_expression_229 (by decide) ?_
                            refine lv_goto (tgt := 234) hx hb dX12_expression_230 (by decide) ?_
                            refine kq_v hw hS hA (va_runV (As := [.int 1]) (rest := []) ⟨hx, hb, hml, hown, hT⟩ (cX12_comesOut_0 l G cy ev K ln Ls hW _ hp15444 ok15446 qa900 1 gc0 kd900 (b_wid2 bc_1 (by decide) (by decide)) (by simp only [gi_of eq15453, gi_of eq15485, gi_of eq15455]; omega) (by simp only [gi_of eq15455]; omega) jx15461 jx15462) (cwV 1 hT (good_V tb_1715 tb_1712 tb_1714 tb_74 tb_122) rfl rfl rfl (by decide +kernel) ⟨Nat.le_of_ble_eq_true rfl, Nat.le_of_ble_eq_true rfl⟩) (pool_preV (ci := 12) hK hE hS hA hw hW kd900 (by decide) rfl) rfl rfl hl.1 rfl (lv_room (Nat.le_of_ble_eq_true rfl)) dX12_expression_234 ⟨Nat.le_of_ble_eq_true rfl, Nat.le_of_ble_eq_true rfl⟩) (fun hp15763 H locs hq15766 hw hS => ?_)
                            obtain ⟨ok15764, F15765, xq15768, xq15769, xq15770, rh15771, rh15772⟩ := hq15766
                            have hw : PW G cy K ln Ls A hp15763 H := hw
                            obtain ⟨zi15774, eq15773, bd15775⟩ := rd_13038 ok15764 kd900
                            obtain ⟨zi15777, eq15776, bd15778⟩ := rd_13045 ok15764 kd900
                            simp only [gi_of eq15453, gi_of eq15455, gi_of eq15773, gi_of eq15776] at rh15771
                            simp only [gi_of eq15455, gi_of eq15776] at rh15772
                            have el15779 := EI_lin xq15768
                            have eq15780 : hp15763 qa900 12 = .int zi15452 := Eq.trans (Fr.at (cq := 13012) F15765 kd900 (cd_o (by decide)) (by decide)) eq15451
                            rw [gi_of eq15776, gi_of eq15780, gi_of eq15773] at el15779
                            obtain ⟨qa15782, eq15781, kd15783⟩ := rd_13044 ok15764 kd900
                            obtain ⟨qa15785, eq15784, kd15786⟩ := rd_13039 ok15764 kd900
                            obtain ⟨qa15788, eq15787, kd15789⟩ := rd_13040 ok15764 kd900
                            have bd15790 : (0 : Int) ≤ zi15777.toInt ∧ zi15777.toInt ≤ 23 := (by omega)
                            refine lv_aload_n hx hb dX12_expression_237 rfl (lv_at hl 1 rfl) ?_
                            refine p_get (ci := 12) (v := .ref qa15782) (C := RX12) (T := TX12) (N := 69) hx hb hT iw_X12 hown hK hw hW kd900 (by decide) rfl rfl 44 (by decide) eq15781 (hT _ tb_1418) (fun _ h9 => h9) dX12_expression_238 ?_
                            refine lv_aload_n hx hb dX12_expression_241 rfl (lv_at hl 1 rfl) ?_
                            refine p_get (ci := 12) (v := .int zi15777) (C := RX12) (T := TX12) (N := 69) hx hb hT iw_X12 hown hK hw hW kd900 (by decide) rfl rfl 45 (by decide) eq15776 (hT _ tb_1419) (fun _ h9 => h9) dX12_expression_242 ?_
                            refine lv_aload_n hx hb dX12_expression_245 rfl (lv_at hl 1 rfl) ?_
                            have eq15791 : hp15763 qa900 5 = .ref qa14832 := Eq.trans (Fr.at (cq := 13005) F15765 kd900 (cd_o (by decide)) (by decide)) eq15471
                            refine p_get (ci := 12) (v := .ref qa14832) (C := RX12) (T := TX12) (N := 69) hx hb hT iw_X12 hown hK hw hW kd900 (by decide) rfl rfl 5 (by decide) eq15791 (hT _ tb_1379) (fun _ h9 => h9) dX12_expression_246 ?_
                            refine lv_aload_n hx hb dX12_expression_249 rfl (lv_at hl 1 rfl) ?_
                            have eq15792 : hp15763 qa900 11 = .int zi15448 := Eq.trans (Fr.at (cq := 13011) F15765 kd900 (cd_o (by decide)) (by decide)) eq15447
                            refine p_get (ci := 12) (v := .int zi15448) (C := RX12) (T := TX12) (N := 69) hx hb hT iw_X12 hown hK hw hW kd900 (by decide) rfl rfl 11 (by decide) eq15792 (hT _ tb_1385) (fun _ h9 => h9) dX12_expression_250 ?_
                            have eq15793 : hp15763 qa14832 (zi15448 : Int32).toNatClampNeg = .int zi15473 := Eq.trans (Fr.at (cq := 62000) F15765 kd14833 (cd_a (by decide)) (by decide)) eq15472
                            refine p_iald (v := zi15473) hx hb hK hw hW kd14833 (by decide) rfl (hW.len kd14833 (n := 403) rfl (by decide)) (vp_b bd15463 (by decide) (by decide)) eq15793 dX12_expression_253 ?_
                            refine p_iast (x := zi15473) hx hb hK hw hS hW kd15783 (by decide) rfl (hW.len kd15783 (n := 64) rfl (by decide)) (vp_b bd15790 (by decide) (by decide)) dX12_expression_254 (fun hp15794 eh15795 H locs hw hS => ?_)
                            have ok15796 := wr_89000 ok15764 kd15783 eh15795
                            refine lv_aload_n hx hb dX12_expression_255 rfl (lv_at hl 1 rfl) ?_
                            refine lv_dup hx hb dX12_expression_256 rfl ?_
                            have eq15797 : hp15794 qa900 45 = .int zi15777 := Eq.trans (up_at eh15795 (Or.inl (kd_ne kd900 kd15783 (by decide)))) eq15776
                            refine p_get (ci := 12) (v := .int zi15777) (C := RX12) (T := TX12) (N := 69) hx hb hT iw_X12 hown hK hw hW kd900 (by decide) rfl rfl 45 (by decide) eq15797 (hT _ tb_1419) (fun _ h9 => h9) dX12_expression_257 ?_
                            refine lv_iconst (v := 1) hx hb dX12_expression_260 (by decide) ?_
                            refine lv_iadd hx hb dX12_expression_261 (lv_topi (fun zi15798 ea15799 => ?_))
                            have bd15800 : (1 : Int) ≤ zi15798.toInt ∧ zi15798.toInt ≤ 24 := b_iadd ea15799 bd15790 bc_1 (by decide) (by decide) (by decide) (by decide)
                            have qe15801 : zi15798.toInt = (zi15777 : Int32).toInt + (1 : Int32).toInt := e_iadd ea15799 bd15790 bc_1 (by decide) (by decide)
                            have qe15802 : zi15798.toInt = zi15777.toInt + 1 := by have ha : (1 : Int32).toInt = 1 := (by decide); rw [ha] at qe15801; exact qe15801
                            refine p_put (ci := 12) (v := .int zi15798) (ty := .int) (C := RX12) (T := TX12) (N := 69) hx hb hT iw_X12 tyX12 tyX12_ok nmX12 hown hK hw hS hW kd900 (by decide) rfl rfl 45 (by decide) (hT _ tb_1419) (fun _ h9 => h9) rfl (by decide +kernel) rfl rfl dX12_expression_262 (fun hp15803 eh15804 H locs hw hS => ?_)
                            have ok15805 := wr_13045 bd15800 (by decide) (by decide) ok15796 kd900 eh15804
                            refine lv_aload_n hx hb dX12_expression_265 rfl (lv_at hl 1 rfl) ?_
                            have eq15806 : hp15803 qa900 13 = .int zi15450 := Eq.trans (up_at eh15804 (Or.inr (by decide))) (Eq.trans (up_at eh15795 (Or.inl (kd_ne kd900 kd15783 (by decide)))) (Eq.trans (Fr.at (cq := 13013) F15765 kd900 (cd_o (by decide)) (by decide)) eq15449))
                            have eq15807 : hp15803 qa900 11 = .int zi15448 := Eq.trans (up_at eh15804 (Or.inr (by decide))) (Eq.trans (up_at eh15795 (Or.inl (kd_ne kd900 kd15783 (by decide)))) eq15792)
                            refine kq_v hw hS hA (va_runV (As := []) (rest := []) ⟨hx, hb, hml, hown, hT⟩ (cX12_goesOn_0 l G cy ev K ln Ls hW _ hp15803 ok15805 qa900 kd900) (cwV 0 hT (good_V tb_1639 tb_1636 tb_1638 tb_56 tb_122) rfl rfl rfl (by decide +kernel) ⟨Nat.le_of_ble_eq_true rfl, Nat.le_of_ble_eq_true rfl⟩) (pool_preV (ci := 12) hK hE hS hA hw hW kd900 (by decide) rfl) rfl rfl hl.1 rfl (lv_room (Nat.le_of_ble_eq_true rfl)) dX12_expression_266 ⟨Nat.le_of_ble_eq_true rfl, Nat.le_of_ble_eq_true rfl⟩) (fun hp15808 H locs hq15811 hw hS => ?_)
                            obtain ⟨ok15809, F15810, ⟨zi15813, eq15814, bd15815⟩, rh15816, rh15817, rh15818⟩ := hq15811
                            have hw : PW G cy K ln Ls A hp15808 H := hw
                            obtain ⟨zi15820, eq15819, bd15821⟩ := rd_13013 ok15809 kd900
                            simp only [gi_of eq15806, gi_of eq15807, gi_of eq15814, gi_of eq15819] at rh15816
                            simp only [gi_of eq15806, gi_of eq15819] at rh15817
                            simp only [gi_of eq15807, gi_of eq15814, gi_of eq15819] at rh15818
                            have eq15822 : hp15808 qa900 44 = .ref qa15782 := Eq.trans (Fr.at (cq := 13044) F15810 kd900 (cd_o (by decide)) (by decide)) (Eq.trans (up_at eh15804 (Or.inr (by decide))) (Eq.trans (up_at eh15795 (Or.inl (kd_ne kd900 kd15783 (by decide)))) eq15781))
                            have eq15824 : hp15808 qa900 45 = .int zi15798 := Eq.trans (Fr.at (cq := 13045) F15810 kd900 (cd_o (by decide)) (by decide)) (hp_self eh15804)
                            have eq15825 : hp15808 qa900 12 = .int zi15452 := Eq.trans (Fr.at (cq := 13012) F15810 kd900 (cd_o (by decide)) (by decide)) (Eq.trans (up_at eh15804 (Or.inr (by decide))) (Eq.trans (up_at eh15795 (Or.inl (kd_ne kd900 kd15783 (by decide)))) eq15780))
                            have eq15826 : hp15808 qa900 39 = .ref qa15785 := Eq.trans (Fr.at (cq := 13039) F15810 kd900 (cd_o (by decide)) (by decide)) (Eq.trans (up_at eh15804 (Or.inr (by decide))) (Eq.trans (up_at eh15795 (Or.inl (kd_ne kd900 kd15783 (by decide)))) eq15784))
                            have eq15827 : hp15808 qa900 40 = .ref qa15788 := Eq.trans (Fr.at (cq := 13040) F15810 kd900 (cd_o (by decide)) (by decide)) (Eq.trans (up_at eh15804 (Or.inr (by decide))) (Eq.trans (up_at eh15795 (Or.inl (kd_ne kd900 kd15783 (by decide)))) eq15787))
                            have eq15828 : hp15808 qa900 38 = .int zi15774 := Eq.trans (Fr.at (cq := 13038) F15810 kd900 (cd_o (by decide)) (by decide)) (Eq.trans (up_at eh15804 (Or.inr (by decide))) (Eq.trans (up_at eh15795 (Or.inl (kd_ne kd900 kd15783 (by decide)))) eq15773))
                            have ei15823 : EIx hp15808 qa900 gc0 0 := EI_opr (i := (zi15777 : Int32).toNatClampNeg) (k := zi15473.toInt) xq15768 (CO_opr xq15770 (by have := toi bc_1; omega)) (mA_up eq15781 eq15822 rfl eh15795 (Eq.trans (show hp15808 qa15782 = hp15803 qa15782 from (funext fun i => Fr.at (cq := 89000) F15810 kd15783 (cd_a (by decide)) (by decide))) (show hp15803 qa15782 = hp15794 qa15782 from (by rw [eh15804]; exact up2_row (kd_ne kd15783 kd900 (by decide)))))) (by rw [gi_of eq15776]; have := clampN (x := zi15777) (by omega); omega) (by rw [gi_of eq15824, gi_of eq15776] <;> (omega)) (by rw [gi_of eq15825, gi_of eq15780] <;> (omega)) (mA_eq eq15784 eq15826 (Eq.trans (show hp15808 qa15785 = hp15803 qa15785 from (funext fun i => Fr.at (cq := 84000) F15810 kd15786 (cd_a (by decide)) (by decide))) (Eq.trans (show hp15803 qa15785 = hp15794 qa15785 from (by rw [eh15804]; exact up2_row (kd_ne kd15786 kd900 (by decide)))) (show hp15794 qa15785 = hp15763 qa15785 from (by rw [eh15795]; exact up2_row (kd_ne kd15786 kd15783 (by decide))))))) (mA_eq eq15787 eq15827 (Eq.trans (show hp15808 qa15788 = hp15803 qa15788 from (funext fun i => Fr.at (cq := 85000) F15810 kd15789 (cd_a (by decide)) (by decide))) (Eq.trans (show hp15803 qa15788 = hp15794 qa15788 from (by rw [eh15804]; exact up2_row (kd_ne kd15789 kd900 (by decide)))) (show hp15794 qa15788 = hp15763 qa15788 from (by rw [eh15795]; exact up2_row (kd_ne kd15789 kd15783 (by decide))))))) (by rw [gi_of eq15828, gi_of eq15773] <;> (omega))
                            refine lv_goto (tgt := 12) hx hb dX12_expression_269 (by decide) ?_
                            have eq15829 : hp15808 qa900 19 = .int zi11 := Eq.trans (Fr.at (cq := 13019) F15810 kd900 (cd_o (by decide)) (by decide)) (Eq.trans (up_at eh15804 (Or.inr (by decide))) (Eq.trans (up_at eh15795 (Or.inl (kd_ne kd900 kd15783 (by decide)))) (Eq.trans (Fr.at (cq := 13019) F15765 kd900 (cd_o (by decide)) (by decide)) eq15485)))
                            have pd15830 : LPx hp15808 qa900 := LP_fr ok15764 kd900 (show Fr [13011, 13013, 13014, 13045, 89000] K hp15763 hp15808 from (Fr.tr (Fr.put (cq := 13045) (Fr.put (cq := 89000) (Fr.rf) eh15795 kd15783 (cd_a (by decide)) (by decide)) eh15804 kd900 (cd_o (by decide)) (by decide)) F15810 (by decide))) (by decide) xq15769
                            exact ih14041 hp15808 zi15813 zi15820 zi15452 zi15774 zi15798 _ _ ls (by have := toi bc_1; have := hm14043; omega) ok15809 (Fr.tr (Fr.put (cq := 13045) (Fr.put (cq := 89000) (Fr.tr (Fr.tr (Fr.tr (Fr.tr (Fr.tr (Fr.rf) F8563 (by decide)) F14521 (by decide)) F14853 (by decide)) F15445 (by decide)) F15765 (by decide)) eh15795 kd15783 (cd_a (by decide)) (by decide)) eh15804 kd900 (cd_o (by decide)) (by decide)) F15810 (by decide)) (b_wid2 bd15815 (by decide) (by decide)) eq15814 (b_wid2 bd15821 (by decide) (by decide)) eq15819 (b_wid2 bd15465 (by decide) (by decide)) eq15825 (b_wid2 bd15775 (by decide) (by decide)) eq15828 (b_wid2 bd15800 (by decide) (by decide)) eq15824 (by have := toi bc_1; omega) (by have := toi bc_1; omega) (by have := toi bc_1; omega) (by have := toi bc_1; omega) ei15823 pd15830 (lv_sub hl [1, 2, 0] rfl) hw hS
                      · skip
                        subst cn15509
                        obtain ⟨zi15831, eq15832, bd15833⟩ := hc15505 rfl
                        have hx15834 : zi15450 = zi15831 := Value.int.inj (Eq.trans (Eq.symm eq15449) eq15832)
                        subst hx15834
                        have bd15835 : (0 : Int) ≤ zi15450.toInt ∧ zi15450.toInt ≤ 0 := b_meet bd15464 bd15833 (by decide) (by decide)
                        have rh15836 := rh15506 rfl
                        simp only [ge_of eq15471 eq15447 eq15472, toi bc_10] at rh15836
                        have rh15837 := rh15507 rfl
                        simp only [gi_of eq15449] at rh15837
                        refine lv_if_ne (tgt := 181) hx hb dX12_expression_169 (by decide) (fun _ => ?_) (fun c => absurd c (d_ne bc_1 bc_0 (by decide)))
                        refine lv_iconst (v := 1) hx hb dX12_expression_181 (by decide) ?_
                        refine lv_goto (tgt := 186) hx hb dX12_expression_182 (by decide) ?_
                        refine lv_istore_n (lv' := [(2, .int 1), (0, .ref qa900), (1, .int zi8)]) hx hb dX12_expression_186 rfl hl (by decide) rfl (fun ls hl => ?_)
                        refine lv_iload_n hx hb dX12_expression_187 rfl (lv_at hl 0 rfl) ?_
                        refine lv_if_ne (tgt := 210) hx hb dX12_expression_188 (by decide) (fun _ => ?_) (fun c => absurd c (d_ne bc_1 bc_0 (by decide)))
                        refine lv_aload_n hx hb dX12_expression_210 rfl (lv_at hl 1 rfl) ?_
                        refine lv_aload_n hx hb dX12_expression_211 rfl (lv_at hl 1 rfl) ?_
                        refine lv_bipush (v := 10) hx hb dX12_expression_212 (by decide) ?_
                        refine kq_i hw hS hA (va_runV (As := [.int 10]) (rest := [.ref qa900]) ⟨hx, hb, hml, hown, hT⟩ (cX12_is_0 l G cy ev K ln Ls hW _ hp15444 ok15446 qa900 10 kd900) (cwV 1 hT (good_V tb_1623 tb_1620 tb_1622 tb_52 tb_122) rfl rfl rfl (by decide +kernel) ⟨Nat.le_of_ble_eq_true rfl, Nat.le_of_ble_eq_true rfl⟩) (pool_preV (ci := 12) hK hE hS hA hw hW kd900 (by decide) rfl) rfl rfl hl.1 rfl (lv_room (Nat.le_of_ble_eq_true rfl)) dX12_expression_214 ⟨Nat.le_of_ble_eq_true rfl, Nat.le_of_ble_eq_true rfl⟩) (fun zi15842 hp15838 H locs hq15841 hw hS => ?_)
                        obtain ⟨ok15839, F15840, bd15843, hc15844, rh15845, rh15846, rh15847⟩ := hq15841
                        obtain rfl : hp15444 = hp15838 := (Fr.nil F15840).symm
                        have hw : PW G cy K ln Ls A hp15444 H := hw
                        rcases b01 bd15843 with cn15848 | cn15848
                        · skip
                          subst cn15848
                          have rh15849 := rh15847 rfl
                          simp only [ge_of eq15471 eq15447 eq15472, gi_of eq15449, toi bc_10] at rh15849
                          refine lv_if_ne (tgt := 229) hx hb dX12_expression_217 (by decide) (fun c => absurd (d_eq bc_0 bc_0) c) (fun _ => ?_)
                          refine lv_aload_n hx hb dX12_expression_220 rfl (lv_at hl 1 rfl) ?_
                          refine lv_bipush (v := 15) hx hb dX12_expression_221 (by decide) ?_
                          refine kq_i hw hS hA (va_runV (As := [.int 15]) (rest := [.ref qa900]) ⟨hx, hb, hml, hown, hT⟩ (cX12_is_0 l G cy ev K ln Ls hW _ hp15444 ok15446 qa900 15 kd900) (cwV 1 hT (good_V tb_1623 tb_1620 tb_1622 tb_52 tb_122) rfl rfl rfl (by decide +kernel) ⟨Nat.le_of_ble_eq_true rfl, Nat.le_of_ble_eq_true rfl⟩) (pool_preV (ci := 12) hK hE hS hA hw hW kd900 (by decide) rfl) rfl rfl hl.1 rfl (lv_room (Nat.le_of_ble_eq_true rfl)) dX12_expression_223 ⟨Nat.le_of_ble_eq_true rfl, Nat.le_of_ble_eq_true rfl⟩) (fun zi15854 hp15850 H locs hq15853 hw hS => ?_)
                          obtain ⟨ok15851, F15852, bd15855, hc15856, rh15857, rh15858, rh15859⟩ := hq15853
                          obtain rfl : hp15444 = hp15850 := (Fr.nil F15852).symm
                          have hw : PW G cy K ln Ls A hp15444 H := hw
                          rcases b01 bd15855 with cn15860 | cn15860
                          · skip
                            subst cn15860
                            have rh15861 := rh15859 rfl
                            simp only [ge_of eq15471 eq15447 eq15472, gi_of eq15449, toi bc_15] at rh15861
                            refine lv_if_eq (tgt := 233) hx hb dX12_expression_226 (by decide) (fun _ => ?_) (fun c => absurd (d_eq bc_0 bc_0) c)
                            refine lv_iconst (v := 0) hx hb dX12_expression_233 (by decide) ?_
                            refine kq_v hw hS hA (va_runV (As := [.int 0]) (rest := []) ⟨hx, hb, hml, hown, hT⟩ (cX12_comesOut_0 l G cy ev K ln Ls hW _ hp15444 ok15446 qa900 0 gc0 kd900 (b_wid2 bc_0 (by decide) (by decide)) (by simp only [gi_of eq15453, gi_of eq15485, gi_of eq15455]; omega) (by simp only [gi_of eq15455]; omega) jx15461 jx15462) (cwV 1 hT (good_V tb_1715 tb_1712 tb_1714 tb_74 tb_122) rfl rfl rfl (by decide +kernel) ⟨Nat.le_of_ble_eq_true rfl, Nat.le_of_ble_eq_true rfl⟩) (pool_preV (ci := 12) hK hE hS hA hw hW kd900 (by decide) rfl) rfl rfl hl.1 rfl (lv_room (Nat.le_of_ble_eq_true rfl)) dX12_expression_234 ⟨Nat.le_of_ble_eq_true rfl, Nat.le_of_ble_eq_true rfl⟩) (fun hp15862 H locs hq15865 hw hS => ?_)
                            obtain ⟨ok15863, F15864, xq15867, xq15868, xq15869, rh15870, rh15871⟩ := hq15865
                            have hw : PW G cy K ln Ls A hp15862 H := hw
                            obtain ⟨zi15873, eq15872, bd15874⟩ := rd_13038 ok15863 kd900
                            obtain ⟨zi15876, eq15875, bd15877⟩ := rd_13045 ok15863 kd900
                            simp only [gi_of eq15453, gi_of eq15455, gi_of eq15872, gi_of eq15875] at rh15870
                            simp only [gi_of eq15455, gi_of eq15875] at rh15871
                            have el15878 := EI_lin xq15867
                            have eq15879 : hp15862 qa900 12 = .int zi15452 := Eq.trans (Fr.at (cq := 13012) F15864 kd900 (cd_o (by decide)) (by decide)) eq15451
                            rw [gi_of eq15875, gi_of eq15879, gi_of eq15872] at el15878
                            obtain ⟨qa15881, eq15880, kd15882⟩ := rd_13044 ok15863 kd900
                            obtain ⟨qa15884, eq15883, kd15885⟩ := rd_13039 ok15863 kd900
                            obtain ⟨qa15887, eq15886, kd15888⟩ := rd_13040 ok15863 kd900
                            have bd15889 : (0 : Int) ≤ zi15876.toInt ∧ zi15876.toInt ≤ 23 := (by omega)
                            refine lv_aload_n hx hb dX12_expression_237 rfl (lv_at hl 1 rfl) ?_
                            refine p_get (ci := 12) (v := .ref qa15881) (C := RX12) (T := TX12) (N := 69) hx hb hT iw_X12 hown hK hw hW kd900 (by decide) rfl rfl 44 (by decide) eq15880 (hT _ tb_1418) (fun _ h9 => h9) dX12_expression_238 ?_
                            refine lv_aload_n hx hb dX12_expression_241 rfl (lv_at hl 1 rfl) ?_
                            refine p_get (ci := 12) (v := .int zi15876) (C := RX12) (T := TX12) (N := 69) hx hb hT iw_X12 hown hK hw hW kd900 (by decide) rfl rfl 45 (by decide) eq15875 (hT _ tb_1419) (fun _ h9 => h9) dX12_expression_242 ?_
                            refine lv_aload_n hx hb dX12_expression_245 rfl (lv_at hl 1 rfl) ?_
                            have eq15890 : hp15862 qa900 5 = .ref qa14832 := Eq.trans (Fr.at (cq := 13005) F15864 kd900 (cd_o (by decide)) (by decide)) eq15471
                            refine p_get (ci := 12) (v := .ref qa14832) (C := RX12) (T := TX12) (N := 69) hx hb hT iw_X12 hown hK hw hW kd900 (by decide) rfl rfl 5 (by decide) eq15890 (hT _ tb_1379) (fun _ h9 => h9) dX12_expression_246 ?_
                            refine lv_aload_n hx hb dX12_expression_249 rfl (lv_at hl 1 rfl) ?_
                            have eq15891 : hp15862 qa900 11 = .int zi15448 := Eq.trans (Fr.at (cq := 13011) F15864 kd900 (cd_o (by decide)) (by decide)) eq15447
                            refine p_get (ci := 12) (v := .int zi15448) (C := RX12) (T := TX12) (N := 69) hx hb hT iw_X12 hown hK hw hW kd900 (by decide) rfl rfl 11 (by decide) eq15891 (hT _ tb_1385) (fun _ h9 => h9) dX12_expression_250 ?_
                            have eq15892 : hp15862 qa14832 (zi15448 : Int32).toNatClampNeg = .int zi15473 := Eq.trans (Fr.at (cq := 62000) F15864 kd14833 (cd_a (by decide)) (by decide)) eq15472
                            refine p_iald (v := zi15473) hx hb hK hw hW kd14833 (by decide) rfl (hW.len kd14833 (n := 403) rfl (by decide)) (vp_b bd15463 (by decide) (by decide)) eq15892 dX12_expression_253 ?_
                            refine p_iast (x := zi15473) hx hb hK hw hS hW kd15882 (by decide) rfl (hW.len kd15882 (n := 64) rfl (by decide)) (vp_b bd15889 (by decide) (by decide)) dX12_expression_254 (fun hp15893 eh15894 H locs hw hS => ?_)
                            have ok15895 := wr_89000 ok15863 kd15882 eh15894
                            refine lv_aload_n hx hb dX12_expression_255 rfl (lv_at hl 1 rfl) ?_
                            refine lv_dup hx hb dX12_expression_256 rfl ?_
                            have eq15896 : hp15893 qa900 45 = .int zi15876 := Eq.trans (up_at eh15894 (Or.inl (kd_ne kd900 kd15882 (by decide)))) eq15875
                            refine p_get (ci := 12) (v := .int zi15876) (C := RX12) (T := TX12) (N := 69) hx hb hT iw_X12 hown hK hw hW kd900 (by decide) rfl rfl 45 (by decide) eq15896 (hT _ tb_1419) (fun _ h9 => h9) dX12_expression_257 ?_
                            refine lv_iconst (v := 1) hx hb dX12_expression_260 (by decide) ?_
                            refine lv_iadd hx hb dX12_expression_261 (lv_topi (fun zi15897 ea15898 => ?_))
                            have bd15899 : (1 : Int) ≤ zi15897.toInt ∧ zi15897.toInt ≤ 24 := b_iadd ea15898 bd15889 bc_1 (by decide) (by decide) (by decide) (by decide)
                            have qe15900 : zi15897.toInt = (zi15876 : Int32).toInt + (1 : Int32).toInt := e_iadd ea15898 bd15889 bc_1 (by decide) (by decide)
                            have qe15901 : zi15897.toInt = zi15876.toInt + 1 := by have ha : (1 : Int32).toInt = 1 := (by decide); rw [ha] at qe15900; exact qe15900
                            refine p_put (ci := 12) (v := .int zi15897) (ty := .int) (C := RX12) (T := TX12) (N := 69) hx hb hT iw_X12 tyX12 tyX12_ok nmX12 hown hK hw hS hW kd900 (by decide) rfl rfl 45 (by decide) (hT _ tb_1419) (fun _ h9 => h9) rfl (by decide +kernel) rfl rfl dX12_expression_262 (fun hp15902 eh15903 H locs hw hS => ?_)
                            have ok15904 := wr_13045 bd15899 (by decide) (by decide) ok15895 kd900 eh15903
                            refine lv_aload_n hx hb dX12_expression_265 rfl (lv_at hl 1 rfl) ?_
                            have eq15905 : hp15902 qa900 13 = .int zi15450 := Eq.trans (up_at eh15903 (Or.inr (by decide))) (Eq.trans (up_at eh15894 (Or.inl (kd_ne kd900 kd15882 (by decide)))) (Eq.trans (Fr.at (cq := 13013) F15864 kd900 (cd_o (by decide)) (by decide)) eq15449))
                            have eq15906 : hp15902 qa900 11 = .int zi15448 := Eq.trans (up_at eh15903 (Or.inr (by decide))) (Eq.trans (up_at eh15894 (Or.inl (kd_ne kd900 kd15882 (by decide)))) eq15891)
                            refine kq_v hw hS hA (va_runV (As := []) (rest := []) ⟨hx, hb, hml, hown, hT⟩ (cX12_goesOn_0 l G cy ev K ln Ls hW _ hp15902 ok15904 qa900 kd900) (cwV 0 hT (good_V tb_1639 tb_1636 tb_1638 tb_56 tb_122) rfl rfl rfl (by decide +kernel) ⟨Nat.le_of_ble_eq_true rfl, Nat.le_of_ble_eq_true rfl⟩) (pool_preV (ci := 12) hK hE hS hA hw hW kd900 (by decide) rfl) rfl rfl hl.1 rfl (lv_room (Nat.le_of_ble_eq_true rfl)) dX12_expression_266 ⟨Nat.le_of_ble_eq_true rfl, Nat.le_of_ble_eq_true rfl⟩) (fun hp15907 H locs hq15910 hw hS => ?_)
                            obtain ⟨ok15908, F15909, ⟨zi15912, eq15913, bd15914⟩, rh15915, rh15916, rh15917⟩ := hq15910
                            have hw : PW G cy K ln Ls A hp15907 H := hw
                            obtain ⟨zi15919, eq15918, bd15920⟩ := rd_13013 ok15908 kd900
                            simp only [gi_of eq15905, gi_of eq15906, gi_of eq15913, gi_of eq15918] at rh15915
                            simp only [gi_of eq15905, gi_of eq15918] at rh15916
                            simp only [gi_of eq15906, gi_of eq15913, gi_of eq15918] at rh15917
                            have eq15921 : hp15907 qa900 44 = .ref qa15881 := Eq.trans (Fr.at (cq := 13044) F15909 kd900 (cd_o (by decide)) (by decide)) (Eq.trans (up_at eh15903 (Or.inr (by decide))) (Eq.trans (up_at eh15894 (Or.inl (kd_ne kd900 kd15882 (by decide)))) eq15880))
                            have eq15923 : hp15907 qa900 45 = .int zi15897 := Eq.trans (Fr.at (cq := 13045) F15909 kd900 (cd_o (by decide)) (by decide)) (hp_self eh15903)
                            have eq15924 : hp15907 qa900 12 = .int zi15452 := Eq.trans (Fr.at (cq := 13012) F15909 kd900 (cd_o (by decide)) (by decide)) (Eq.trans (up_at eh15903 (Or.inr (by decide))) (Eq.trans (up_at eh15894 (Or.inl (kd_ne kd900 kd15882 (by decide)))) eq15879))
                            have eq15925 : hp15907 qa900 39 = .ref qa15884 := Eq.trans (Fr.at (cq := 13039) F15909 kd900 (cd_o (by decide)) (by decide)) (Eq.trans (up_at eh15903 (Or.inr (by decide))) (Eq.trans (up_at eh15894 (Or.inl (kd_ne kd900 kd15882 (by decide)))) eq15883))
                            have eq15926 : hp15907 qa900 40 = .ref qa15887 := Eq.trans (Fr.at (cq := 13040) F15909 kd900 (cd_o (by decide)) (by decide)) (Eq.trans (up_at eh15903 (Or.inr (by decide))) (Eq.trans (up_at eh15894 (Or.inl (kd_ne kd900 kd15882 (by decide)))) eq15886))
                            have eq15927 : hp15907 qa900 38 = .int zi15873 := Eq.trans (Fr.at (cq := 13038) F15909 kd900 (cd_o (by decide)) (by decide)) (Eq.trans (up_at eh15903 (Or.inr (by decide))) (Eq.trans (up_at eh15894 (Or.inl (kd_ne kd900 kd15882 (by decide)))) eq15872))
                            have ei15922 : EIx hp15907 qa900 gc0 0 := EI_opr (i := (zi15876 : Int32).toNatClampNeg) (k := zi15473.toInt) xq15867 (CO_opr xq15869 (by have := toi bc_0; omega)) (mA_up eq15880 eq15921 rfl eh15894 (Eq.trans (show hp15907 qa15881 = hp15902 qa15881 from (funext fun i => Fr.at (cq := 89000) F15909 kd15882 (cd_a (by decide)) (by decide))) (show hp15902 qa15881 = hp15893 qa15881 from (by rw [eh15903]; exact up2_row (kd_ne kd15882 kd900 (by decide)))))) (by rw [gi_of eq15875]; have := clampN (x := zi15876) (by omega); omega) (by rw [gi_of eq15923, gi_of eq15875] <;> (omega)) (by rw [gi_of eq15924, gi_of eq15879] <;> (omega)) (mA_eq eq15883 eq15925 (Eq.trans (show hp15907 qa15884 = hp15902 qa15884 from (funext fun i => Fr.at (cq := 84000) F15909 kd15885 (cd_a (by decide)) (by decide))) (Eq.trans (show hp15902 qa15884 = hp15893 qa15884 from (by rw [eh15903]; exact up2_row (kd_ne kd15885 kd900 (by decide)))) (show hp15893 qa15884 = hp15862 qa15884 from (by rw [eh15894]; exact up2_row (kd_ne kd15885 kd15882 (by decide))))))) (mA_eq eq15886 eq15926 (Eq.trans (show hp15907 qa15887 = hp15902 qa15887 from (funext fun i => Fr.at (cq := 85000) F15909 kd15888 (cd_a (by decide)) (by decide))) (Eq.trans (show hp15902 qa15887 = hp15893 qa15887 from (by rw [eh15903]; exact up2_row (kd_ne kd15888 kd900 (by decide)))) (show hp15893 qa15887 = hp15862 qa15887 from (by rw [eh15894]; exact up2_row (kd_ne kd15888 kd15882 (by decide))))))) (by rw [gi_of eq15927, gi_of eq15872] <;> (omega))
                            refine lv_goto (tgt := 12) hx hb dX12_expression_269 (by decide) ?_
                            have eq15928 : hp15907 qa900 19 = .int zi11 := Eq.trans (Fr.at (cq := 13019) F15909 kd900 (cd_o (by decide)) (by decide)) (Eq.trans (up_at eh15903 (Or.inr (by decide))) (Eq.trans (up_at eh15894 (Or.inl (kd_ne kd900 kd15882 (by decide)))) (Eq.trans (Fr.at (cq := 13019) F15864 kd900 (cd_o (by decide)) (by decide)) eq15485)))
                            have pd15929 : LPx hp15907 qa900 := LP_fr ok15863 kd900 (show Fr [13011, 13013, 13014, 13045, 89000] K hp15862 hp15907 from (Fr.tr (Fr.put (cq := 13045) (Fr.put (cq := 89000) (Fr.rf) eh15894 kd15882 (cd_a (by decide)) (by decide)) eh15903 kd900 (cd_o (by decide)) (by decide)) F15909 (by decide))) (by decide) xq15868
                            exact ih14041 hp15907 zi15912 zi15919 zi15452 zi15873 zi15897 _ _ ls (by have := toi bc_1; have := hm14043; omega) ok15908 (Fr.tr (Fr.put (cq := 13045) (Fr.put (cq := 89000) (Fr.tr (Fr.tr (Fr.tr (Fr.tr (Fr.tr (Fr.rf) F8563 (by decide)) F14521 (by decide)) F14853 (by decide)) F15445 (by decide)) F15864 (by decide)) eh15894 kd15882 (cd_a (by decide)) (by decide)) eh15903 kd900 (cd_o (by decide)) (by decide)) F15909 (by decide)) (b_wid2 bd15914 (by decide) (by decide)) eq15913 (b_wid2 bd15920 (by decide) (by decide)) eq15918 (b_wid2 bd15465 (by decide) (by decide)) eq15924 (b_wid2 bd15874 (by decide) (by decide)) eq15927 (b_wid2 bd15899 (by decide) (by decide)) eq15923 (by have := toi bc_1; omega) (by have := toi bc_1; omega) (by have := toi bc_1; omega) (by have := toi bc_1; omega) ei15922 pd15929 (lv_sub hl [1, 2, 0] rfl) hw hS
                          · skip
                            subst cn15860
                            obtain ⟨zi15930, eq15931, bd15932⟩ := hc15856 rfl
                            have hx15933 : zi15450 = zi15930 := Value.int.inj (Eq.trans (Eq.symm eq15449) eq15931)
                            subst hx15933
                            have bd15934 : (0 : Int) ≤ zi15450.toInt ∧ zi15450.toInt ≤ 0 := b_meet bd15835 bd15932 (by decide) (by decide)
                            have rh15935 := rh15857 rfl
                            simp only [ge_of eq15471 eq15447 eq15472, toi bc_15] at rh15935
                            have rh15936 := rh15858 rfl
                            simp only [gi_of eq15449] at rh15936
                            refine lv_if_eq (tgt := 233) hx hb dX12_expression_226 (by decide) (fun c => absurd c (d_ne bc_1 bc_0 (by decide))) (fun _ => ?_)
                            refine lv_iconst (v := 1) hx hb dX12_expression_229 (by decide) ?_
                            refine lv_goto (tgt := 234) hx hb dX12_expression_230 (by decide) ?_
                            refine kq_v hw hS hA (va_runV (As := [.int 1]) (rest := []) ⟨hx, hb, hml, hown, hT⟩ (cX12_comesOut_0 l G cy ev K ln Ls hW _ hp15444 ok15446 qa900 1 gc0 kd900 (b_wid2 bc_1 (by decide) (by decide)) (by simp only [gi_of eq15453, gi_of eq15485, gi_of eq15455]; omega) (by simp only [gi_of eq15455]; omega) jx15461 jx15462) (cwV 1 hT (good_V tb_1715 tb_1712 tb_1714 tb_74 tb_122) rfl rfl rfl (by decide +kernel) ⟨Nat.le_of_ble_eq_true rfl, Nat.le_of_ble_eq_true rfl⟩) (pool_preV (ci := 12) hK hE hS hA hw hW kd900 (by decide) rfl) rfl rfl hl.1 rfl (lv_room (Nat.le_of_ble_eq_true rfl)) dX12_expression_234 ⟨Nat.le_of_ble_eq_true rfl, Nat.le_of_ble_eq_true rfl⟩) (fun hp15937 H locs hq15940 hw hS => ?_)
                            obtain ⟨ok15938, F15939, xq15942, xq15943, xq15944, rh15945, rh15946⟩ := hq15940
                            have hw : PW G cy K ln Ls A hp15937 H := hw
                            obtain ⟨zi15948, eq15947, bd15949⟩ := rd_13038 ok15938 kd900
                            obtain ⟨zi15951, eq15950, bd15952⟩ := rd_13045 ok15938 kd900
                            simp only [gi_of eq15453, gi_of eq15455, gi_of eq15947, gi_of eq15950] at rh15945
                            simp only [gi_of eq15455, gi_of eq15950] at rh15946
                            have el15953 := EI_lin xq15942
                            have eq15954 : hp15937 qa900 12 = .int zi15452 := Eq.trans (Fr.at (cq := 13012) F15939 kd900 (cd_o (by decide)) (by decide)) eq15451
                            rw [gi_of eq15950, gi_of eq15954, gi_of eq15947] at el15953
                            obtain ⟨qa15956, eq15955, kd15957⟩ := rd_13044 ok15938 kd900
                            obtain ⟨qa15959, eq15958, kd15960⟩ := rd_13039 ok15938 kd900
                            obtain ⟨qa15962, eq15961, kd15963⟩ := rd_13040 ok15938 kd900
                            have bd15964 : (0 : Int) ≤ zi15951.toInt ∧ zi15951.toInt ≤ 23 := (by omega)
                            refine lv_aload_n hx hb dX12_expression_237 rfl (lv_at hl 1 rfl) ?_
                            refine p_get (ci := 12) (v := .ref qa15956) (C := RX12) (T := TX12) (N := 69) hx hb hT iw_X12 hown hK hw hW kd900 (by decide) rfl rfl 44 (by decide) eq15955 (hT _ tb_1418) (fun _ h9 => h9) dX12_expression_238 ?_
                            refine lv_aload_n hx hb dX12_expression_241 rfl (lv_at hl 1 rfl) ?_
                            refine p_get (ci := 12) (v := .int zi15951) (C := RX12) (T := TX12) (N := 69) hx hb hT iw_X12 hown hK hw hW kd900 (by decide) rfl rfl 45 (by decide) eq15950 (hT _ tb_1419) (fun _ h9 => h9) dX12_expression_242 ?_
                            refine lv_aload_n hx hb dX12_expression_245 rfl (lv_at hl 1 rfl) ?_
                            have eq15965 : hp15937 qa900 5 = .ref qa14832 := Eq.trans (Fr.at (cq := 13005) F15939 kd900 (cd_o (by decide)) (by decide)) eq15471
                            refine p_get (ci := 12) (v := .ref qa14832) (C := RX12) (T := TX12) (N := 69) hx hb hT iw_X12 hown hK hw hW kd900 (by decide) rfl rfl 5 (by decide) eq15965 (hT _ tb_1379) (fun _ h9 => h9) dX12_expression_246 ?_
                            refine lv_aload_n hx hb dX12_expression_249 rfl (lv_at hl 1 rfl) ?_
                            have eq15966 : hp15937 qa900 11 = .int zi15448 := Eq.trans (Fr.at (cq := 13011) F15939 kd900 (cd_o (by decide)) (by decide)) eq15447
                            refine p_get (ci := 12) (v := .int zi15448) (C := RX12) (T := TX12) (N := 69) hx hb hT iw_X12 hown hK hw hW kd900 (by decide) rfl rfl 11 (by decide) eq15966 (hT _ tb_1385) (fun _ h9 => h9) dX12_expression_250 ?_
                            have eq15967 : hp15937 qa14832 (zi15448 : Int32).toNatClampNeg = .int zi15473 := Eq.trans (Fr.at (cq := 62000) F15939 kd14833 (cd_a (by decide)) (by decide)) eq15472
                            refine p_iald (v := zi15473) hx hb hK hw hW kd14833 (by decide) rfl (hW.len kd14833 (n := 403) rfl (by decide)) (vp_b bd15463 (by decide) (by decide)) eq15967 dX12_expression_253 ?_
                            refine p_iast (x := zi15473) hx hb hK hw hS hW kd15957 (by decide) rfl (hW.len kd15957 (n := 64) rfl (by decide)) (vp_b bd15964 (by decide) (by decide)) dX12_expression_254 (fun hp15968 eh15969 H locs hw hS => ?_)
                            have ok15970 := wr_89000 ok15938 kd15957 eh15969
                            refine lv_aload_n hx hb dX12_expression_255 rfl (lv_at hl 1 rfl) ?_
                            refine lv_dup hx hb dX12_expression_256 rfl ?_
                            have eq15971 : hp15968 qa900 45 = .int zi15951 := Eq.trans (up_at eh15969 (Or.inl (kd_ne kd900 kd15957 (by decide)))) eq15950
                            refine p_get (ci := 12) (v := .int zi15951) (C := RX12) (T := TX12) (N := 69) hx hb hT iw_X12 hown hK hw hW kd900 (by decide) rfl rfl 45 (by decide) eq15971 (hT _ tb_1419) (fun _ h9 => h9) dX12_expression_257 ?_
                            refine lv_iconst (v := 1) hx hb dX12_expression_260 (by decide) ?_
                            refine lv_iadd hx hb dX12_expression_261 (lv_topi (fun zi15972 ea15973 => ?_))
                            have bd15974 : (1 : Int) ≤ zi15972.toInt ∧ zi15972.toInt ≤ 24 := b_iadd ea15973 bd15964 bc_1 (by decide) (by decide) (by decide) (by decide)
                            have qe15975 : zi15972.toInt = (zi15951 : Int32).toInt + (1 : Int32).toInt := e_iadd ea15973 bd15964 bc_1 (by decide) (by decide)
                            have qe15976 : zi15972.toInt = zi15951.toInt + 1 := by have ha : (1 : Int32).toInt = 1 := (by decide); rw [ha] at qe15975; exact qe15975
                            refine p_put (ci := 12) (v := .int zi15972) (ty := .int) (C := RX12) (T := TX12) (N := 69) hx hb hT iw_X12 tyX12 tyX12_ok nmX12 hown hK hw hS hW kd900 (by decide) rfl rfl 45 (by decide) (hT _ tb_1419) (fun _ h9 => h9) rfl (by decide +kernel) rfl rfl dX12_expression_262 (fun hp15977 eh15978 H locs hw hS => ?_)
                            have ok15979 := wr_13045 bd15974 (by decide) (by decide) ok15970 kd900 eh15978
                            refine lv_aload_n hx hb dX12_expression_265 rfl (lv_at hl 1 rfl) ?_
                            have eq15980 : hp15977 qa900 13 = .int zi15450 := Eq.trans (up_at eh15978 (Or.inr (by decide))) (Eq.trans (up_at eh15969 (Or.inl (kd_ne kd900 kd15957 (by decide)))) (Eq.trans (Fr.at (cq := 13013) F15939 kd900 (cd_o (by decide)) (by decide)) eq15449))
                            have eq15981 : hp15977 qa900 11 = .int zi15448 := Eq.trans (up_at eh15978 (Or.inr (by decide))) (Eq.trans (up_at eh15969 (Or.inl (kd_ne kd900 kd15957 (by decide)))) eq15966)
                            refine kq_v hw hS hA (va_runV (As := []) (rest := []) ⟨hx, hb, hml, hown, hT⟩ (cX12_goesOn_0 l G cy ev K ln Ls hW _ hp15977 ok15979 qa900 kd900) (cwV 0 hT (good_V tb_1639 tb_1636 tb_1638 tb_56 tb_122) rfl rfl rfl (by decide +kernel) ⟨Nat.le_of_ble_eq_true rfl, Nat.le_of_ble_eq_true rfl⟩) (pool_preV (ci := 12) hK hE hS hA hw hW kd900 (by decide) rfl) rfl rfl hl.1 rfl (lv_room (Nat.le_of_ble_eq_true rfl)) dX12_expression_266 ⟨Nat.le_of_ble_eq_true rfl, Nat.le_of_ble_eq_true rfl⟩) (fun hp15982 H locs hq15985 hw hS => ?_)
                            obtain ⟨ok15983, F15984, ⟨zi15987, eq15988, bd15989⟩, rh15990, rh15991, rh15992⟩ := hq15985
                            have hw : PW G cy K ln Ls A hp15982 H := hw
                            obtain ⟨zi15994, eq15993, bd15995⟩ := rd_13013 ok15983 kd900
                            simp only [gi_of eq15980, gi_of eq15981, gi_of eq15988, gi_of eq15993] at rh15990
                            simp only [gi_of eq15980, gi_of eq15993] at rh15991
                            simp only [gi_of eq15981, gi_of eq15988, gi_of eq15993] at rh15992
                            have eq15996 : hp15982 qa900 44 = .ref qa15956 := Eq.trans (Fr.at (cq := 13044) F15984 kd900 (cd_o (by decide)) (by decide)) (Eq.trans (up_at eh15978 (Or.inr (by decide))) (Eq.trans (up_at eh15969 (Or.inl (kd_ne kd900 kd15957 (by decide)))) eq15955))
                            have eq15998 : hp15982 qa900 45 = .int zi15972 := Eq.trans (Fr.at (cq := 13045) F15984 kd900 (cd_o (by decide)) (by decide)) (hp_self eh15978)
                            have eq15999 : hp15982 qa900 12 = .int zi15452 := Eq.trans (Fr.at (cq := 13012) F15984 kd900 (cd_o (by decide)) (by decide)) (Eq.trans (up_at eh15978 (Or.inr (by decide))) (Eq.trans (up_at eh15969 (Or.inl (kd_ne kd900 kd15957 (by decide)))) eq15954))
                            have eq16000 : hp15982 qa900 39 = .ref qa15959 := Eq.trans (Fr.at (cq := 13039) F15984 kd900 (cd_o (by decide)) (by decide)) (Eq.trans (up_at eh15978 (Or.inr (by decide))) (Eq.trans (up_at eh15969 (Or.inl (kd_ne kd900 kd15957 (by decide)))) eq15958))
                            have eq16001 : hp15982 qa900 40 = .ref qa15962 := Eq.trans (Fr.at (cq := 13040) F15984 kd900 (cd_o (by decide)) (by decide)) (Eq.trans (up_at eh15978 (Or.inr (by decide))) (Eq.trans (up_at eh15969 (Or.inl (kd_ne kd900 kd15957 (by decide)))) eq15961))
                            have eq16002 : hp15982 qa900 38 = .int zi15948 := Eq.trans (Fr.at (cq := 13038) F15984 kd900 (cd_o (by decide)) (by decide)) (Eq.trans (up_at eh15978 (Or.inr (by decide))) (Eq.trans (up_at eh15969 (Or.inl (kd_ne kd900 kd15957 (by decide)))) eq15947))
                            have ei15997 : EIx hp15982 qa900 gc0 0 := EI_opr (i := (zi15951 : Int32).toNatClampNeg) (k := zi15473.toInt) xq15942 (CO_opr xq15944 (by have := toi bc_1; omega)) (mA_up eq15955 eq15996 rfl eh15969 (Eq.trans (show hp15982 qa15956 = hp15977 qa15956 from (funext fun i => Fr.at (cq := 89000) F15984 kd15957 (cd_a (by decide)) (by decide))) (show hp15977 qa15956 = hp15968 qa15956 from (by rw [eh15978]; exact up2_row (kd_ne kd15957 kd900 (by decide)))))) (by rw [gi_of eq15950]; have := clampN (x := zi15951) (by omega); omega) (by rw [gi_of eq15998, gi_of eq15950] <;> (omega)) (by rw [gi_of eq15999, gi_of eq15954] <;> (omega)) (mA_eq eq15958 eq16000 (Eq.trans (show hp15982 qa15959 = hp15977 qa15959 from (funext fun i => Fr.at (cq := 84000) F15984 kd15960 (cd_a (by decide)) (by decide))) (Eq.trans (show hp15977 qa15959 = hp15968 qa15959 from (by rw [eh15978]; exact up2_row (kd_ne kd15960 kd900 (by decide)))) (show hp15968 qa15959 = hp15937 qa15959 from (by rw [eh15969]; exact up2_row (kd_ne kd15960 kd15957 (by decide))))))) (mA_eq eq15961 eq16001 (Eq.trans (show hp15982 qa15962 = hp15977 qa15962 from (funext fun i => Fr.at (cq := 85000) F15984 kd15963 (cd_a (by decide)) (by decide))) (Eq.trans (show hp15977 qa15962 = hp15968 qa15962 from (by rw [eh15978]; exact up2_row (kd_ne kd15963 kd900 (by decide)))) (show hp15968 qa15962 = hp15937 qa15962 from (by rw [eh15969]; exact up2_row (kd_ne kd15963 kd15957 (by decide))))))) (by rw [gi_of eq16002, gi_of eq15947] <;> (omega))
                            refine lv_goto (tgt := 12) hx hb dX12_expression_269 (by decide) ?_
                            have eq16003 : hp15982 qa900 19 = .int zi11 := Eq.trans (Fr.at (cq := 13019) F15984 kd900 (cd_o (by decide)) (by decide)) (Eq.trans (up_at eh15978 (Or.inr (by decide))) (Eq.trans (up_at eh15969 (Or.inl (kd_ne kd900 kd15957 (by decide)))) (Eq.trans (Fr.at (cq := 13019) F15939 kd900 (cd_o (by decide)) (by decide)) eq15485)))
                            have pd16004 : LPx hp15982 qa900 := LP_fr ok15938 kd900 (show Fr [13011, 13013, 13014, 13045, 89000] K hp15937 hp15982 from (Fr.tr (Fr.put (cq := 13045) (Fr.put (cq := 89000) (Fr.rf) eh15969 kd15957 (cd_a (by decide)) (by decide)) eh15978 kd900 (cd_o (by decide)) (by decide)) F15984 (by decide))) (by decide) xq15943
                            exact ih14041 hp15982 zi15987 zi15994 zi15452 zi15948 zi15972 _ _ ls (by have := toi bc_1; have := hm14043; omega) ok15983 (Fr.tr (Fr.put (cq := 13045) (Fr.put (cq := 89000) (Fr.tr (Fr.tr (Fr.tr (Fr.tr (Fr.tr (Fr.rf) F8563 (by decide)) F14521 (by decide)) F14853 (by decide)) F15445 (by decide)) F15939 (by decide)) eh15969 kd15957 (cd_a (by decide)) (by decide)) eh15978 kd900 (cd_o (by decide)) (by decide)) F15984 (by decide)) (b_wid2 bd15989 (by decide) (by decide)) eq15988 (b_wid2 bd15995 (by decide) (by decide)) eq15993 (b_wid2 bd15465 (by decide) (by decide)) eq15999 (b_wid2 bd15949 (by decide) (by decide)) eq16002 (b_wid2 bd15974 (by decide) (by decide)) eq15998 (by have := toi bc_1; omega) (by have := toi bc_1; omega) (by have := toi bc_1; omega) (by have := toi bc_1; omega) ei15997 pd16004 (lv_sub hl [1, 2, 0] rfl) hw hS
                        · skip
                          subst cn15848
                          obtain ⟨zi16005, eq16006, bd16007⟩ := hc15844 rfl
                          have hx16008 : zi15450 = zi16005 := Value.int.inj (Eq.trans (Eq.symm eq15449) eq16006)
                          subst hx16008
                          have bd16009 : (0 : Int) ≤ zi15450.toInt ∧ zi15450.toInt ≤ 0 := b_meet bd15835 bd16007 (by decide) (by decide)
                          have rh16010 := rh15845 rfl
                          simp only [ge_of eq15471 eq15447 eq15472, toi bc_10] at rh16010
                          have rh16011 := rh15846 rfl
                          simp only [gi_of eq15449] at rh16011
                          refine lv_if_ne (tgt := 229) hx hb dX12_expression_217 (by decide) (fun _ => ?_) (fun c => absurd c (d_ne bc_1 bc_0 (by decide)))
                          refine lv_iconst (v := 1) hx hb dX12_expression_229 (by decide) ?_
                          refine lv_goto (tgt := 234) hx hb dX12_expression_230 (by decide) ?_
                          refine kq_v hw hS hA (va_runV (As := [.int 1]) (rest := []) ⟨hx, hb, hml, hown, hT⟩ (cX12_comesOut_0 l G cy ev K ln Ls hW _ hp15444 ok15446 qa900 1 gc0 kd900 (b_wid2 bc_1 (by decide) (by decide)) (by simp only [gi_of eq15453, gi_of eq15485, gi_of eq15455]; omega) (by simp only [gi_of eq15455]; omega) jx15461 jx15462) (cwV 1 hT (good_V tb_1715 tb_1712 tb_1714 tb_74 tb_122) rfl rfl rfl (by decide +kernel) ⟨Nat.le_of_ble_eq_true rfl, Nat.le_of_ble_eq_true rfl⟩) (pool_preV (ci := 12) hK hE hS hA hw hW kd900 (by decide) rfl) rfl rfl hl.1 rfl (lv_room (Nat.le_of_ble_eq_true rfl)) dX12_expression_234 ⟨Nat.le_of_ble_eq_true rfl, Nat.le_of_ble_eq_true rfl⟩) (fun hp16012 H locs hq16015 hw hS => ?_)
                          obtain ⟨ok16013, F16014, xq16017, xq16018, xq16019, rh16020, rh16021⟩ := hq16015
                          have hw : PW G cy K ln Ls A hp16012 H := hw
                          obtain ⟨zi16023, eq16022, bd16024⟩ := rd_13038 ok16013 kd900
                          obtain ⟨zi16026, eq16025, bd16027⟩ := rd_13045 ok16013 kd900
                          simp only [gi_of eq15453, gi_of eq15455, gi_of eq16022, gi_of eq16025] at rh16020
                          simp only [gi_of eq15455, gi_of eq16025] at rh16021
                          have el16028 := EI_lin xq16017
                          have eq16029 : hp16012 qa900 12 = .int zi15452 := Eq.trans (Fr.at (cq := 13012) F16014 kd900 (cd_o (by decide)) (by decide)) eq15451
                          rw [gi_of eq16025, gi_of eq16029, gi_of eq16022] at el16028
                          obtain ⟨qa16031, eq16030, kd16032⟩ := rd_13044 ok16013 kd900
                          obtain ⟨qa16034, eq16033, kd16035⟩ := rd_13039 ok16013 kd900
                          obtain ⟨qa16037, eq16036, kd16038⟩ := rd_13040 ok16013 kd900
                          have bd16039 : (0 : Int) ≤ zi16026.toInt ∧ zi16026.toInt ≤ 23 := (by omega)
                          refine lv_aload_n hx hb dX12_expression_237 rfl (lv_at hl 1 rfl) ?_
                          refine p_get (ci := 12) (v := .ref qa16031) (C := RX12) (T := TX12) (N := 69) hx hb hT iw_X12 hown hK hw hW kd900 (by decide) rfl rfl 44 (by decide) eq16030 (hT _ tb_1418) (fun _ h9 => h9) dX12_expression_238 ?_
                          refine lv_aload_n hx hb dX12_expression_241 rfl (lv_at hl 1 rfl) ?_
                          refine p_get (ci := 12) (v := .int zi16026) (C := RX12) (T := TX12) (N := 69) hx hb hT iw_X12 hown hK hw hW kd900 (by decide) rfl rfl 45 (by decide) eq16025 (hT _ tb_1419) (fun _ h9 => h9) dX12_expression_242 ?_
                          refine lv_aload_n hx hb dX12_expression_245 rfl (lv_at hl 1 rfl) ?_
                          have eq16040 : hp16012 qa900 5 = .ref qa14832 := Eq.trans (Fr.at (cq := 13005) F16014 kd900 (cd_o (by decide)) (by decide)) eq15471
                          refine p_get (ci := 12) (v := .ref qa14832) (C := RX12) (T := TX12) (N := 69) hx hb hT iw_X12 hown hK hw hW kd900 (by decide) rfl rfl 5 (by decide) eq16040 (hT _ tb_1379) (fun _ h9 => h9) dX12_expression_246 ?_
                          refine lv_aload_n hx hb dX12_expression_249 rfl (lv_at hl 1 rfl) ?_
                          have eq16041 : hp16012 qa900 11 = .int zi15448 := Eq.trans (Fr.at (cq := 13011) F16014 kd900 (cd_o (by decide)) (by decide)) eq15447
                          refine p_get (ci := 12) (v := .int zi15448) (C := RX12) (T := TX12) (N := 69) hx hb hT iw_X12 hown hK hw hW kd900 (by decide) rfl rfl 11 (by decide) eq16041 (hT _ tb_1385) (fun _ h9 => h9) dX12_expression_250 ?_
                          have eq16042 : hp16012 qa14832 (zi15448 : Int32).toNatClampNeg = .int zi15473 := Eq.trans (Fr.at (cq := 62000) F16014 kd14833 (cd_a (by decide)) (by decide)) eq15472
                          refine p_iald (v := zi15473) hx hb hK hw hW kd14833 (by decide) rfl (hW.len kd14833 (n := 403) rfl (by decide)) (vp_b bd15463 (by decide) (by decide)) eq16042 dX12_expression_253 ?_
                          refine p_iast (x := zi15473) hx hb hK hw hS hW kd16032 (by decide) rfl (hW.len kd16032 (n := 64) rfl (by decide)) (vp_b bd16039 (by decide) (by decide)) dX12_expression_254 (fun hp16043 eh16044 H locs hw hS => ?_)
                          have ok16045 := wr_89000 ok16013 kd16032 eh16044
                          refine lv_aload_n hx hb dX12_expression_255 rfl (lv_at hl 1 rfl) ?_
                          refine lv_dup hx hb dX12_expression_256 rfl ?_
                          have eq16046 : hp16043 qa900 45 = .int zi16026 := Eq.trans (up_at eh16044 (Or.inl (kd_ne kd900 kd16032 (by decide)))) eq16025
                          refine p_get (ci := 12) (v := .int zi16026) (C := RX12) (T := TX12) (N := 69) hx hb hT iw_X12 hown hK hw hW kd900 (by decide) rfl rfl 45 (by decide) eq16046 (hT _ tb_1419) (fun _ h9 => h9) dX12_expression_257 ?_
                          refine lv_iconst (v := 1) hx hb dX12_expression_260 (by decide) ?_
                          refine lv_iadd hx hb dX12_expression_261 (lv_topi (fun zi16047 ea16048 => ?_))
                          have bd16049 : (1 : Int) ≤ zi16047.toInt ∧ zi16047.toInt ≤ 24 := b_iadd ea16048 bd16039 bc_1 (by decide) (by decide) (by decide) (by decide)
                          have qe16050 : zi16047.toInt = (zi16026 : Int32).toInt + (1 : Int32).toInt := e_iadd ea16048 bd16039 bc_1 (by decide) (by decide)
                          have qe16051 : zi16047.toInt = zi16026.toInt + 1 := by have ha : (1 : Int32).toInt = 1 := (by decide); rw [ha] at qe16050; exact qe16050
                          refine p_put (ci := 12) (v := .int zi16047) (ty := .int) (C := RX12) (T := TX12) (N := 69) hx hb hT iw_X12 tyX12 tyX12_ok nmX12 hown hK hw hS hW kd900 (by decide) rfl rfl 45 (by decide) (hT _ tb_1419) (fun _ h9 => h9) rfl (by decide +kernel) rfl rfl dX12_expression_262 (fun hp16052 eh16053 H locs hw hS => ?_)
                          have ok16054 := wr_13045 bd16049 (by decide) (by decide) ok16045 kd900 eh16053
                          refine lv_aload_n hx hb dX12_expression_265 rfl (lv_at hl 1 rfl) ?_
                          have eq16055 : hp16052 qa900 13 = .int zi15450 := Eq.trans (up_at eh16053 (Or.inr (by decide))) (Eq.trans (up_at eh16044 (Or.inl (kd_ne kd900 kd16032 (by decide)))) (Eq.trans (Fr.at (cq := 13013) F16014 kd900 (cd_o (by decide)) (by decide)) eq15449))
                          have eq16056 : hp16052 qa900 11 = .int zi15448 := Eq.trans (up_at eh16053 (Or.inr (by decide))) (Eq.trans (up_at eh16044 (Or.inl (kd_ne kd900 kd16032 (by decide)))) eq16041)
                          refine kq_v hw hS hA (va_runV (As := []) (rest := []) ⟨hx, hb, hml, hown, hT⟩ (cX12_goesOn_0 l G cy ev K ln Ls hW _ hp16052 ok16054 qa900 kd900) (cwV 0 hT (good_V tb_1639 tb_1636 tb_1638 tb_56 tb_122) rfl rfl rfl (by decide +kernel) ⟨Nat.le_of_ble_eq_true rfl, Nat.le_of_ble_eq_true rfl⟩) (pool_preV (ci := 12) hK hE hS hA hw hW kd900 (by decide) rfl) rfl rfl hl.1 rfl (lv_room (Nat.le_of_ble_eq_true rfl)) dX12_expression_266 ⟨Nat.le_of_ble_eq_true rfl, Nat.le_of_ble_eq_true rfl⟩) (fun hp16057 H locs hq16060 hw hS => ?_)
                          obtain ⟨ok16058, F16059, ⟨zi16062, eq16063, bd16064⟩, rh16065, rh16066, rh16067⟩ := hq16060
                          have hw : PW G cy K ln Ls A hp16057 H := hw
                          obtain ⟨zi16069, eq16068, bd16070⟩ := rd_13013 ok16058 kd900
                          simp only [gi_of eq16055, gi_of eq16056, gi_of eq16063, gi_of eq16068] at rh16065
                          simp only [gi_of eq16055, gi_of eq16068] at rh16066
                          simp only [gi_of eq16056, gi_of eq16063, gi_of eq16068] at rh16067
                          have eq16071 : hp16057 qa900 44 = .ref qa16031 := Eq.trans (Fr.at (cq := 13044) F16059 kd900 (cd_o (by decide)) (by decide)) (Eq.trans (up_at eh16053 (Or.inr (by decide))) (Eq.trans (up_at eh16044 (Or.inl (kd_ne kd900 kd16032 (by decide)))) eq16030))
                          have eq16073 : hp16057 qa900 45 = .int zi16047 := Eq.trans (Fr.at (cq := 13045) F16059 kd900 (cd_o (by decide)) (by decide)) (hp_self eh16053)
                          have eq16074 : hp16057 qa900 12 = .int zi15452 := Eq.trans (Fr.at (cq := 13012) F16059 kd900 (cd_o (by decide)) (by decide)) (Eq.trans (up_at eh16053 (Or.inr (by decide))) (Eq.trans (up_at eh16044 (Or.inl (kd_ne kd900 kd16032 (by decide)))) eq16029))
                          have eq16075 : hp16057 qa900 39 = .ref qa16034 := Eq.trans (Fr.at (cq := 13039) F16059 kd900 (cd_o (by decide)) (by decide)) (Eq.trans (up_at eh16053 (Or.inr (by decide))) (Eq.trans (up_at eh16044 (Or.inl (kd_ne kd900 kd16032 (by decide)))) eq16033))
                          have eq16076 : hp16057 qa900 40 = .ref qa16037 := Eq.trans (Fr.at (cq := 13040) F16059 kd900 (cd_o (by decide)) (by decide)) (Eq.trans (up_at eh16053 (Or.inr (by decide))) (Eq.trans (up_at eh16044 (Or.inl (kd_ne kd900 kd16032 (by decide)))) eq16036))
                          have eq16077 : hp16057 qa900 38 = .int zi16023 := Eq.trans (Fr.at (cq := 13038) F16059 kd900 (cd_o (by decide)) (by decide)) (Eq.trans (up_at eh16053 (Or.inr (by decide))) (Eq.trans (up_at eh16044 (Or.inl (kd_ne kd900 kd16032 (by decide)))) eq16022))
                          have ei16072 : EIx hp16057 qa900 gc0 0 := EI_opr (i := (zi16026 : Int32).toNatClampNeg) (k := zi15473.toInt) xq16017 (CO_opr xq16019 (by have := toi bc_1; omega)) (mA_up eq16030 eq16071 rfl eh16044 (Eq.trans (show hp16057 qa16031 = hp16052 qa16031 from (funext fun i => Fr.at (cq := 89000) F16059 kd16032 (cd_a (by decide)) (by decide))) (show hp16052 qa16031 = hp16043 qa16031 from (by rw [eh16053]; exact up2_row (kd_ne kd16032 kd900 (by decide)))))) (by rw [gi_of eq16025]; have := clampN (x := zi16026) (by omega); omega) (by rw [gi_of eq16073, gi_of eq16025] <;> (omega)) (by rw [gi_of eq16074, gi_of eq16029] <;> (omega)) (mA_eq eq16033 eq16075 (Eq.trans (show hp16057 qa16034 = hp16052 qa16034 from (funext fun i => Fr.at (cq := 84000) F16059 kd16035 (cd_a (by decide)) (by decide))) (Eq.trans (show hp16052 qa16034 = hp16043 qa16034 from (by rw [eh16053]; exact up2_row (kd_ne kd16035 kd900 (by decide)))) (show hp16043 qa16034 = hp16012 qa16034 from (by rw [eh16044]; exact up2_row (kd_ne kd16035 kd16032 (by decide))))))) (mA_eq eq16036 eq16076 (Eq.trans (show hp16057 qa16037 = hp16052 qa16037 from (funext fun i => Fr.at (cq := 85000) F16059 kd16038 (cd_a (by decide)) (by decide))) (Eq.trans (show hp16052 qa16037 = hp16043 qa16037 from (by rw [eh16053]; exact up2_row (kd_ne kd16038 kd900 (by decide)))) (show hp16043 qa16037 = hp16012 qa16037 from (by rw [eh16044]; exact up2_row (kd_ne kd16038 kd16032 (by decide))))))) (by rw [gi_of eq16077, gi_of eq16022] <;> (omega))
                          refine lv_goto (tgt := 12) hx hb dX12_expression_269 (by decide) ?_
                          have eq16078 : hp16057 qa900 19 = .int zi11 := Eq.trans (Fr.at (cq := 13019) F16059 kd900 (cd_o (by decide)) (by decide)) (Eq.trans (up_at eh16053 (Or.inr (by decide))) (Eq.trans (up_at eh16044 (Or.inl (kd_ne kd900 kd16032 (by decide)))) (Eq.trans (Fr.at (cq := 13019) F16014 kd900 (cd_o (by decide)) (by decide)) eq15485)))
                          have pd16079 : LPx hp16057 qa900 := LP_fr ok16013 kd900 (show Fr [13011, 13013, 13014, 13045, 89000] K hp16012 hp16057 from (Fr.tr (Fr.put (cq := 13045) (Fr.put (cq := 89000) (Fr.rf) eh16044 kd16032 (cd_a (by decide)) (by decide)) eh16053 kd900 (cd_o (by decide)) (by decide)) F16059 (by decide))) (by decide) xq16018
                          exact ih14041 hp16057 zi16062 zi16069 zi15452 zi16023 zi16047 _ _ ls (by have := toi bc_1; have := hm14043; omega) ok16058 (Fr.tr (Fr.put (cq := 13045) (Fr.put (cq := 89000) (Fr.tr (Fr.tr (Fr.tr (Fr.tr (Fr.tr (Fr.rf) F8563 (by decide)) F14521 (by decide)) F14853 (by decide)) F15445 (by decide)) F16014 (by decide)) eh16044 kd16032 (cd_a (by decide)) (by decide)) eh16053 kd900 (cd_o (by decide)) (by decide)) F16059 (by decide)) (b_wid2 bd16064 (by decide) (by decide)) eq16063 (b_wid2 bd16070 (by decide) (by decide)) eq16068 (b_wid2 bd15465 (by decide) (by decide)) eq16074 (b_wid2 bd16024 (by decide) (by decide)) eq16077 (b_wid2 bd16049 (by decide) (by decide)) eq16073 (by have := toi bc_1; omega) (by have := toi bc_1; omega) (by have := toi bc_1; omega) (by have := toi bc_1; omega) ei16072 pd16079 (lv_sub hl [1, 2, 0] rfl) hw hS
                    · skip
                      subst cn15497
                      obtain ⟨zi16080, eq16081, bd16082⟩ := hc15493 rfl
                      have hx16083 : zi15450 = zi16080 := Value.int.inj (Eq.trans (Eq.symm eq15449) eq16081)
                      subst hx16083
                      have bd16084 : (0 : Int) ≤ zi15450.toInt ∧ zi15450.toInt ≤ 0 := b_meet bd15464 bd16082 (by decide) (by decide)
                      have rh16085 := rh15494 rfl
                      simp only [ge_of eq15471 eq15447 eq15472, toi bc_9] at rh16085
                      have rh16086 := rh15495 rfl
                      simp only [gi_of eq15449] at rh16086
                      refine lv_if_ne (tgt := 181) hx hb dX12_expression_160 (by decide) (fun _ => ?_) (fun c => absurd c (d_ne bc_1 bc_0 (by decide)))
                      refine lv_iconst (v := 1) hx hb dX12_expression_181 (by decide) ?_
                      refine lv_goto (tgt := 186) hx hb dX12_expression_182 (by decide) ?_
                      refine lv_istore_n (lv' := [(2, .int 1), (0, .ref qa900), (1, .int zi8)]) hx hb dX12_expression_186 rfl hl (by decide) rfl (fun ls hl => ?_)
                      refine lv_iload_n hx hb dX12_expression_187 rfl (lv_at hl 0 rfl) ?_
                      refine lv_if_ne (tgt := 210) hx hb dX12_expression_188 (by decide) (fun _ => ?_) (fun c => absurd c (d_ne bc_1 bc_0 (by decide)))
                      refine lv_aload_n hx hb dX12_expression_210 rfl (lv_at hl 1 rfl) ?_
                      refine lv_aload_n hx hb dX12_expression_211 rfl (lv_at hl 1 rfl) ?_
                      refine lv_bipush (v := 10) hx hb dX12_expression_212 (by decide) ?_
                      refine kq_i hw hS hA (va_runV (As := [.int 10]) (rest := [.ref qa900]) ⟨hx, hb, hml, hown, hT⟩ (cX12_is_0 l G cy ev K ln Ls hW _ hp15444 ok15446 qa900 10 kd900) (cwV 1 hT (good_V tb_1623 tb_1620 tb_1622 tb_52 tb_122) rfl rfl rfl (by decide +kernel) ⟨Nat.le_of_ble_eq_true rfl, Nat.le_of_ble_eq_true rfl⟩) (pool_preV (ci := 12) hK hE hS hA hw hW kd900 (by decide) rfl) rfl rfl hl.1 rfl (lv_room (Nat.le_of_ble_eq_true rfl)) dX12_expression_214 ⟨Nat.le_of_ble_eq_true rfl, Nat.le_of_ble_eq_true rfl⟩) (fun zi16091 hp16087 H locs hq16090 hw hS => ?_)
                      obtain ⟨ok16088, F16089, bd16092, hc16093, rh16094, rh16095, rh16096⟩ := hq16090
                      obtain rfl : hp15444 = hp16087 := (Fr.nil F16089).symm
                      have hw : PW G cy K ln Ls A hp15444 H := hw
                      rcases b01 bd16092 with cn16097 | cn16097
                      · skip
                        subst cn16097
                        have rh16098 := rh16096 rfl
                        simp only [ge_of eq15471 eq15447 eq15472, gi_of eq15449, toi bc_10] at rh16098
                        refine lv_if_ne (tgt := 229) hx hb dX12_expression_217 (by decide) (fun c => absurd (d_eq bc_0 bc_0) c) (fun _ => ?_)
                        refine lv_aload_n hx hb dX12_expression_220 rfl (lv_at hl 1 rfl) ?_
                        refine lv_bipush (v := 15) hx hb dX12_expression_221 (by decide) ?_
                        refine kq_i hw hS hA (va_runV (As := [.int 15]) (rest := [.ref qa900]) ⟨hx, hb, hml, hown, hT⟩ (cX12_is_0 l G cy ev K ln Ls hW _ hp15444 ok15446 qa900 15 kd900) (cwV 1 hT (good_V tb_1623 tb_1620 tb_1622 tb_52 tb_122) rfl rfl rfl (by decide +kernel) ⟨Nat.le_of_ble_eq_true rfl, Nat.le_of_ble_eq_true rfl⟩) (pool_preV (ci := 12) hK hE hS hA hw hW kd900 (by decide) rfl) rfl rfl hl.1 rfl (lv_room (Nat.le_of_ble_eq_true rfl)) dX12_expression_223 ⟨Nat.le_of_ble_eq_true rfl, Nat.le_of_ble_eq_true rfl⟩) (fun zi16103 hp16099 H locs hq16102 hw hS => ?_)
                        obtain ⟨ok16100, F16101, bd16104, hc16105, rh16106, rh16107, rh16108⟩ := hq16102
                        obtain rfl : hp15444 = hp16099 := (Fr.nil F16101).symm
                        have hw : PW G cy K ln Ls A hp15444 H := hw
                        rcases b01 bd16104 with cn16109 | cn16109
                        · skip
                          subst cn16109
                          have rh16110 := rh16108 rfl
                          simp only [ge_of eq15471 eq15447 eq15472, gi_of eq15449, toi bc_15] at rh16110
                          refine lv_if_eq (tgt := 233) hx hb dX12_expression_226 (by decide) (fun _ => ?_) (fun c => absurd (d_eq bc_0 bc_0) c)
                          refine lv_iconst (v := 0) hx hb dX12_expression_233 (by decide) ?_
                          refine kq_v hw hS hA (va_runV (As := [.int 0]) (rest := []) ⟨hx, hb, hml, hown, hT⟩ (cX12_comesOut_0 l G cy ev K ln Ls hW _ hp15444 ok15446 qa900 0 gc0 kd900 (b_wid2 bc_0 (by decide) (by decide)) (by simp only [gi_of eq15453, gi_of eq15485, gi_of eq15455]; omega) (by simp only [gi_of eq15455]; omega) jx15461 jx15462) (cwV 1 hT (good_V tb_1715 tb_1712 tb_1714 tb_74 tb_122) rfl rfl rfl (by decide +kernel) ⟨Nat.le_of_ble_eq_true rfl, Nat.le_of_ble_eq_true rfl⟩) (pool_preV (ci := 12) hK hE hS hA hw hW kd900 (by decide) rfl) rfl rfl hl.1 rfl (lv_room (Nat.le_of_ble_eq_true rfl)) dX12_expression_234 ⟨Nat.le_of_ble_eq_true rfl, Nat.le_of_ble_eq_true rfl⟩) (fun hp16111 H locs hq16114 hw hS => ?_)
                          obtain ⟨ok16112, F16113, xq16116, xq16117, xq16118, rh16119, rh16120⟩ := hq16114
                          have hw : PW G cy K ln Ls A hp16111 H := hw
                          obtain ⟨zi16122, eq16121, bd16123⟩ := rd_13038 ok16112 kd900
                          obtain ⟨zi16125, eq16124, bd16126⟩ := rd_13045 ok16112 kd900
                          simp only [gi_of eq15453, gi_of eq15455, gi_of eq16121, gi_of eq16124] at rh16119
                          simp only [gi_of eq15455, gi_of eq16124] at rh16120
                          have el16127 := EI_lin xq16116
                          have eq16128 : hp16111 qa900 12 = .int zi15452 := Eq.trans (Fr.at (cq := 13012) F16113 kd900 (cd_o (by decide)) (by decide)) eq15451
                          rw [gi_of eq16124, gi_of eq16128, gi_of eq16121] at el16127
                          obtain ⟨qa16130, eq16129, kd16131⟩ := rd_13044 ok16112 kd900
                          obtain ⟨qa16133, eq16132, kd16134⟩ := rd_13039 ok16112 kd900
                          obtain ⟨qa16136, eq16135, kd16137⟩ := rd_13040 ok16112 kd900
                          have bd16138 : (0 : Int) ≤ zi16125.toInt ∧ zi16125.toInt ≤ 23 := (by omega)
                          refine lv_aload_n hx hb dX12_expression_237 rfl (lv_at hl 1 rfl) ?_
                          refine p_get (ci := 12) (v := .ref qa16130) (C := RX12) (T := TX12) (N := 69) hx hb hT iw_X12 hown hK hw hW kd900 (by decide) rfl rfl 44 (by decide) eq16129 (hT _ tb_1418) (fun _ h9 => h9) dX12_expression_238 ?_
                          refine lv_aload_n hx hb dX12_expression_241 rfl (lv_at hl 1 rfl) ?_
                          refine p_get (ci := 12) (v := .int zi16125) (C := RX12) (T := TX12) (N := 69) hx hb hT iw_X12 hown hK hw hW kd900 (by decide) rfl rfl 45 (by decide) eq16124 (hT _ tb_1419) (fun _ h9 => h9) dX12_expression_242 ?_
                          refine lv_aload_n hx hb dX12_expression_245 rfl (lv_at hl 1 rfl) ?_
                          have eq16139 : hp16111 qa900 5 = .ref qa14832 := Eq.trans (Fr.at (cq := 13005) F16113 kd900 (cd_o (by decide)) (by decide)) eq15471
                          refine p_get (ci := 12) (v := .ref qa14832) (C := RX12) (T := TX12) (N := 69) hx hb hT iw_X12 hown hK hw hW kd900 (by decide) rfl rfl 5 (by decide) eq16139 (hT _ tb_1379) (fun _ h9 => h9) dX12_expression_246 ?_
                          refine lv_aload_n hx hb dX12_expression_249 rfl (lv_at hl 1 rfl) ?_
                          have eq16140 : hp16111 qa900 11 = .int zi15448 := Eq.trans (Fr.at (cq := 13011) F16113 kd900 (cd_o (by decide)) (by decide)) eq15447
                          refine p_get (ci := 12) (v := .int zi15448) (C := RX12) (T := TX12) (N := 69) hx hb hT iw_X12 hown hK hw hW kd900 (by decide) rfl rfl 11 (by decide) eq16140 (hT _ tb_1385) (fun _ h9 => h9) dX12_expression_250 ?_
                          have eq16141 : hp16111 qa14832 (zi15448 : Int32).toNatClampNeg = .int zi15473 := Eq.trans (Fr.at (cq := 62000) F16113 kd14833 (cd_a (by decide)) (by decide)) eq15472
                          refine p_iald (v := zi15473) hx hb hK hw hW kd14833 (by decide) rfl (hW.len kd14833 (n := 403) rfl (by decide)) (vp_b bd15463 (by decide) (by decide)) eq16141 dX12_expression_253 ?_
                          refine p_iast (x := zi15473) hx hb hK hw hS hW kd16131 (by decide) rfl (hW.len kd16131 (n := 64) rfl (by decide)) (vp_b bd16138 (by decide) (by decide)) dX12_expression_254 (fun hp16142 eh16143 H locs hw hS => ?_)
                          have ok16144 := wr_89000 ok16112 kd16131 eh16143
                          refine lv_aload_n hx hb dX12_expression_255 rfl (lv_at hl 1 rfl) ?_
                          refine lv_dup hx hb dX12_expression_256 rfl ?_
                          have eq16145 : hp16142 qa900 45 = .int zi16125 := Eq.trans (up_at eh16143 (Or.inl (kd_ne kd900 kd16131 (by decide)))) eq16124
                          refine p_get (ci := 12) (v := .int zi16125) (C := RX12) (T := TX12) (N := 69) hx hb hT iw_X12 hown hK hw hW kd900 (by decide) rfl rfl 45 (by decide) eq16145 (hT _ tb_1419) (fun _ h9 => h9) dX12_expression_257 ?_
                          refine lv_iconst (v := 1) hx hb dX12_expression_260 (by decide) ?_
                          refine lv_iadd hx hb dX12_expression_261 (lv_topi (fun zi16146 ea16147 => ?_))
                          have bd16148 : (1 : Int) ≤ zi16146.toInt ∧ zi16146.toInt ≤ 24 := b_iadd ea16147 bd16138 bc_1 (by decide) (by decide) (by decide) (by decide)
                          have qe16149 : zi16146.toInt = (zi16125 : Int32).toInt + (1 : Int32).toInt := e_iadd ea16147 bd16138 bc_1 (by decide) (by decide)
                          have qe16150 : zi16146.toInt = zi16125.toInt + 1 := by have ha : (1 : Int32).toInt = 1 := (by decide); rw [ha] at qe16149; exact qe16149
                          refine p_put (ci := 12) (v := .int zi16146) (ty := .int) (C := RX12) (T := TX12) (N := 69) hx hb hT iw_X12 tyX12 tyX12_ok nmX12 hown hK hw hS hW kd900 (by decide) rfl rfl 45 (by decide) (hT _ tb_1419) (fun _ h9 => h9) rfl (by decide +kernel) rfl rfl dX12_expression_262 (fun hp16151 eh16152 H locs hw hS => ?_)
                          have ok16153 := wr_13045 bd16148 (by decide) (by decide) ok16144 kd900 eh16152
                          refine lv_aload_n hx hb dX12_expression_265 rfl (lv_at hl 1 rfl) ?_
                          have eq16154 : hp16151 qa900 13 = .int zi15450 := Eq.trans (up_at eh16152 (Or.inr (by decide))) (Eq.trans (up_at eh16143 (Or.inl (kd_ne kd900 kd16131 (by decide)))) (Eq.trans (Fr.at (cq := 13013) F16113 kd900 (cd_o (by decide)) (by decide)) eq15449))
                          have eq16155 : hp16151 qa900 11 = .int zi15448 := Eq.trans (up_at eh16152 (Or.inr (by decide))) (Eq.trans (up_at eh16143 (Or.inl (kd_ne kd900 kd16131 (by decide)))) eq16140)
                          refine kq_v hw hS hA (va_runV (As := []) (rest := []) ⟨hx, hb, hml, hown, hT⟩ (cX12_goesOn_0 l G cy ev K ln Ls hW _ hp16151 ok16153 qa900 kd900) (cwV 0 hT (good_V tb_1639 tb_1636 tb_1638 tb_56 tb_122) rfl rfl rfl (by decide +kernel) ⟨Nat.le_of_ble_eq_true rfl, Nat.le_of_ble_eq_true rfl⟩) (pool_preV (ci := 12) hK hE hS hA hw hW kd900 (by decide) rfl) rfl rfl hl.1 rfl (lv_room (Nat.le_of_ble_eq_true rfl)) dX12_expression_266 ⟨Nat.le_of_ble_eq_true rfl, Nat.le_of_ble_eq_true rfl⟩) (fun hp16156 H locs hq16159 hw hS => ?_)
                          obtain ⟨ok16157, F16158, ⟨zi16161, eq16162, bd16163⟩, rh16164, rh16165, rh16166⟩ := hq16159
                          have hw : PW G cy K ln Ls A hp16156 H := hw
                          obtain ⟨zi16168, eq16167, bd16169⟩ := rd_13013 ok16157 kd900
                          simp only [gi_of eq16154, gi_of eq16155, gi_of eq16162, gi_of eq16167] at rh16164
                          simp only [gi_of eq16154, gi_of eq16167] at rh16165
                          simp only [gi_of eq16155, gi_of eq16162, gi_of eq16167] at rh16166
                          have eq16170 : hp16156 qa900 44 = .ref qa16130 := Eq.trans (Fr.at (cq := 13044) F16158 kd900 (cd_o (by decide)) (by decide)) (Eq.trans (up_at eh16152 (Or.inr (by decide))) (Eq.trans (up_at eh16143 (Or.inl (kd_ne kd900 kd16131 (by decide)))) eq16129))
                          have eq16172 : hp16156 qa900 45 = .int zi16146 := Eq.trans (Fr.at (cq := 13045) F16158 kd900 (cd_o (by decide)) (by decide)) (hp_self eh16152)
                          have eq16173 : hp16156 qa900 12 = .int zi15452 := Eq.trans (Fr.at (cq := 13012) F16158 kd900 (cd_o (by decide)) (by decide)) (Eq.trans (up_at eh16152 (Or.inr (by decide))) (Eq.trans (up_at eh16143 (Or.inl (kd_ne kd900 kd16131 (by decide)))) eq16128))
                          have eq16174 : hp16156 qa900 39 = .ref qa16133 := Eq.trans (Fr.at (cq := 13039) F16158 kd900 (cd_o (by decide)) (by decide)) (Eq.trans (up_at eh16152 (Or.inr (by decide))) (Eq.trans (up_at eh16143 (Or.inl (kd_ne kd900 kd16131 (by decide)))) eq16132))
                          have eq16175 : hp16156 qa900 40 = .ref qa16136 := Eq.trans (Fr.at (cq := 13040) F16158 kd900 (cd_o (by decide)) (by decide)) (Eq.trans (up_at eh16152 (Or.inr (by decide))) (Eq.trans (up_at eh16143 (Or.inl (kd_ne kd900 kd16131 (by decide)))) eq16135))
                          have eq16176 : hp16156 qa900 38 = .int zi16122 := Eq.trans (Fr.at (cq := 13038) F16158 kd900 (cd_o (by decide)) (by decide)) (Eq.trans (up_at eh16152 (Or.inr (by decide))) (Eq.trans (up_at eh16143 (Or.inl (kd_ne kd900 kd16131 (by decide)))) eq16121))
                          have ei16171 : EIx hp16156 qa900 gc0 0 := EI_opr (i := (zi16125 : Int32).toNatClampNeg) (k := zi15473.toInt) xq16116 (CO_opr xq16118 (by have := toi bc_0; omega)) (mA_up eq16129 eq16170 rfl eh16143 (Eq.trans (show hp16156 qa16130 = hp16151 qa16130 from (funext fun i => Fr.at (cq := 89000) F16158 kd16131 (cd_a (by decide)) (by decide))) (show hp16151 qa16130 = hp16142 qa16130 from (by rw [eh16152]; exact up2_row (kd_ne kd16131 kd900 (by decide)))))) (by rw [gi_of eq16124]; have := clampN (x := zi16125) (by omega); omega) (by rw [gi_of eq16172, gi_of eq16124] <;> (omega)) (by rw [gi_of eq16173, gi_of eq16128] <;> (omega)) (mA_eq eq16132 eq16174 (Eq.trans (show hp16156 qa16133 = hp16151 qa16133 from (funext fun i => Fr.at (cq := 84000) F16158 kd16134 (cd_a (by decide)) (by decide))) (Eq.trans (show hp16151 qa16133 = hp16142 qa16133 from (by rw [eh16152]; exact up2_row (kd_ne kd16134 kd900 (by decide)))) (show hp16142 qa16133 = hp16111 qa16133 from (by rw [eh16143]; exact up2_row (kd_ne kd16134 kd16131 (by decide))))))) (mA_eq eq16135 eq16175 (Eq.trans (show hp16156 qa16136 = hp16151 qa16136 from (funext fun i => Fr.at (cq := 85000) F16158 kd16137 (cd_a (by decide)) (by decide))) (Eq.trans (show hp16151 qa16136 = hp16142 qa16136 from (by rw [eh16152]; exact up2_row (kd_ne kd16137 kd900 (by decide)))) (show hp16142 qa16136 = hp16111 qa16136 from (by rw [eh16143]; exact up2_row (kd_ne kd16137 kd16131 (by decide))))))) (by rw [gi_of eq16176, gi_of eq16121] <;> (omega))
                          refine lv_goto (tgt := 12) hx hb dX12_expression_269 (by decide) ?_
                          have eq16177 : hp16156 qa900 19 = .int zi11 := Eq.trans (Fr.at (cq := 13019) F16158 kd900 (cd_o (by decide)) (by decide)) (Eq.trans (up_at eh16152 (Or.inr (by decide))) (Eq.trans (up_at eh16143 (Or.inl (kd_ne kd900 kd16131 (by decide)))) (Eq.trans (Fr.at (cq := 13019) F16113 kd900 (cd_o (by decide)) (by decide)) eq15485)))
                          have pd16178 : LPx hp16156 qa900 := LP_fr ok16112 kd900 (show Fr [13011, 13013, 13014, 13045, 89000] K hp16111 hp16156 from (Fr.tr (Fr.put (cq := 13045) (Fr.put (cq := 89000) (Fr.rf) eh16143 kd16131 (cd_a (by decide)) (by decide)) eh16152 kd900 (cd_o (by decide)) (by decide)) F16158 (by decide))) (by decide) xq16117
                          exact ih14041 hp16156 zi16161 zi16168 zi15452 zi16122 zi16146 _ _ ls (by have := toi bc_1; have := hm14043; omega) ok16157 (Fr.tr (Fr.put (cq := 13045) (Fr.put (cq := 89000) (Fr.tr (Fr.tr (Fr.tr (Fr.tr (Fr.tr (Fr.rf) F8563 (by decide)) F14521 (by decide)) F14853 (by decide)) F15445 (by decide)) F16113 (by decide)) eh16143 kd16131 (cd_a (by decide)) (by decide)) eh16152 kd900 (cd_o (by decide)) (by decide)) F16158 (by decide)) (b_wid2 bd16163 (by decide) (by decide)) eq16162 (b_wid2 bd16169 (by decide) (by decide)) eq16167 (b_wid2 bd15465 (by decide) (by decide)) eq16173 (b_wid2 bd16123 (by decide) (by decide)) eq16176 (b_wid2 bd16148 (by decide) (by decide)) eq16172 (by have := toi bc_1; omega) (by have := toi bc_1; omega) (by have := toi bc_1; omega) (by have := toi bc_1; omega) ei16171 pd16178 (lv_sub hl [1, 2, 0] rfl) hw hS
                        · skip
                          subst cn16109
                          obtain ⟨zi16179, eq16180, bd16181⟩ := hc16105 rfl
                          have hx16182 : zi15450 = zi16179 := Value.int.inj (Eq.trans (Eq.symm eq15449) eq16180)
                          subst hx16182
                          have bd16183 : (0 : Int) ≤ zi15450.toInt ∧ zi15450.toInt ≤ 0 := b_meet bd16084 bd16181 (by decide) (by decide)
                          have rh16184 := rh16106 rfl
                          simp only [ge_of eq15471 eq15447 eq15472, toi bc_15] at rh16184
                          have rh16185 := rh16107 rfl
                          simp only [gi_of eq15449] at rh16185
                          refine lv_if_eq (tgt := 233) hx hb dX12_expression_226 (by decide) (fun c => absurd c (d_ne bc_1 bc_0 (by decide))) (fun _ => ?_)
                          refine lv_iconst (v := 1) hx hb dX12_expression_229 (by decide) ?_
                          refine lv_goto (tgt := 234) hx hb dX12_expression_230 (by decide) ?_
                          refine kq_v hw hS hA (va_runV (As := [.int 1]) (rest := []) ⟨hx, hb, hml, hown, hT⟩ (cX12_comesOut_0 l G cy ev K ln Ls hW _ hp15444 ok15446 qa900 1 gc0 kd900 (b_wid2 bc_1 (by decide) (by decide)) (by simp only [gi_of eq15453, gi_of eq15485, gi_of eq15455]; omega) (by simp only [gi_of eq15455]; omega) jx15461 jx15462) (cwV 1 hT (good_V tb_1715 tb_1712 tb_1714 tb_74 tb_122) rfl rfl rfl (by decide +kernel) ⟨Nat.le_of_ble_eq_true rfl, Nat.le_of_ble_eq_true rfl⟩) (pool_preV (ci := 12) hK hE hS hA hw hW kd900 (by decide) rfl) rfl rfl hl.1 rfl (lv_room (Nat.le_of_ble_eq_true rfl)) dX12_expression_234 ⟨Nat.le_of_ble_eq_true rfl, Nat.le_of_ble_eq_true rfl⟩) (fun hp16186 H locs hq16189 hw hS => ?_)
                          obtain ⟨ok16187, F16188, xq16191, xq16192, xq16193, rh16194, rh16195⟩ := hq16189
                          have hw : PW G cy K ln Ls A hp16186 H := hw
                          obtain ⟨zi16197, eq16196, bd16198⟩ := rd_13038 ok16187 kd900
                          obtain ⟨zi16200, eq16199, bd16201⟩ := rd_13045 ok16187 kd900
                          simp only [gi_of eq15453, gi_of eq15455, gi_of eq16196, gi_of eq16199] at rh16194
                          simp only [gi_of eq15455, gi_of eq16199] at rh16195
                          have el16202 := EI_lin xq16191
                          have eq16203 : hp16186 qa900 12 = .int zi15452 := Eq.trans (Fr.at (cq := 13012) F16188 kd900 (cd_o (by decide)) (by decide)) eq15451
                          rw [gi_of eq16199, gi_of eq16203, gi_of eq16196] at el16202
                          obtain ⟨qa16205, eq16204, kd16206⟩ := rd_13044 ok16187 kd900
                          obtain ⟨qa16208, eq16207, kd16209⟩ := rd_13039 ok16187 kd900
                          obtain ⟨qa16211, eq16210, kd16212⟩ := rd_13040 ok16187 kd900
                          have bd16213 : (0 : Int) ≤ zi16200.toInt ∧ zi16200.toInt ≤ 23 := (by omega)
                          refine lv_aload_n hx hb dX12_expression_237 rfl (lv_at hl 1 rfl) ?_
                          refine p_get (ci := 12) (v := .ref qa16205) (C := RX12) (T := TX12) (N := 69) hx hb hT iw_X12 hown hK hw hW kd900 (by decide) rfl rfl 44 (by decide) eq16204 (hT _ tb_1418) (fun _ h9 => h9) dX12_expression_238 ?_
                          refine lv_aload_n hx hb dX12_expression_241 rfl (lv_at hl 1 rfl) ?_
                          refine p_get (ci := 12) (v := .int zi16200) (C := RX12) (T := TX12) (N := 69) hx hb hT iw_X12 hown hK hw hW kd900 (by decide) rfl rfl 45 (by decide) eq16199 (hT _ tb_1419) (fun _ h9 => h9) dX12_expression_242 ?_
                          refine lv_aload_n hx hb dX12_expression_245 rfl (lv_at hl 1 rfl) ?_
                          have eq16214 : hp16186 qa900 5 = .ref qa14832 := Eq.trans (Fr.at (cq := 13005) F16188 kd900 (cd_o (by decide)) (by decide)) eq15471
                          refine p_get (ci := 12) (v := .ref qa14832) (C := RX12) (T := TX12) (N := 69) hx hb hT iw_X12 hown hK hw hW kd900 (by decide) rfl rfl 5 (by decide) eq16214 (hT _ tb_1379) (fun _ h9 => h9) dX12_expression_246 ?_
                          refine lv_aload_n hx hb dX12_expression_249 rfl (lv_at hl 1 rfl) ?_
                          have eq16215 : hp16186 qa900 11 = .int zi15448 := Eq.trans (Fr.at (cq := 13011) F16188 kd900 (cd_o (by decide)) (by decide)) eq15447
                          refine p_get (ci := 12) (v := .int zi15448) (C := RX12) (T := TX12) (N := 69) hx hb hT iw_X12 hown hK hw hW kd900 (by decide) rfl rfl 11 (by decide) eq16215 (hT _ tb_1385) (fun _ h9 => h9) dX12_expression_250 ?_
                          have eq16216 : hp16186 qa14832 (zi15448 : Int32).toNatClampNeg = .int zi15473 := Eq.trans (Fr.at (cq := 62000) F16188 kd14833 (cd_a (by decide)) (by decide)) eq15472
                          refine p_iald (v := zi15473) hx hb hK hw hW kd14833 (by decide) rfl (hW.len kd14833 (n := 403) rfl (by decide)) (vp_b bd15463 (by decide) (by decide)) eq16216 dX12_expression_253 ?_
                          refine p_iast (x := zi15473) hx hb hK hw hS hW kd16206 (by decide) rfl (hW.len kd16206 (n := 64) rfl (by decide)) (vp_b bd16213 (by decide) (by decide)) dX12_expression_254 (fun hp16217 eh16218 H locs hw hS => ?_)
                          have ok16219 := wr_89000 ok16187 kd16206 eh16218
                          refine lv_aload_n hx hb dX12_expression_255 rfl (lv_at hl 1 rfl) ?_
                          refine lv_dup hx hb dX12_expression_256 rfl ?_
                          have eq16220 : hp16217 qa900 45 = .int zi16200 := Eq.trans (up_at eh16218 (Or.inl (kd_ne kd900 kd16206 (by decide)))) eq16199
                          refine p_get (ci := 12) (v := .int zi16200) (C := RX12) (T := TX12) (N := 69) hx hb hT iw_X12 hown hK hw hW kd900 (by decide) rfl rfl 45 (by decide) eq16220 (hT _ tb_1419) (fun _ h9 => h9) dX12_expression_257 ?_
                          refine lv_iconst (v := 1) hx hb dX12_expression_260 (by decide) ?_
                          refine lv_iadd hx hb dX12_expression_261 (lv_topi (fun zi16221 ea16222 => ?_))
                          have bd16223 : (1 : Int) ≤ zi16221.toInt ∧ zi16221.toInt ≤ 24 := b_iadd ea16222 bd16213 bc_1 (by decide) (by decide) (by decide) (by decide)
                          have qe16224 : zi16221.toInt = (zi16200 : Int32).toInt + (1 : Int32).toInt := e_iadd ea16222 bd16213 bc_1 (by decide) (by decide)
                          have qe16225 : zi16221.toInt = zi16200.toInt + 1 := by have ha : (1 : Int32).toInt = 1 := (by decide); rw [ha] at qe16224; exact qe16224
                          refine p_put (ci := 12) (v := .int zi16221) (ty := .int) (C := RX12) (T := TX12) (N := 69) hx hb hT iw_X12 tyX12 tyX12_ok nmX12 hown hK hw hS hW kd900 (by decide) rfl rfl 45 (by decide) (hT _ tb_1419) (fun _ h9 => h9) rfl (by decide +kernel) rfl rfl dX12_expression_262 (fun hp16226 eh16227 H locs hw hS => ?_)
                          have ok16228 := wr_13045 bd16223 (by decide) (by decide) ok16219 kd900 eh16227
                          refine lv_aload_n hx hb dX12_expression_265 rfl (lv_at hl 1 rfl) ?_
                          have eq16229 : hp16226 qa900 13 = .int zi15450 := Eq.trans (up_at eh16227 (Or.inr (by decide))) (Eq.trans (up_at eh16218 (Or.inl (kd_ne kd900 kd16206 (by decide)))) (Eq.trans (Fr.at (cq := 13013) F16188 kd900 (cd_o (by decide)) (by decide)) eq15449))
                          have eq16230 : hp16226 qa900 11 = .int zi15448 := Eq.trans (up_at eh16227 (Or.inr (by decide))) (Eq.trans (up_at eh16218 (Or.inl (kd_ne kd900 kd16206 (by decide)))) eq16215)
                          refine kq_v hw hS hA (va_runV (As := []) (rest := []) ⟨hx, hb, hml, hown, hT⟩ (cX12_goesOn_0 l G cy ev K ln Ls hW _ hp16226 ok16228 qa900 kd900) (cwV 0 hT (good_V tb_1639 tb_1636 tb_1638 tb_56 tb_122) rfl rfl rfl (by decide +kernel) ⟨Nat.le_of_ble_eq_true rfl, Nat.le_of_ble_eq_true rfl⟩) (pool_preV (ci := 12) hK hE hS hA hw hW kd900 (by decide) rfl) rfl rfl hl.1 rfl (lv_room (Nat.le_of_ble_eq_true rfl)) dX12_expression_266 ⟨Nat.le_of_ble_eq_true rfl, Nat.le_of_ble_eq_true rfl⟩) (fun hp16231 H locs hq16234 hw hS => ?_)
                          obtain ⟨ok16232, F16233, ⟨zi16236, eq16237, bd16238⟩, rh16239, rh16240, rh16241⟩ := hq16234
                          have hw : PW G cy K ln Ls A hp16231 H := hw
                          obtain ⟨zi16243, eq16242, bd16244⟩ := rd_13013 ok16232 kd900
                          simp only [gi_of eq16229, gi_of eq16230, gi_of eq16237, gi_of eq16242] at rh16239
                          simp only [gi_of eq16229, gi_of eq16242] at rh16240
                          simp only [gi_of eq16230, gi_of eq16237, gi_of eq16242] at rh16241
                          have eq16245 : hp16231 qa900 44 = .ref qa16205 := Eq.trans (Fr.at (cq := 13044) F16233 kd900 (cd_o (by decide)) (by decide)) (Eq.trans (up_at eh16227 (Or.inr (by decide))) (Eq.trans (up_at eh16218 (Or.inl (kd_ne kd900 kd16206 (by decide)))) eq16204))
                          have eq16247 : hp16231 qa900 45 = .int zi16221 := Eq.trans (Fr.at (cq := 13045) F16233 kd900 (cd_o (by decide)) (by decide)) (hp_self eh16227)
                          have eq16248 : hp16231 qa900 12 = .int zi15452 := Eq.trans (Fr.at (cq := 13012) F16233 kd900 (cd_o (by decide)) (by decide)) (Eq.trans (up_at eh16227 (Or.inr (by decide))) (Eq.trans (up_at eh16218 (Or.inl (kd_ne kd900 kd16206 (by decide)))) eq16203))
                          have eq16249 : hp16231 qa900 39 = .ref qa16208 := Eq.trans (Fr.at (cq := 13039) F16233 kd900 (cd_o (by decide)) (by decide)) (Eq.trans (up_at eh16227 (Or.inr (by decide))) (Eq.trans (up_at eh16218 (Or.inl (kd_ne kd900 kd16206 (by decide)))) eq16207))
                          have eq16250 : hp16231 qa900 40 = .ref qa16211 := Eq.trans (Fr.at (cq := 13040) F16233 kd900 (cd_o (by decide)) (by decide)) (Eq.trans (up_at eh16227 (Or.inr (by decide))) (Eq.trans (up_at eh16218 (Or.inl (kd_ne kd900 kd16206 (by decide)))) eq16210))
                          have eq16251 : hp16231 qa900 38 = .int zi16197 := Eq.trans (Fr.at (cq := 13038) F16233 kd900 (cd_o (by decide)) (by decide)) (Eq.trans (up_at eh16227 (Or.inr (by decide))) (Eq.trans (up_at eh16218 (Or.inl (kd_ne kd900 kd16206 (by decide)))) eq16196))
                          have ei16246 : EIx hp16231 qa900 gc0 0 := EI_opr (i := (zi16200 : Int32).toNatClampNeg) (k := zi15473.toInt) xq16191 (CO_opr xq16193 (by have := toi bc_1; omega)) (mA_up eq16204 eq16245 rfl eh16218 (Eq.trans (show hp16231 qa16205 = hp16226 qa16205 from (funext fun i => Fr.at (cq := 89000) F16233 kd16206 (cd_a (by decide)) (by decide))) (show hp16226 qa16205 = hp16217 qa16205 from (by rw [eh16227]; exact up2_row (kd_ne kd16206 kd900 (by decide)))))) (by rw [gi_of eq16199]; have := clampN (x := zi16200) (by omega); omega) (by rw [gi_of eq16247, gi_of eq16199] <;> (omega)) (by rw [gi_of eq16248, gi_of eq16203] <;> (omega)) (mA_eq eq16207 eq16249 (Eq.trans (show hp16231 qa16208 = hp16226 qa16208 from (funext fun i => Fr.at (cq := 84000) F16233 kd16209 (cd_a (by decide)) (by decide))) (Eq.trans (show hp16226 qa16208 = hp16217 qa16208 from (by rw [eh16227]; exact up2_row (kd_ne kd16209 kd900 (by decide)))) (show hp16217 qa16208 = hp16186 qa16208 from (by rw [eh16218]; exact up2_row (kd_ne kd16209 kd16206 (by decide))))))) (mA_eq eq16210 eq16250 (Eq.trans (show hp16231 qa16211 = hp16226 qa16211 from (funext fun i => Fr.at (cq := 85000) F16233 kd16212 (cd_a (by decide)) (by decide))) (Eq.trans (show hp16226 qa16211 = hp16217 qa16211 from (by rw [eh16227]; exact up2_row (kd_ne kd16212 kd900 (by decide)))) (show hp16217 qa16211 = hp16186 qa16211 from (by rw [eh16218]; exact up2_row (kd_ne kd16212 kd16206 (by decide))))))) (by rw [gi_of eq16251, gi_of eq16196] <;> (omega))
                          refine lv_goto (tgt := 12) hx hb dX12_expression_269 (by decide) ?_
                          have eq16252 : hp16231 qa900 19 = .int zi11 := Eq.trans (Fr.at (cq := 13019) F16233 kd900 (cd_o (by decide)) (by decide)) (Eq.trans (up_at eh16227 (Or.inr (by decide))) (Eq.trans (up_at eh16218 (Or.inl (kd_ne kd900 kd16206 (by decide)))) (Eq.trans (Fr.at (cq := 13019) F16188 kd900 (cd_o (by decide)) (by decide)) eq15485)))
                          have pd16253 : LPx hp16231 qa900 := LP_fr ok16187 kd900 (show Fr [13011, 13013, 13014, 13045, 89000] K hp16186 hp16231 from (Fr.tr (Fr.put (cq := 13045) (Fr.put (cq := 89000) (Fr.rf) eh16218 kd16206 (cd_a (by decide)) (by decide)) eh16227 kd900 (cd_o (by decide)) (by decide)) F16233 (by decide))) (by decide) xq16192
                          exact ih14041 hp16231 zi16236 zi16243 zi15452 zi16197 zi16221 _ _ ls (by have := toi bc_1; have := hm14043; omega) ok16232 (Fr.tr (Fr.put (cq := 13045) (Fr.put (cq := 89000) (Fr.tr (Fr.tr (Fr.tr (Fr.tr (Fr.tr (Fr.rf) F8563 (by decide)) F14521 (by decide)) F14853 (by decide)) F15445 (by decide)) F16188 (by decide)) eh16218 kd16206 (cd_a (by decide)) (by decide)) eh16227 kd900 (cd_o (by decide)) (by decide)) F16233 (by decide)) (b_wid2 bd16238 (by decide) (by decide)) eq16237 (b_wid2 bd16244 (by decide) (by decide)) eq16242 (b_wid2 bd15465 (by decide) (by decide)) eq16248 (b_wid2 bd16198 (by decide) (by decide)) eq16251 (b_wid2 bd16223 (by decide) (by decide)) eq16247 (by have := toi bc_1; omega) (by have := toi bc_1; omega) (by have := toi bc_1; omega) (by have := toi bc_1; omega) ei16246 pd16253 (lv_sub hl [1, 2, 0] rfl) hw hS
                      · skip
                        subst cn16097
                        obtain ⟨zi16254, eq16255, bd16256⟩ := hc16093 rfl
                        have hx16257 : zi15450 = zi16254 := Value.int.inj (Eq.trans (Eq.symm eq15449) eq16255)
                        subst hx16257
                        have bd16258 : (0 : Int) ≤ zi15450.toInt ∧ zi15450.toInt ≤ 0 := b_meet bd16084 bd16256 (by decide) (by decide)
                        have rh16259 := rh16094 rfl
                        simp only [ge_of eq15471 eq15447 eq15472, toi bc_10] at rh16259
                        have rh16260 := rh16095 rfl
                        simp only [gi_of eq15449] at rh16260
                        refine lv_if_ne (tgt := 229) hx hb dX12_expression_217 (by decide) (fun _ => ?_) (fun c => absurd c (d_ne bc_1 bc_0 (by decide)))
                        refine lv_iconst (v := 1) hx hb dX12_expression_229 (by decide) ?_
                        refine lv_goto (tgt := 234) hx hb dX12_expression_230 (by decide) ?_
                        refine kq_v hw hS hA (va_runV (As := [.int 1]) (rest := []) ⟨hx, hb, hml, hown, hT⟩ (cX12_comesOut_0 l G cy ev K ln Ls hW _ hp15444 ok15446 qa900 1 gc0 kd900 (b_wid2 bc_1 (by decide) (by decide)) (by simp only [gi_of eq15453, gi_of eq15485, gi_of eq15455]; omega) (by simp only [gi_of eq15455]; omega) jx15461 jx15462) (cwV 1 hT (good_V tb_1715 tb_1712 tb_1714 tb_74 tb_122) rfl rfl rfl (by decide +kernel) ⟨Nat.le_of_ble_eq_true rfl, Nat.le_of_ble_eq_true rfl⟩) (pool_preV (ci := 12) hK hE hS hA hw hW kd900 (by decide) rfl) rfl rfl hl.1 rfl (lv_room (Nat.le_of_ble_eq_true rfl)) dX12_expression_234 ⟨Nat.le_of_ble_eq_true rfl, Nat.le_of_ble_eq_true rfl⟩) (fun hp16261 H locs hq16264 hw hS => ?_)
                        obtain ⟨ok16262, F16263, xq16266, xq16267, xq16268, rh16269, rh16270⟩ := hq16264
                        have hw : PW G cy K ln Ls A hp16261 H := hw
                        obtain ⟨zi16272, eq16271, bd16273⟩ := rd_13038 ok16262 kd900
                        obtain ⟨zi16275, eq16274, bd16276⟩ := rd_13045 ok16262 kd900
                        simp only [gi_of eq15453, gi_of eq15455, gi_of eq16271, gi_of eq16274] at rh16269
                        simp only [gi_of eq15455, gi_of eq16274] at rh16270
                        have el16277 := EI_lin xq16266
                        have eq16278 : hp16261 qa900 12 = .int zi15452 := Eq.trans (Fr.at (cq := 13012) F16263 kd900 (cd_o (by decide)) (by decide)) eq15451
                        rw [gi_of eq16274, gi_of eq16278, gi_of eq16271] at el16277
                        obtain ⟨qa16280, eq16279, kd16281⟩ := rd_13044 ok16262 kd900
                        obtain ⟨qa16283, eq16282, kd16284⟩ := rd_13039 ok16262 kd900
                        obtain ⟨qa16286, eq16285, kd16287⟩ := rd_13040 ok16262 kd900
                        have bd16288 : (0 : Int) ≤ zi16275.toInt ∧ zi16275.toInt ≤ 23 := (by omega)
                        refine lv_aload_n hx hb dX12_expression_237 rfl (lv_at hl 1 rfl) ?_
                        refine p_get (ci := 12) (v := .ref qa16280) (C := RX12) (T := TX12) (N := 69) hx hb hT iw_X12 hown hK hw hW kd900 (by decide) rfl rfl 44 (by decide) eq16279 (hT _ tb_1418) (fun _ h9 => h9) dX12_expression_238 ?_
                        refine lv_aload_n hx hb dX12_expression_241 rfl (lv_at hl 1 rfl) ?_
                        refine p_get (ci := 12) (v := .int zi16275) (C := RX12) (T := TX12) (N := 69) hx hb hT iw_X12 hown hK hw hW kd900 (by decide) rfl rfl 45 (by decide) eq16274 (hT _ tb_1419) (fun _ h9 => h9) dX12_expression_242 ?_
                        refine lv_aload_n hx hb dX12_expression_245 rfl (lv_at hl 1 rfl) ?_
                        have eq16289 : hp16261 qa900 5 = .ref qa14832 := Eq.trans (Fr.at (cq := 13005) F16263 kd900 (cd_o (by decide)) (by decide)) eq15471
                        refine p_get (ci := 12) (v := .ref qa14832) (C := RX12) (T := TX12) (N := 69) hx hb hT iw_X12 hown hK hw hW kd900 (by decide) rfl rfl 5 (by decide) eq16289 (hT _ tb_1379) (fun _ h9 => h9) dX12_expression_246 ?_
                        refine lv_aload_n hx hb dX12_expression_249 rfl (lv_at hl 1 rfl) ?_
                        have eq16290 : hp16261 qa900 11 = .int zi15448 := Eq.trans (Fr.at (cq := 13011) F16263 kd900 (cd_o (by decide)) (by decide)) eq15447
                        refine p_get (ci := 12) (v := .int zi15448) (C := RX12) (T := TX12) (N := 69) hx hb hT iw_X12 hown hK hw hW kd900 (by decide) rfl rfl 11 (by decide) eq16290 (hT _ tb_1385) (fun _ h9 => h9) dX12_expression_250 ?_
                        have eq16291 : hp16261 qa14832 (zi15448 : Int32).toNatClampNeg = .int zi15473 := Eq.trans (Fr.at (cq := 62000) F16263 kd14833 (cd_a (by decide)) (by decide)) eq15472
                        refine p_iald (v := zi15473) hx hb hK hw hW kd14833 (by decide) rfl (hW.len kd14833 (n := 403) rfl (by decide)) (vp_b bd15463 (by decide) (by decide)) eq16291 dX12_expression_253 ?_
                        refine p_iast (x := zi15473) hx hb hK hw hS hW kd16281 (by decide) rfl (hW.len kd16281 (n := 64) rfl (by decide)) (vp_b bd16288 (by decide) (by decide)) dX12_expression_254 (fun hp16292 eh16293 H locs hw hS => ?_)
                        have ok16294 := wr_89000 ok16262 kd16281 eh16293
                        refine lv_aload_n hx hb dX12_expression_255 rfl (lv_at hl 1 rfl) ?_
                        refine lv_dup hx hb dX12_expression_256 rfl ?_
                        have eq16295 : hp16292 qa900 45 = .int zi16275 := Eq.trans (up_at eh16293 (Or.inl (kd_ne kd900 kd16281 (by decide)))) eq16274
                        refine p_get (ci := 12) (v := .int zi16275) (C := RX12) (T := TX12) (N := 69) hx hb hT iw_X12 hown hK hw hW kd900 (by decide) rfl rfl 45 (by decide) eq16295 (hT _ tb_1419) (fun _ h9 => h9) dX12_expression_257 ?_
                        refine lv_iconst (v := 1) hx hb dX12_expression_260 (by decide) ?_
                        refine lv_iadd hx hb dX12_expression_261 (lv_topi (fun zi16296 ea16297 => ?_))
                        have bd16298 : (1 : Int) ≤ zi16296.toInt ∧ zi16296.toInt ≤ 24 := b_iadd ea16297 bd16288 bc_1 (by decide) (by decide) (by decide) (by decide)
                        have qe16299 : zi16296.toInt = (zi16275 : Int32).toInt + (1 : Int32).toInt := e_iadd ea16297 bd16288 bc_1 (by decide) (by decide)
                        have qe16300 : zi16296.toInt = zi16275.toInt + 1 := by have ha : (1 : Int32).toInt = 1 := (by decide); rw [ha] at qe16299; exact qe16299
                        refine p_put (ci := 12) (v := .int zi16296) (ty := .int) (C := RX12) (T := TX12) (N := 69) hx hb hT iw_X12 tyX12 tyX12_ok nmX12 hown hK hw hS hW kd900 (by decide) rfl rfl 45 (by decide) (hT _ tb_1419) (fun _ h9 => h9) rfl (by decide +kernel) rfl rfl dX12_expression_262 (fun hp16301 eh16302 H locs hw hS => ?_)
                        have ok16303 := wr_13045 bd16298 (by decide) (by decide) ok16294 kd900 eh16302
                        refine lv_aload_n hx hb dX12_expression_265 rfl (lv_at hl 1 rfl) ?_
                        have eq16304 : hp16301 qa900 13 = .int zi15450 := Eq.trans (up_at eh16302 (Or.inr (by decide))) (Eq.trans (up_at eh16293 (Or.inl (kd_ne kd900 kd16281 (by decide)))) (Eq.trans (Fr.at (cq := 13013) F16263 kd900 (cd_o (by decide)) (by decide)) eq15449))
                        have eq16305 : hp16301 qa900 11 = .int zi15448 := Eq.trans (up_at eh16302 (Or.inr (by decide))) (Eq.trans (up_at eh16293 (Or.inl (kd_ne kd900 kd16281 (by decide)))) eq16290)
                        refine kq_v hw hS hA (va_runV (As := []) (rest := []) ⟨hx, hb, hml, hown, hT⟩ (cX12_goesOn_0 l G cy ev K ln Ls hW _ hp16301 ok16303 qa900 kd900) (cwV 0 hT (good_V tb_1639 tb_1636 tb_1638 tb_56 tb_122) rfl rfl rfl (by decide +kernel) ⟨Nat.le_of_ble_eq_true rfl, Nat.le_of_ble_eq_true rfl⟩) (pool_preV (ci := 12) hK hE hS hA hw hW kd900 (by decide) rfl) rfl rfl hl.1 rfl (lv_room (Nat.le_of_ble_eq_true rfl)) dX12_expression_266 ⟨Nat.le_of_ble_eq_true rfl, Nat.le_of_ble_eq_true rfl⟩) (fun hp16306 H locs hq16309 hw hS => ?_)
                        obtain ⟨ok16307, F16308, ⟨zi16311, eq16312, bd16313⟩, rh16314, rh16315, rh16316⟩ := hq16309
                        have hw : PW G cy K ln Ls A hp16306 H := hw
                        obtain ⟨zi16318, eq16317, bd16319⟩ := rd_13013 ok16307 kd900
                        simp only [gi_of eq16304, gi_of eq16305, gi_of eq16312, gi_of eq16317] at rh16314
                        simp only [gi_of eq16304, gi_of eq16317] at rh16315
                        simp only [gi_of eq16305, gi_of eq16312, gi_of eq16317] at rh16316
                        have eq16320 : hp16306 qa900 44 = .ref qa16280 := Eq.trans (Fr.at (cq := 13044) F16308 kd900 (cd_o (by decide)) (by decide)) (Eq.trans (up_at eh16302 (Or.inr (by decide))) (Eq.trans (up_at eh16293 (Or.inl (kd_ne kd900 kd16281 (by decide)))) eq16279))
                        have eq16322 : hp16306 qa900 45 = .int zi16296 := Eq.trans (Fr.at (cq := 13045) F16308 kd900 (cd_o (by decide)) (by decide)) (hp_self eh16302)
                        have eq16323 : hp16306 qa900 12 = .int zi15452 := Eq.trans (Fr.at (cq := 13012) F16308 kd900 (cd_o (by decide)) (by decide)) (Eq.trans (up_at eh16302 (Or.inr (by decide))) (Eq.trans (up_at eh16293 (Or.inl (kd_ne kd900 kd16281 (by decide)))) eq16278))
                        have eq16324 : hp16306 qa900 39 = .ref qa16283 := Eq.trans (Fr.at (cq := 13039) F16308 kd900 (cd_o (by decide)) (by decide)) (Eq.trans (up_at eh16302 (Or.inr (by decide))) (Eq.trans (up_at eh16293 (Or.inl (kd_ne kd900 kd16281 (by decide)))) eq16282))
                        have eq16325 : hp16306 qa900 40 = .ref qa16286 := Eq.trans (Fr.at (cq := 13040) F16308 kd900 (cd_o (by decide)) (by decide)) (Eq.trans (up_at eh16302 (Or.inr (by decide))) (Eq.trans (up_at eh16293 (Or.inl (kd_ne kd900 kd16281 (by decide)))) eq16285))
                        have eq16326 : hp16306 qa900 38 = .int zi16272 := Eq.trans (Fr.at (cq := 13038) F16308 kd900 (cd_o (by decide)) (by decide)) (Eq.trans (up_at eh16302 (Or.inr (by decide))) (Eq.trans (up_at eh16293 (Or.inl (kd_ne kd900 kd16281 (by decide)))) eq16271))
                        have ei16321 : EIx hp16306 qa900 gc0 0 := EI_opr (i := (zi16275 : Int32).toNatClampNeg) (k := zi15473.toInt) xq16266 (CO_opr xq16268 (by have := toi bc_1; omega)) (mA_up eq16279 eq16320 rfl eh16293 (Eq.trans (show hp16306 qa16280 = hp16301 qa16280 from (funext fun i => Fr.at (cq := 89000) F16308 kd16281 (cd_a (by decide)) (by decide))) (show hp16301 qa16280 = hp16292 qa16280 from (by rw [eh16302]; exact up2_row (kd_ne kd16281 kd900 (by decide)))))) (by rw [gi_of eq16274]; have := clampN (x := zi16275) (by omega); omega) (by rw [gi_of eq16322, gi_of eq16274] <;> (omega)) (by rw [gi_of eq16323, gi_of eq16278] <;> (omega)) (mA_eq eq16282 eq16324 (Eq.trans (show hp16306 qa16283 = hp16301 qa16283 from (funext fun i => Fr.at (cq := 84000) F16308 kd16284 (cd_a (by decide)) (by decide))) (Eq.trans (show hp16301 qa16283 = hp16292 qa16283 from (by rw [eh16302]; exact up2_row (kd_ne kd16284 kd900 (by decide)))) (show hp16292 qa16283 = hp16261 qa16283 from (by rw [eh16293]; exact up2_row (kd_ne kd16284 kd16281 (by decide))))))) (mA_eq eq16285 eq16325 (Eq.trans (show hp16306 qa16286 = hp16301 qa16286 from (funext fun i => Fr.at (cq := 85000) F16308 kd16287 (cd_a (by decide)) (by decide))) (Eq.trans (show hp16301 qa16286 = hp16292 qa16286 from (by rw [eh16302]; exact up2_row (kd_ne kd16287 kd900 (by decide)))) (show hp16292 qa16286 = hp16261 qa16286 from (by rw [eh16293]; exact up2_row (kd_ne kd16287 kd16281 (by decide))))))) (by rw [gi_of eq16326, gi_of eq16271] <;> (omega))
                        refine lv_goto (tgt := 12) hx hb dX12_expression_269 (by decide) ?_
                        have eq16327 : hp16306 qa900 19 = .int zi11 := Eq.trans (Fr.at (cq := 13019) F16308 kd900 (cd_o (by decide)) (by decide)) (Eq.trans (up_at eh16302 (Or.inr (by decide))) (Eq.trans (up_at eh16293 (Or.inl (kd_ne kd900 kd16281 (by decide)))) (Eq.trans (Fr.at (cq := 13019) F16263 kd900 (cd_o (by decide)) (by decide)) eq15485)))
                        have pd16328 : LPx hp16306 qa900 := LP_fr ok16262 kd900 (show Fr [13011, 13013, 13014, 13045, 89000] K hp16261 hp16306 from (Fr.tr (Fr.put (cq := 13045) (Fr.put (cq := 89000) (Fr.rf) eh16293 kd16281 (cd_a (by decide)) (by decide)) eh16302 kd900 (cd_o (by decide)) (by decide)) F16308 (by decide))) (by decide) xq16267
                        exact ih14041 hp16306 zi16311 zi16318 zi15452 zi16272 zi16296 _ _ ls (by have := toi bc_1; have := hm14043; omega) ok16307 (Fr.tr (Fr.put (cq := 13045) (Fr.put (cq := 89000) (Fr.tr (Fr.tr (Fr.tr (Fr.tr (Fr.tr (Fr.rf) F8563 (by decide)) F14521 (by decide)) F14853 (by decide)) F15445 (by decide)) F16263 (by decide)) eh16293 kd16281 (cd_a (by decide)) (by decide)) eh16302 kd900 (cd_o (by decide)) (by decide)) F16308 (by decide)) (b_wid2 bd16313 (by decide) (by decide)) eq16312 (b_wid2 bd16319 (by decide) (by decide)) eq16317 (b_wid2 bd15465 (by decide) (by decide)) eq16323 (b_wid2 bd16273 (by decide) (by decide)) eq16326 (b_wid2 bd16298 (by decide) (by decide)) eq16322 (by have := toi bc_1; omega) (by have := toi bc_1; omega) (by have := toi bc_1; omega) (by have := toi bc_1; omega) ei16321 pd16328 (lv_sub hl [1, 2, 0] rfl) hw hS
                  · skip
                    subst cn15484
                    obtain ⟨zi16329, eq16330, bd16331⟩ := hc15480 rfl
                    have hx16332 : zi15450 = zi16329 := Value.int.inj (Eq.trans (Eq.symm eq15449) eq16330)
                    subst hx16332
                    have bd16333 : (0 : Int) ≤ zi15450.toInt ∧ zi15450.toInt ≤ 0 := b_meet bd15464 bd16331 (by decide) (by decide)
                    have rh16334 := rh15481 rfl
                    simp only [ge_of eq15471 eq15447 eq15472, toi bc_8] at rh16334
                    have rh16335 := rh15482 rfl
                    simp only [gi_of eq15449] at rh16335
                    refine lv_if_ne (tgt := 181) hx hb dX12_expression_151 (by decide) (fun _ => ?_) (fun c => absurd c (d_ne bc_1 bc_0 (by decide)))
                    refine lv_iconst (v := 1) hx hb dX12_expression_181 (by decide) ?_
                    refine lv_goto (tgt := 186) hx hb dX12_expression_182 (by decide) ?_
                    refine lv_istore_n (lv' := [(2, .int 1), (0, .ref qa900), (1, .int zi8)]) hx hb dX12_expression_186 rfl hl (by decide) rfl (fun ls hl => ?_)
                    refine lv_iload_n hx hb dX12_expression_187 rfl (lv_at hl 0 rfl) ?_
                    refine lv_if_ne (tgt := 210) hx hb dX12_expression_188 (by decide) (fun _ => ?_) (fun c => absurd c (d_ne bc_1 bc_0 (by decide)))
                    refine lv_aload_n hx hb dX12_expression_210 rfl (lv_at hl 1 rfl) ?_
                    refine lv_aload_n hx hb dX12_expression_211 rfl (lv_at hl 1 rfl) ?_
                    refine lv_bipush (v := 10) hx hb dX12_expression_212 (by decide) ?_
                    refine kq_i hw hS hA (va_runV (As := [.int 10]) (rest := [.ref qa900]) ⟨hx, hb, hml, hown, hT⟩ (cX12_is_0 l G cy ev K ln Ls hW _ hp15444 ok15446 qa900 10 kd900) (cwV 1 hT (good_V tb_1623 tb_1620 tb_1622 tb_52 tb_122) rfl rfl rfl (by decide +kernel) ⟨Nat.le_of_ble_eq_true rfl, Nat.le_of_ble_eq_true rfl⟩) (pool_preV (ci := 12) hK hE hS hA hw hW kd900 (by decide) rfl) rfl rfl hl.1 rfl (lv_room (Nat.le_of_ble_eq_true rfl)) dX12_expression_214 ⟨Nat.le_of_ble_eq_true rfl, Nat.le_of_ble_eq_true rfl⟩) (fun zi16340 hp16336 H locs hq16339 hw hS => ?_)
                    obtain ⟨ok16337, F16338, bd16341, hc16342, rh16343, rh16344, rh16345⟩ := hq16339
                    obtain rfl : hp15444 = hp16336 := (Fr.nil F16338).symm
                    have hw : PW G cy K ln Ls A hp15444 H := hw
                    rcases b01 bd16341 with cn16346 | cn16346
                    · skip
                      subst cn16346
                      have rh16347 := rh16345 rfl
                      simp only [ge_of eq15471 eq15447 eq15472, gi_of eq15449, toi bc_10] at rh16347
                      refine lv_if_ne (tgt := 229) hx hb dX12_expression_217 (by decide) (fun c => absurd (d_eq bc_0 bc_0) c) (fun _ => ?_)
                      refine lv_aload_n hx hb dX12_expression_220 rfl (lv_at hl 1 rfl) ?_
                      refine lv_bipush (v := 15) hx hb dX12_expression_221 (by decide) ?_
                      refine kq_i hw hS hA (va_runV (As := [.int 15]) (rest := [.ref qa900]) ⟨hx, hb, hml, hown, hT⟩ (cX12_is_0 l G cy ev K ln Ls hW _ hp15444 ok15446 qa900 15 kd900) (cwV 1 hT (good_V tb_1623 tb_1620 tb_1622 tb_52 tb_122) rfl rfl rfl (by decide +kernel) ⟨Nat.le_of_ble_eq_true rfl, Nat.le_of_ble_eq_true rfl⟩) (pool_preV (ci := 12) hK hE hS hA hw hW kd900 (by decide) rfl) rfl rfl hl.1 rfl (lv_room (Nat.le_of_ble_eq_true rfl)) dX12_expression_223 ⟨Nat.le_of_ble_eq_true rfl, Nat.le_of_ble_eq_true rfl⟩) (fun zi16352 hp16348 H locs hq16351 hw hS => ?_)
                      obtain ⟨ok16349, F16350, bd16353, hc16354, rh16355, rh16356, rh16357⟩ := hq16351
                      obtain rfl : hp15444 = hp16348 := (Fr.nil F16350).symm
                      have hw : PW G cy K ln Ls A hp15444 H := hw
                      rcases b01 bd16353 with cn16358 | cn16358
                      · skip
                        subst cn16358
                        have rh16359 := rh16357 rfl
                        simp only [ge_of eq15471 eq15447 eq15472, gi_of eq15449, toi bc_15] at rh16359
                        refine lv_if_eq (tgt := 233) hx hb dX12_expression_226 (by decide) (fun _ => ?_) (fun c => absurd (d_eq bc_0 bc_0) c)
                        refine lv_iconst (v := 0) hx hb dX12_expression_233 (by decide) ?_
                        refine kq_v hw hS hA (va_runV (As := [.int 0]) (rest := []) ⟨hx, hb, hml, hown, hT⟩ (cX12_comesOut_0 l G cy ev K ln Ls hW _ hp15444 ok15446 qa900 0 gc0 kd900 (b_wid2 bc_0 (by decide) (by decide)) (by simp only [gi_of eq15453, gi_of eq15485, gi_of eq15455]; omega) (by simp only [gi_of eq15455]; omega) jx15461 jx15462) (cwV 1 hT (good_V tb_1715 tb_1712 tb_1714 tb_74 tb_122) rfl rfl rfl (by decide +kernel) ⟨Nat.le_of_ble_eq_true rfl, Nat.le_of_ble_eq_true rfl⟩) (pool_preV (ci := 12) hK hE hS hA hw hW kd900 (by decide) rfl) rfl rfl hl.1 rfl (lv_room (Nat.le_of_ble_eq_true rfl)) dX12_expression_234 ⟨Nat.le_of_ble_eq_true rfl, Nat.le_of_ble_eq_true rfl⟩) (fun hp16360 H locs hq16363 hw hS => ?_)
                        obtain ⟨ok16361, F16362, xq16365, xq16366, xq16367, rh16368, rh16369⟩ := hq16363
                        have hw : PW G cy K ln Ls A hp16360 H := hw
                        obtain ⟨zi16371, eq16370, bd16372⟩ := rd_13038 ok16361 kd900
                        obtain ⟨zi16374, eq16373, bd16375⟩ := rd_13045 ok16361 kd900
                        simp only [gi_of eq15453, gi_of eq15455, gi_of eq16370, gi_of eq16373] at rh16368
                        simp only [gi_of eq15455, gi_of eq16373] at rh16369
                        have el16376 := EI_lin xq16365
                        have eq16377 : hp16360 qa900 12 = .int zi15452 := Eq.trans (Fr.at (cq := 13012) F16362 kd900 (cd_o (by decide)) (by decide)) eq15451
                        rw [gi_of eq16373, gi_of eq16377, gi_of eq16370] at el16376
                        obtain ⟨qa16379, eq16378, kd16380⟩ := rd_13044 ok16361 kd900
                        obtain ⟨qa16382, eq16381, kd16383⟩ := rd_13039 ok16361 kd900
                        obtain ⟨qa16385, eq16384, kd16386⟩ := rd_13040 ok16361 kd900
                        have bd16387 : (0 : Int) ≤ zi16374.toInt ∧ zi16374.toInt ≤ 23 := (by omega)
                        refine lv_aload_n hx hb dX12_expression_237 rfl (lv_at hl 1 rfl) ?_
                        refine p_get (ci := 12) (v := .ref qa16379) (C := RX12) (T := TX12) (N := 69) hx hb hT iw_X12 hown hK hw hW kd900 (by decide) rfl rfl 44 (by decide) eq16378 (hT _ tb_1418) (fun _ h9 => h9) dX12_expression_238 ?_
                        refine lv_aload_n hx hb dX12_expression_241 rfl (lv_at hl 1 rfl) ?_
                        refine p_get (ci := 12) (v := .int zi16374) (C := RX12) (T := TX12) (N := 69) hx hb hT iw_X12 hown hK hw hW kd900 (by decide) rfl rfl 45 (by decide) eq16373 (hT _ tb_1419) (fun _ h9 => h9) dX12_expression_242 ?_
                        refine lv_aload_n hx hb dX12_expression_245 rfl (lv_at hl 1 rfl) ?_
                        have eq16388 : hp16360 qa900 5 = .ref qa14832 := Eq.trans (Fr.at (cq := 13005) F16362 kd900 (cd_o (by decide)) (by decide)) eq15471
                        refine p_get (ci := 12) (v := .ref qa14832) (C := RX12) (T := TX12) (N := 69) hx hb hT iw_X12 hown hK hw hW kd900 (by decide) rfl rfl 5 (by decide) eq16388 (hT _ tb_1379) (fun _ h9 => h9) dX12_expression_246 ?_
                        refine lv_aload_n hx hb dX12_expression_249 rfl (lv_at hl 1 rfl) ?_
                        have eq16389 : hp16360 qa900 11 = .int zi15448 := Eq.trans (Fr.at (cq := 13011) F16362 kd900 (cd_o (by decide)) (by decide)) eq15447
                        refine p_get (ci := 12) (v := .int zi15448) (C := RX12) (T := TX12) (N := 69) hx hb hT iw_X12 hown hK hw hW kd900 (by decide) rfl rfl 11 (by decide) eq16389 (hT _ tb_1385) (fun _ h9 => h9) dX12_expression_250 ?_
                        have eq16390 : hp16360 qa14832 (zi15448 : Int32).toNatClampNeg = .int zi15473 := Eq.trans (Fr.at (cq := 62000) F16362 kd14833 (cd_a (by decide)) (by decide)) eq15472
                        refine p_iald (v := zi15473) hx hb hK hw hW kd14833 (by decide) rfl (hW.len kd14833 (n := 403) rfl (by decide)) (vp_b bd15463 (by decide) (by decide)) eq16390 dX12_expression_253 ?_
                        refine p_iast (x := zi15473) hx hb hK hw hS hW kd16380 (by decide) rfl (hW.len kd16380 (n := 64) rfl (by decide)) (vp_b bd16387 (by decide) (by decide)) dX12_expression_254 (fun hp16391 eh16392 H locs hw hS => ?_)
                        have ok16393 := wr_89000 ok16361 kd16380 eh16392
                        refine lv_aload_n hx hb dX12_expression_255 rfl (lv_at hl 1 rfl) ?_
                        refine lv_dup hx hb dX12_expression_256 rfl ?_
                        have eq16394 : hp16391 qa900 45 = .int zi16374 := Eq.trans (up_at eh16392 (Or.inl (kd_ne kd900 kd16380 (by decide)))) eq16373
                        refine p_get (ci := 12) (v := .int zi16374) (C := RX12) (T := TX12) (N := 69) hx hb hT iw_X12 hown hK hw hW kd900 (by decide) rfl rfl 45 (by decide) eq16394 (hT _ tb_1419) (fun _ h9 => h9) dX12_expression_257 ?_
                        refine lv_iconst (v := 1) hx hb dX12_expression_260 (by decide) ?_
                        refine lv_iadd hx hb dX12_expression_261 (lv_topi (fun zi16395 ea16396 => ?_))
                        have bd16397 : (1 : Int) ≤ zi16395.toInt ∧ zi16395.toInt ≤ 24 := b_iadd ea16396 bd16387 bc_1 (by decide) (by decide) (by decide) (by decide)
                        have qe16398 : zi16395.toInt = (zi16374 : Int32).toInt + (1 : Int32).toInt := e_iadd ea16396 bd16387 bc_1 (by decide) (by decide)
                        have qe16399 : zi16395.toInt = zi16374.toInt + 1 := by have ha : (1 : Int32).toInt = 1 := (by decide); rw [ha] at qe16398; exact qe16398
                        refine p_put (ci := 12) (v := .int zi16395) (ty := .int) (C := RX12) (T := TX12) (N := 69) hx hb hT iw_X12 tyX12 tyX12_ok nmX12 hown hK hw hS hW kd900 (by decide) rfl rfl 45 (by decide) (hT _ tb_1419) (fun _ h9 => h9) rfl (by decide +kernel) rfl rfl dX12_expression_262 (fun hp16400 eh16401 H locs hw hS => ?_)
                        have ok16402 := wr_13045 bd16397 (by decide) (by decide) ok16393 kd900 eh16401
                        refine lv_aload_n hx hb dX12_expression_265 rfl (lv_at hl 1 rfl) ?_
                        have eq16403 : hp16400 qa900 13 = .int zi15450 := Eq.trans (up_at eh16401 (Or.inr (by decide))) (Eq.trans (up_at eh16392 (Or.inl (kd_ne kd900 kd16380 (by decide)))) (Eq.trans (Fr.at (cq := 13013) F16362 kd900 (cd_o (by decide)) (by decide)) eq15449))
                        have eq16404 : hp16400 qa900 11 = .int zi15448 := Eq.trans (up_at eh16401 (Or.inr (by decide))) (Eq.trans (up_at eh16392 (Or.inl (kd_ne kd900 kd16380 (by decide)))) eq16389)
                        refine kq_v hw hS hA (va_runV (As := []) (rest := []) ⟨hx, hb, hml, hown, hT⟩ (cX12_goesOn_0 l G cy ev K ln Ls hW _ hp16400 ok16402 qa900 kd900) (cwV 0 hT (good_V tb_1639 tb_1636 tb_1638 tb_56 tb_122) rfl rfl rfl (by decide +kernel) ⟨Nat.le_of_ble_eq_true rfl, Nat.le_of_ble_eq_true rfl⟩) (pool_preV (ci := 12) hK hE hS hA hw hW kd900 (by decide) rfl) rfl rfl hl.1 rfl (lv_room (Nat.le_of_ble_eq_true rfl)) dX12_expression_266 ⟨Nat.le_of_ble_eq_true rfl, Nat.le_of_ble_eq_true rfl⟩) (fun hp16405 H locs hq16408 hw hS => ?_)
                        obtain ⟨ok16406, F16407, ⟨zi16410, eq16411, bd16412⟩, rh16413, rh16414, rh16415⟩ := hq16408
                        have hw : PW G cy K ln Ls A hp16405 H := hw
                        obtain ⟨zi16417, eq16416, bd16418⟩ := rd_13013 ok16406 kd900
                        simp only [gi_of eq16403, gi_of eq16404, gi_of eq16411, gi_of eq16416] at rh16413
                        simp only [gi_of eq16403, gi_of eq16416] at rh16414
                        simp only [gi_of eq16404, gi_of eq16411, gi_of eq16416] at rh16415
                        have eq16419 : hp16405 qa900 44 = .ref qa16379 := Eq.trans (Fr.at (cq := 13044) F16407 kd900 (cd_o (by decide)) (by decide)) (Eq.trans (up_at eh16401 (Or.inr (by decide))) (Eq.trans (up_at eh16392 (Or.inl (kd_ne kd900 kd16380 (by decide)))) eq16378))
                        have eq16421 : hp16405 qa900 45 = .int zi16395 := Eq.trans (Fr.at (cq := 13045) F16407 kd900 (cd_o (by decide)) (by decide)) (hp_self eh16401)
                        have eq16422 : hp16405 qa900 12 = .int zi15452 := Eq.trans (Fr.at (cq := 13012) F16407 kd900 (cd_o (by decide)) (by decide)) (Eq.trans (up_at eh16401 (Or.inr (by decide))) (Eq.trans (up_at eh16392 (Or.inl (kd_ne kd900 kd16380 (by decide)))) eq16377))
                        have eq16423 : hp16405 qa900 39 = .ref qa16382 := Eq.trans (Fr.at (cq := 13039) F16407 kd900 (cd_o (by decide)) (by decide)) (Eq.trans (up_at eh16401 (Or.inr (by decide))) (Eq.trans (up_at eh16392 (Or.inl (kd_ne kd900 kd16380 (by decide)))) eq16381))
                        have eq16424 : hp16405 qa900 40 = .ref qa16385 := Eq.trans (Fr.at (cq := 13040) F16407 kd900 (cd_o (by decide)) (by decide)) (Eq.trans (up_at eh16401 (Or.inr (by decide))) (Eq.trans (up_at eh16392 (Or.inl (kd_ne kd900 kd16380 (by decide)))) eq16384))
                        have eq16425 : hp16405 qa900 38 = .int zi16371 := Eq.trans (Fr.at (cq := 13038) F16407 kd900 (cd_o (by decide)) (by decide)) (Eq.trans (up_at eh16401 (Or.inr (by decide))) (Eq.trans (up_at eh16392 (Or.inl (kd_ne kd900 kd16380 (by decide)))) eq16370))
                        have ei16420 : EIx hp16405 qa900 gc0 0 := EI_opr (i := (zi16374 : Int32).toNatClampNeg) (k := zi15473.toInt) xq16365 (CO_opr xq16367 (by have := toi bc_0; omega)) (mA_up eq16378 eq16419 rfl eh16392 (Eq.trans (show hp16405 qa16379 = hp16400 qa16379 from (funext fun i => Fr.at (cq := 89000) F16407 kd16380 (cd_a (by decide)) (by decide))) (show hp16400 qa16379 = hp16391 qa16379 from (by rw [eh16401]; exact up2_row (kd_ne kd16380 kd900 (by decide)))))) (by rw [gi_of eq16373]; have := clampN (x := zi16374) (by omega); omega) (by rw [gi_of eq16421, gi_of eq16373] <;> (omega)) (by rw [gi_of eq16422, gi_of eq16377] <;> (omega)) (mA_eq eq16381 eq16423 (Eq.trans (show hp16405 qa16382 = hp16400 qa16382 from (funext fun i => Fr.at (cq := 84000) F16407 kd16383 (cd_a (by decide)) (by decide))) (Eq.trans (show hp16400 qa16382 = hp16391 qa16382 from (by rw [eh16401]; exact up2_row (kd_ne kd16383 kd900 (by decide)))) (show hp16391 qa16382 = hp16360 qa16382 from (by rw [eh16392]; exact up2_row (kd_ne kd16383 kd16380 (by decide))))))) (mA_eq eq16384 eq16424 (Eq.trans (show hp16405 qa16385 = hp16400 qa16385 from (funext fun i => Fr.at (cq := 85000) F16407 kd16386 (cd_a (by decide)) (by decide))) (Eq.trans (show hp16400 qa16385 = hp16391 qa16385 from (by rw [eh16401]; exact up2_row (kd_ne kd16386 kd900 (by decide)))) (show hp16391 qa16385 = hp16360 qa16385 from (by rw [eh16392]; exact up2_row (kd_ne kd16386 kd16380 (by decide))))))) (by rw [gi_of eq16425, gi_of eq16370] <;> (omega))
                        refine lv_goto (tgt := 12) hx hb dX12_expression_269 (by decide) ?_
                        have eq16426 : hp16405 qa900 19 = .int zi11 := Eq.trans (Fr.at (cq := 13019) F16407 kd900 (cd_o (by decide)) (by decide)) (Eq.trans (up_at eh16401 (Or.inr (by decide))) (Eq.trans (up_at eh16392 (Or.inl (kd_ne kd900 kd16380 (by decide)))) (Eq.trans (Fr.at (cq := 13019) F16362 kd900 (cd_o (by decide)) (by decide)) eq15485)))
                        have pd16427 : LPx hp16405 qa900 := LP_fr ok16361 kd900 (show Fr [13011, 13013, 13014, 13045, 89000] K hp16360 hp16405 from (Fr.tr (Fr.put (cq := 13045) (Fr.put (cq := 89000) (Fr.rf) eh16392 kd16380 (cd_a (by decide)) (by decide)) eh16401 kd900 (cd_o (by decide)) (by decide)) F16407 (by decide))) (by decide) xq16366
                        exact ih14041 hp16405 zi16410 zi16417 zi15452 zi16371 zi16395 _ _ ls (by have := toi bc_1; have := hm14043; omega) ok16406 (Fr.tr (Fr.put (cq := 13045) (Fr.put (cq := 89000) (Fr.tr (Fr.tr (Fr.tr (Fr.tr (Fr.tr (Fr.rf) F8563 (by decide)) F14521 (by decide)) F14853 (by decide)) F15445 (by decide)) F16362 (by decide)) eh16392 kd16380 (cd_a (by decide)) (by decide)) eh16401 kd900 (cd_o (by decide)) (by decide)) F16407 (by decide)) (b_wid2 bd16412 (by decide) (by decide)) eq16411 (b_wid2 bd16418 (by decide) (by decide)) eq16416 (b_wid2 bd15465 (by decide) (by decide)) eq16422 (b_wid2 bd16372 (by decide) (by decide)) eq16425 (b_wid2 bd16397 (by decide) (by decide)) eq16421 (by have := toi bc_1; omega) (by have := toi bc_1; omega) (by have := toi bc_1; omega) (by have := toi bc_1; omega) ei16420 pd16427 (lv_sub hl [1, 2, 0] rfl) hw hS
                      · skip
                        subst cn16358
                        obtain ⟨zi16428, eq16429, bd16430⟩ := hc16354 rfl
                        have hx16431 : zi15450 = zi16428 := Value.int.inj (Eq.trans (Eq.symm eq15449) eq16429)
                        subst hx16431
                        have bd16432 : (0 : Int) ≤ zi15450.toInt ∧ zi15450.toInt ≤ 0 := b_meet bd16333 bd16430 (by decide) (by decide)
                        have rh16433 := rh16355 rfl
                        simp only [ge_of eq15471 eq15447 eq15472, toi bc_15] at rh16433
                        have rh16434 := rh16356 rfl
                        simp only [gi_of eq15449] at rh16434
                        refine lv_if_eq (tgt := 233) hx hb dX12_expression_226 (by decide) (fun c => absurd c (d_ne bc_1 bc_0 (by decide))) (fun _ => ?_)
                        refine lv_iconst (v := 1) hx hb dX12_expression_229 (by decide) ?_
                        refine lv_goto (tgt := 234) hx hb dX12_expression_230 (by decide) ?_
                        refine kq_v hw hS hA (va_runV (As := [.int 1]) (rest := []) ⟨hx, hb, hml, hown, hT⟩ (cX12_comesOut_0 l G cy ev K ln Ls hW _ hp15444 ok15446 qa900 1 gc0 kd900 (b_wid2 bc_1 (by decide) (by decide)) (by simp only [gi_of eq15453, gi_of eq15485, gi_of eq15455]; omega) (by simp only [gi_of eq15455]; omega) jx15461 jx15462) (cwV 1 hT (good_V tb_1715 tb_1712 tb_1714 tb_74 tb_122) rfl rfl rfl (by decide +kernel) ⟨Nat.le_of_ble_eq_true rfl, Nat.le_of_ble_eq_true rfl⟩) (pool_preV (ci := 12) hK hE hS hA hw hW kd900 (by decide) rfl) rfl rfl hl.1 rfl (lv_room (Nat.le_of_ble_eq_true rfl)) dX12_expression_234 ⟨Nat.le_of_ble_eq_true rfl, Nat.le_of_ble_eq_true rfl⟩) (fun hp16435 H locs hq16438 hw hS => ?_)
                        obtain ⟨ok16436, F16437, xq16440, xq16441, xq16442, rh16443, rh16444⟩ := hq16438
                        have hw : PW G cy K ln Ls A hp16435 H := hw
                        obtain ⟨zi16446, eq16445, bd16447⟩ := rd_13038 ok16436 kd900
                        obtain ⟨zi16449, eq16448, bd16450⟩ := rd_13045 ok16436 kd900
                        simp only [gi_of eq15453, gi_of eq15455, gi_of eq16445, gi_of eq16448] at rh16443
                        simp only [gi_of eq15455, gi_of eq16448] at rh16444
                        have el16451 := EI_lin xq16440
                        have eq16452 : hp16435 qa900 12 = .int zi15452 := Eq.trans (Fr.at (cq := 13012) F16437 kd900 (cd_o (by decide)) (by decide)) eq15451
                        rw [gi_of eq16448, gi_of eq16452, gi_of eq16445] at el16451
                        obtain ⟨qa16454, eq16453, kd16455⟩ := rd_13044 ok16436 kd900
                        obtain ⟨qa16457, eq16456, kd16458⟩ := rd_13039 ok16436 kd900
                        obtain ⟨qa16460, eq16459, kd16461⟩ := rd_13040 ok16436 kd900
                        have bd16462 : (0 : Int) ≤ zi16449.toInt ∧ zi16449.toInt ≤ 23 := (by omega)
                        refine lv_aload_n hx hb dX12_expression_237 rfl (lv_at hl 1 rfl) ?_
                        refine p_get (ci := 12) (v := .ref qa16454) (C := RX12) (T := TX12) (N := 69) hx hb hT iw_X12 hown hK hw hW kd900 (by decide) rfl rfl 44 (by decide) eq16453 (hT _ tb_1418) (fun _ h9 => h9) dX12_expression_238 ?_
                        refine lv_aload_n hx hb dX12_expression_241 rfl (lv_at hl 1 rfl) ?_
                        refine p_get (ci := 12) (v := .int zi16449) (C := RX12) (T := TX12) (N := 69) hx hb hT iw_X12 hown hK hw hW kd900 (by decide) rfl rfl 45 (by decide) eq16448 (hT _ tb_1419) (fun _ h9 => h9) dX12_expression_242 ?_
                        refine lv_aload_n hx hb dX12_expression_245 rfl (lv_at hl 1 rfl) ?_
                        have eq16463 : hp16435 qa900 5 = .ref qa14832 := Eq.trans (Fr.at (cq := 13005) F16437 kd900 (cd_o (by decide)) (by decide)) eq15471
                        refine p_get (ci := 12) (v := .ref qa14832) (C := RX12) (T := TX12) (N := 69) hx hb hT iw_X12 hown hK hw hW kd900 (by decide) rfl rfl 5 (by decide) eq16463 (hT _ tb_1379) (fun _ h9 => h9) dX12_expression_246 ?_
                        refine lv_aload_n hx hb dX12_expression_249 rfl (lv_at hl 1 rfl) ?_
                        have eq16464 : hp16435 qa900 11 = .int zi15448 := Eq.trans (Fr.at (cq := 13011) F16437 kd900 (cd_o (by decide)) (by decide)) eq15447
                        refine p_get (ci := 12) (v := .int zi15448) (C := RX12) (T := TX12) (N := 69) hx hb hT iw_X12 hown hK hw hW kd900 (by decide) rfl rfl 11 (by decide) eq16464 (hT _ tb_1385) (fun _ h9 => h9) dX12_expression_250 ?_
                        have eq16465 : hp16435 qa14832 (zi15448 : Int32).toNatClampNeg = .int zi15473 := Eq.trans (Fr.at (cq := 62000) F16437 kd14833 (cd_a (by decide)) (by decide)) eq15472
                        refine p_iald (v := zi15473) hx hb hK hw hW kd14833 (by decide) rfl (hW.len kd14833 (n := 403) rfl (by decide)) (vp_b bd15463 (by decide) (by decide)) eq16465 dX12_expression_253 ?_
                        refine p_iast (x := zi15473) hx hb hK hw hS hW kd16455 (by decide) rfl (hW.len kd16455 (n := 64) rfl (by decide)) (vp_b bd16462 (by decide) (by decide)) dX12_expression_254 (fun hp16466 eh16467 H locs hw hS => ?_)
                        have ok16468 := wr_89000 ok16436 kd16455 eh16467
                        refine lv_aload_n hx hb dX12_expression_255 rfl (lv_at hl 1 rfl) ?_
                        refine lv_dup hx hb dX12_expression_256 rfl ?_
                        have eq16469 : hp16466 qa900 45 = .int zi16449 := Eq.trans (up_at eh16467 (Or.inl (kd_ne kd900 kd16455 (by decide)))) eq16448
                        refine p_get (ci := 12) (v := .int zi16449) (C := RX12) (T := TX12) (N := 69) hx hb hT iw_X12 hown hK hw hW kd900 (by decide) rfl rfl 45 (by decide) eq16469 (hT _ tb_1419) (fun _ h9 => h9) dX12_expression_257 ?_
                        refine lv_iconst (v := 1) hx hb dX12_expression_260 (by decide) ?_
                        refine lv_iadd hx hb dX12_expression_261 (lv_topi (fun zi16470 ea16471 => ?_))
                        have bd16472 : (1 : Int) ≤ zi16470.toInt ∧ zi16470.toInt ≤ 24 := b_iadd ea16471 bd16462 bc_1 (by decide) (by decide) (by decide) (by decide)
                        have qe16473 : zi16470.toInt = (zi16449 : Int32).toInt + (1 : Int32).toInt := e_iadd ea16471 bd16462 bc_1 (by decide) (by decide)
                        have qe16474 : zi16470.toInt = zi16449.toInt + 1 := by have ha : (1 : Int32).toInt = 1 := (by decide); rw [ha] at qe16473; exact qe16473
                        refine p_put (ci := 12) (v := .int zi16470) (ty := .int) (C := RX12) (T := TX12) (N := 69) hx hb hT iw_X12 tyX12 tyX12_ok nmX12 hown hK hw hS hW kd900 (by decide) rfl rfl 45 (by decide) (hT _ tb_1419) (fun _ h9 => h9) rfl (by decide +kernel) rfl rfl dX12_expression_262 (fun hp16475 eh16476 H locs hw hS => ?_)
                        have ok16477 := wr_13045 bd16472 (by decide) (by decide) ok16468 kd900 eh16476
                        refine lv_aload_n hx hb dX12_expression_265 rfl (lv_at hl 1 rfl) ?_
                        have eq16478 : hp16475 qa900 13 = .int zi15450 := Eq.trans (up_at eh16476 (Or.inr (by decide))) (Eq.trans (up_at eh16467 (Or.inl (kd_ne kd900 kd16455 (by decide)))) (Eq.trans (Fr.at (cq := 13013) F16437 kd900 (cd_o (by decide)) (by decide)) eq15449))
                        have eq16479 : hp16475 qa900 11 = .int zi15448 := Eq.trans (up_at eh16476 (Or.inr (by decide))) (Eq.trans (up_at eh16467 (Or.inl (kd_ne kd900 kd16455 (by decide)))) eq16464)
                        refine kq_v hw hS hA (va_runV (As := []) (rest := []) ⟨hx, hb, hml, hown, hT⟩ (cX12_goesOn_0 l G cy ev K ln Ls hW _ hp16475 ok16477 qa900 kd900) (cwV 0 hT (good_V tb_1639 tb_1636 tb_1638 tb_56 tb_122) rfl rfl rfl (by decide +kernel) ⟨Nat.le_of_ble_eq_true rfl, Nat.le_of_ble_eq_true rfl⟩) (pool_preV (ci := 12) hK hE hS hA hw hW kd900 (by decide) rfl) rfl rfl hl.1 rfl (lv_room (Nat.le_of_ble_eq_true rfl)) dX12_expression_266 ⟨Nat.le_of_ble_eq_true rfl, Nat.le_of_ble_eq_true rfl⟩) (fun hp16480 H locs hq16483 hw hS => ?_)
                        obtain ⟨ok16481, F16482, ⟨zi16485, eq16486, bd16487⟩, rh16488, rh16489, rh16490⟩ := hq16483
                        have hw : PW G cy K ln Ls A hp16480 H := hw
                        obtain ⟨zi16492, eq16491, bd16493⟩ := rd_13013 ok16481 kd900
                        simp only [gi_of eq16478, gi_of eq16479, gi_of eq16486, gi_of eq16491] at rh16488
                        simp only [gi_of eq16478, gi_of eq16491] at rh16489
                        simp only [gi_of eq16479, gi_of eq16486, gi_of eq16491] at rh16490
                        have eq16494 : hp16480 qa900 44 = .ref qa16454 := Eq.trans (Fr.at (cq := 13044) F16482 kd900 (cd_o (by decide)) (by decide)) (Eq.trans (up_at eh16476 (Or.inr (by decide))) (Eq.trans (up_at eh16467 (Or.inl (kd_ne kd900 kd16455 (by decide)))) eq16453))
                        have eq16496 : hp16480 qa900 45 = .int zi16470 := Eq.trans (Fr.at (cq := 13045) F16482 kd900 (cd_o (by decide)) (by decide)) (hp_self eh16476)
                        have eq16497 : hp16480 qa900 12 = .int zi15452 := Eq.trans (Fr.at (cq := 13012) F16482 kd900 (cd_o (by decide)) (by decide)) (Eq.trans (up_at eh16476 (Or.inr (by decide))) (Eq.trans (up_at eh16467 (Or.inl (kd_ne kd900 kd16455 (by decide)))) eq16452))
                        have eq16498 : hp16480 qa900 39 = .ref qa16457 := Eq.trans (Fr.at (cq := 13039) F16482 kd900 (cd_o (by decide)) (by decide)) (Eq.trans (up_at eh16476 (Or.inr (by decide))) (Eq.trans (up_at eh16467 (Or.inl (kd_ne kd900 kd16455 (by decide)))) eq16456))
                        have eq16499 : hp16480 qa900 40 = .ref qa16460 := Eq.trans (Fr.at (cq := 13040) F16482 kd900 (cd_o (by decide)) (by decide)) (Eq.trans (up_at eh16476 (Or.inr (by decide))) (Eq.trans (up_at eh16467 (Or.inl (kd_ne kd900 kd16455 (by decide)))) eq16459))
                        have eq16500 : hp16480 qa900 38 = .int zi16446 := Eq.trans (Fr.at (cq := 13038) F16482 kd900 (cd_o (by decide)) (by decide)) (Eq.trans (up_at eh16476 (Or.inr (by decide))) (Eq.trans (up_at eh16467 (Or.inl (kd_ne kd900 kd16455 (by decide)))) eq16445))
                        have ei16495 : EIx hp16480 qa900 gc0 0 := EI_opr (i := (zi16449 : Int32).toNatClampNeg) (k := zi15473.toInt) xq16440 (CO_opr xq16442 (by have := toi bc_1; omega)) (mA_up eq16453 eq16494 rfl eh16467 (Eq.trans (show hp16480 qa16454 = hp16475 qa16454 from (funext fun i => Fr.at (cq := 89000) F16482 kd16455 (cd_a (by decide)) (by decide))) (show hp16475 qa16454 = hp16466 qa16454 from (by rw [eh16476]; exact up2_row (kd_ne kd16455 kd900 (by decide)))))) (by rw [gi_of eq16448]; have := clampN (x := zi16449) (by omega); omega) (by rw [gi_of eq16496, gi_of eq16448] <;> (omega)) (by rw [gi_of eq16497, gi_of eq16452] <;> (omega)) (mA_eq eq16456 eq16498 (Eq.trans (show hp16480 qa16457 = hp16475 qa16457 from (funext fun i => Fr.at (cq := 84000) F16482 kd16458 (cd_a (by decide)) (by decide))) (Eq.trans (show hp16475 qa16457 = hp16466 qa16457 from (by rw [eh16476]; exact up2_row (kd_ne kd16458 kd900 (by decide)))) (show hp16466 qa16457 = hp16435 qa16457 from (by rw [eh16467]; exact up2_row (kd_ne kd16458 kd16455 (by decide))))))) (mA_eq eq16459 eq16499 (Eq.trans (show hp16480 qa16460 = hp16475 qa16460 from (funext fun i => Fr.at (cq := 85000) F16482 kd16461 (cd_a (by decide)) (by decide))) (Eq.trans (show hp16475 qa16460 = hp16466 qa16460 from (by rw [eh16476]; exact up2_row (kd_ne kd16461 kd900 (by decide)))) (show hp16466 qa16460 = hp16435 qa16460 from (by rw [eh16467]; exact up2_row (kd_ne kd16461 kd16455 (by decide))))))) (by rw [gi_of eq16500, gi_of eq16445] <;> (omega))
                        refine lv_goto (tgt := 12) hx hb dX12_expression_269 (by decide) ?_
                        have eq16501 : hp16480 qa900 19 = .int zi11 := Eq.trans (Fr.at (cq := 13019) F16482 kd900 (cd_o (by decide)) (by decide)) (Eq.trans (up_at eh16476 (Or.inr (by decide))) (Eq.trans (up_at eh16467 (Or.inl (kd_ne kd900 kd16455 (by decide)))) (Eq.trans (Fr.at (cq := 13019) F16437 kd900 (cd_o (by decide)) (by decide)) eq15485)))
                        have pd16502 : LPx hp16480 qa900 := LP_fr ok16436 kd900 (show Fr [13011, 13013, 13014, 13045, 89000] K hp16435 hp16480 from (Fr.tr (Fr.put (cq := 13045) (Fr.put (cq := 89000) (Fr.rf) eh16467 kd16455 (cd_a (by decide)) (by decide)) eh16476 kd900 (cd_o (by decide)) (by decide)) F16482 (by decide))) (by decide) xq16441
                        exact ih14041 hp16480 zi16485 zi16492 zi15452 zi16446 zi16470 _ _ ls (by have := toi bc_1; have := hm14043; omega) ok16481 (Fr.tr (Fr.put (cq := 13045) (Fr.put (cq := 89000) (Fr.tr (Fr.tr (Fr.tr (Fr.tr (Fr.tr (Fr.rf) F8563 (by decide)) F14521 (by decide)) F14853 (by decide)) F15445 (by decide)) F16437 (by decide)) eh16467 kd16455 (cd_a (by decide)) (by decide)) eh16476 kd900 (cd_o (by decide)) (by decide)) F16482 (by decide)) (b_wid2 bd16487 (by decide) (by decide)) eq16486 (b_wid2 bd16493 (by decide) (by decide)) eq16491 (b_wid2 bd15465 (by decide) (by decide)) eq16497 (b_wid2 bd16447 (by decide) (by decide)) eq16500 (b_wid2 bd16472 (by decide) (by decide)) eq16496 (by have := toi bc_1; omega) (by have := toi bc_1; omega) (by have := toi bc_1; omega) (by have := toi bc_1; omega) ei16495 pd16502 (lv_sub hl [1, 2, 0] rfl) hw hS
                    · skip
                      subst cn16346
                      obtain ⟨zi16503, eq16504, bd16505⟩ := hc16342 rfl
                      have hx16506 : zi15450 = zi16503 := Value.int.inj (Eq.trans (Eq.symm eq15449) eq16504)
                      subst hx16506
                      have bd16507 : (0 : Int) ≤ zi15450.toInt ∧ zi15450.toInt ≤ 0 := b_meet bd16333 bd16505 (by decide) (by decide)
                      have rh16508 := rh16343 rfl
                      simp only [ge_of eq15471 eq15447 eq15472, toi bc_10] at rh16508
                      have rh16509 := rh16344 rfl
                      simp only [gi_of eq15449] at rh16509
                      refine lv_if_ne (tgt := 229) hx hb dX12_expression_217 (by decide) (fun _ => ?_) (fun c => absurd c (d_ne bc_1 bc_0 (by decide)))
                      refine lv_iconst (v := 1) hx hb dX12_expression_229 (by decide) ?_
                      refine lv_goto (tgt := 234) hx hb dX12_expression_230 (by decide) ?_
                      refine kq_v hw hS hA (va_runV (As := [.int 1]) (rest := []) ⟨hx, hb, hml, hown, hT⟩ (cX12_comesOut_0 l G cy ev K ln Ls hW _ hp15444 ok15446 qa900 1 gc0 kd900 (b_wid2 bc_1 (by decide) (by decide)) (by simp only [gi_of eq15453, gi_of eq15485, gi_of eq15455]; omega) (by simp only [gi_of eq15455]; omega) jx15461 jx15462) (cwV 1 hT (good_V tb_1715 tb_1712 tb_1714 tb_74 tb_122) rfl rfl rfl (by decide +kernel) ⟨Nat.le_of_ble_eq_true rfl, Nat.le_of_ble_eq_true rfl⟩) (pool_preV (ci := 12) hK hE hS hA hw hW kd900 (by decide) rfl) rfl rfl hl.1 rfl (lv_room (Nat.le_of_ble_eq_true rfl)) dX12_expression_234 ⟨Nat.le_of_ble_eq_true rfl, Nat.le_of_ble_eq_true rfl⟩) (fun hp16510 H locs hq16513 hw hS => ?_)
                      obtain ⟨ok16511, F16512, xq16515, xq16516, xq16517, rh16518, rh16519⟩ := hq16513
                      have hw : PW G cy K ln Ls A hp16510 H := hw
                      obtain ⟨zi16521, eq16520, bd16522⟩ := rd_13038 ok16511 kd900
                      obtain ⟨zi16524, eq16523, bd16525⟩ := rd_13045 ok16511 kd900
                      simp only [gi_of eq15453, gi_of eq15455, gi_of eq16520, gi_of eq16523] at rh16518
                      simp only [gi_of eq15455, gi_of eq16523] at rh16519
                      have el16526 := EI_lin xq16515
                      have eq16527 : hp16510 qa900 12 = .int zi15452 := Eq.trans (Fr.at (cq := 13012) F16512 kd900 (cd_o (by decide)) (by decide)) eq15451
                      rw [gi_of eq16523, gi_of eq16527, gi_of eq16520] at el16526
                      obtain ⟨qa16529, eq16528, kd16530⟩ := rd_13044 ok16511 kd900
                      obtain ⟨qa16532, eq16531, kd16533⟩ := rd_13039 ok16511 kd900
                      obtain ⟨qa16535, eq16534, kd16536⟩ := rd_13040 ok16511 kd900
                      have bd16537 : (0 : Int) ≤ zi16524.toInt ∧ zi16524.toInt ≤ 23 := (by omega)
                      refine lv_aload_n hx hb dX12_expression_237 rfl (lv_at hl 1 rfl) ?_
                      refine p_get (ci := 12) (v := .ref qa16529) (C := RX12) (T := TX12) (N := 69) hx hb hT iw_X12 hown hK hw hW kd900 (by decide) rfl rfl 44 (by decide) eq16528 (hT _ tb_1418) (fun _ h9 => h9) dX12_expression_238 ?_
                      refine lv_aload_n hx hb dX12_expression_241 rfl (lv_at hl 1 rfl) ?_
                      refine p_get (ci := 12) (v := .int zi16524) (C := RX12) (T := TX12) (N := 69) hx hb hT iw_X12 hown hK hw hW kd900 (by decide) rfl rfl 45 (by decide) eq16523 (hT _ tb_1419) (fun _ h9 => h9) dX12_expression_242 ?_
                      refine lv_aload_n hx hb dX12_expression_245 rfl (lv_at hl 1 rfl) ?_
                      have eq16538 : hp16510 qa900 5 = .ref qa14832 := Eq.trans (Fr.at (cq := 13005) F16512 kd900 (cd_o (by decide)) (by decide)) eq15471
                      refine p_get (ci := 12) (v := .ref qa14832) (C := RX12) (T := TX12) (N := 69) hx hb hT iw_X12 hown hK hw hW kd900 (by decide) rfl rfl 5 (by decide) eq16538 (hT _ tb_1379) (fun _ h9 => h9) dX12_expression_246 ?_
                      refine lv_aload_n hx hb dX12_expression_249 rfl (lv_at hl 1 rfl) ?_
                      have eq16539 : hp16510 qa900 11 = .int zi15448 := Eq.trans (Fr.at (cq := 13011) F16512 kd900 (cd_o (by decide)) (by decide)) eq15447
                      refine p_get (ci := 12) (v := .int zi15448) (C := RX12) (T := TX12) (N := 69) hx hb hT iw_X12 hown hK hw hW kd900 (by decide) rfl rfl 11 (by decide) eq16539 (hT _ tb_1385) (fun _ h9 => h9) dX12_expression_250 ?_
                      have eq16540 : hp16510 qa14832 (zi15448 : Int32).toNatClampNeg = .int zi15473 := Eq.trans (Fr.at (cq := 62000) F16512 kd14833 (cd_a (by decide)) (by decide)) eq15472
                      refine p_iald (v := zi15473) hx hb hK hw hW kd14833 (by decide) rfl (hW.len kd14833 (n := 403) rfl (by decide)) (vp_b bd15463 (by decide) (by decide)) eq16540 dX12_expression_253 ?_
                      refine p_iast (x := zi15473) hx hb hK hw hS hW kd16530 (by decide) rfl (hW.len kd16530 (n := 64) rfl (by decide)) (vp_b bd16537 (by decide) (by decide)) dX12_expression_254 (fun hp16541 eh16542 H locs hw hS => ?_)
                      have ok16543 := wr_89000 ok16511 kd16530 eh16542
                      refine lv_aload_n hx hb dX12_expression_255 rfl (lv_at hl 1 rfl) ?_
                      refine lv_dup hx hb dX12_expression_256 rfl ?_
                      have eq16544 : hp16541 qa900 45 = .int zi16524 := Eq.trans (up_at eh16542 (Or.inl (kd_ne kd900 kd16530 (by decide)))) eq16523
                      refine p_get (ci := 12) (v := .int zi16524) (C := RX12) (T := TX12) (N := 69) hx hb hT iw_X12 hown hK hw hW kd900 (by decide) rfl rfl 45 (by decide) eq16544 (hT _ tb_1419) (fun _ h9 => h9) dX12_expression_257 ?_
                      refine lv_iconst (v := 1) hx hb dX12_expression_260 (by decide) ?_
                      refine lv_iadd hx hb dX12_expression_261 (lv_topi (fun zi16545 ea16546 => ?_))
                      have bd16547 : (1 : Int) ≤ zi16545.toInt ∧ zi16545.toInt ≤ 24 := b_iadd ea16546 bd16537 bc_1 (by decide) (by decide) (by decide) (by decide)
                      have qe16548 : zi16545.toInt = (zi16524 : Int32).toInt + (1 : Int32).toInt := e_iadd ea16546 bd16537 bc_1 (by decide) (by decide)
                      have qe16549 : zi16545.toInt = zi16524.toInt + 1 := by have ha : (1 : Int32).toInt = 1 := (by decide); rw [ha] at qe16548; exact qe16548
                      refine p_put (ci := 12) (v := .int zi16545) (ty := .int) (C := RX12) (T := TX12) (N := 69) hx hb hT iw_X12 tyX12 tyX12_ok nmX12 hown hK hw hS hW kd900 (by decide) rfl rfl 45 (by decide) (hT _ tb_1419) (fun _ h9 => h9) rfl (by decide +kernel) rfl rfl dX12_expression_262 (fun hp16550 eh16551 H locs hw hS => ?_)
                      have ok16552 := wr_13045 bd16547 (by decide) (by decide) ok16543 kd900 eh16551
                      refine lv_aload_n hx hb dX12_expression_265 rfl (lv_at hl 1 rfl) ?_
                      have eq16553 : hp16550 qa900 13 = .int zi15450 := Eq.trans (up_at eh16551 (Or.inr (by decide))) (Eq.trans (up_at eh16542 (Or.inl (kd_ne kd900 kd16530 (by decide)))) (Eq.trans (Fr.at (cq := 13013) F16512 kd900 (cd_o (by decide)) (by decide)) eq15449))
                      have eq16554 : hp16550 qa900 11 = .int zi15448 := Eq.trans (up_at eh16551 (Or.inr (by decide))) (Eq.trans (up_at eh16542 (Or.inl (kd_ne kd900 kd16530 (by decide)))) eq16539)
                      refine kq_v hw hS hA (va_runV (As := []) (rest := []) ⟨hx, hb, hml, hown, hT⟩ (cX12_goesOn_0 l G cy ev K ln Ls hW _ hp16550 ok16552 qa900 kd900) (cwV 0 hT (good_V tb_1639 tb_1636 tb_1638 tb_56 tb_122) rfl rfl rfl (by decide +kernel) ⟨Nat.le_of_ble_eq_true rfl, Nat.le_of_ble_eq_true rfl⟩) (pool_preV (ci := 12) hK hE hS hA hw hW kd900 (by decide) rfl) rfl rfl hl.1 rfl (lv_room (Nat.le_of_ble_eq_true rfl)) dX12_expression_266 ⟨Nat.le_of_ble_eq_true rfl, Nat.le_of_ble_eq_true rfl⟩) (fun hp16555 H locs hq16558 hw hS => ?_)
                      obtain ⟨ok16556, F16557, ⟨zi16560, eq16561, bd16562⟩, rh16563, rh16564, rh16565⟩ := hq16558
                      have hw : PW G cy K ln Ls A hp16555 H := hw
                      obtain ⟨zi16567, eq16566, bd16568⟩ := rd_13013 ok16556 kd900
                      simp only [gi_of eq16553, gi_of eq16554, gi_of eq16561, gi_of eq16566] at rh16563
                      simp only [gi_of eq16553, gi_of eq16566] at rh16564
                      simp only [gi_of eq16554, gi_of eq16561, gi_of eq16566] at rh16565
                      have eq16569 : hp16555 qa900 44 = .ref qa16529 := Eq.trans (Fr.at (cq := 13044) F16557 kd900 (cd_o (by decide)) (by decide)) (Eq.trans (up_at eh16551 (Or.inr (by decide))) (Eq.trans (up_at eh16542 (Or.inl (kd_ne kd900 kd16530 (by decide)))) eq16528))
                      have eq16571 : hp16555 qa900 45 = .int zi16545 := Eq.trans (Fr.at (cq := 13045) F16557 kd900 (cd_o (by decide)) (by decide)) (hp_self eh16551)
                      have eq16572 : hp16555 qa900 12 = .int zi15452 := Eq.trans (Fr.at (cq := 13012) F16557 kd900 (cd_o (by decide)) (by decide)) (Eq.trans (up_at eh16551 (Or.inr (by decide))) (Eq.trans (up_at eh16542 (Or.inl (kd_ne kd900 kd16530 (by decide)))) eq16527))
                      have eq16573 : hp16555 qa900 39 = .ref qa16532 := Eq.trans (Fr.at (cq := 13039) F16557 kd900 (cd_o (by decide)) (by decide)) (Eq.trans (up_at eh16551 (Or.inr (by decide))) (Eq.trans (up_at eh16542 (Or.inl (kd_ne kd900 kd16530 (by decide)))) eq16531))
                      have eq16574 : hp16555 qa900 40 = .ref qa16535 := Eq.trans (Fr.at (cq := 13040) F16557 kd900 (cd_o (by decide)) (by decide)) (Eq.trans (up_at eh16551 (Or.inr (by decide))) (Eq.trans (up_at eh16542 (Or.inl (kd_ne kd900 kd16530 (by decide)))) eq16534))
                      have eq16575 : hp16555 qa900 38 = .int zi16521 := Eq.trans (Fr.at (cq := 13038) F16557 kd900 (cd_o (by decide)) (by decide)) (Eq.trans (up_at eh16551 (Or.inr (by decide))) (Eq.trans (up_at eh16542 (Or.inl (kd_ne kd900 kd16530 (by decide)))) eq16520))
                      have ei16570 : EIx hp16555 qa900 gc0 0 := EI_opr (i := (zi16524 : Int32).toNatClampNeg) (k := zi15473.toInt) xq16515 (CO_opr xq16517 (by have := toi bc_1; omega)) (mA_up eq16528 eq16569 rfl eh16542 (Eq.trans (show hp16555 qa16529 = hp16550 qa16529 from (funext fun i => Fr.at (cq := 89000) F16557 kd16530 (cd_a (by decide)) (by decide))) (show hp16550 qa16529 = hp16541 qa16529 from (by rw [eh16551]; exact up2_row (kd_ne kd16530 kd900 (by decide)))))) (by rw [gi_of eq16523]; have := clampN (x := zi16524) (by omega); omega) (by rw [gi_of eq16571, gi_of eq16523] <;> (omega)) (by rw [gi_of eq16572, gi_of eq16527] <;> (omega)) (mA_eq eq16531 eq16573 (Eq.trans (show hp16555 qa16532 = hp16550 qa16532 from (funext fun i => Fr.at (cq := 84000) F16557 kd16533 (cd_a (by decide)) (by decide))) (Eq.trans (show hp16550 qa16532 = hp16541 qa16532 from (by rw [eh16551]; exact up2_row (kd_ne kd16533 kd900 (by decide)))) (show hp16541 qa16532 = hp16510 qa16532 from (by rw [eh16542]; exact up2_row (kd_ne kd16533 kd16530 (by decide))))))) (mA_eq eq16534 eq16574 (Eq.trans (show hp16555 qa16535 = hp16550 qa16535 from (funext fun i => Fr.at (cq := 85000) F16557 kd16536 (cd_a (by decide)) (by decide))) (Eq.trans (show hp16550 qa16535 = hp16541 qa16535 from (by rw [eh16551]; exact up2_row (kd_ne kd16536 kd900 (by decide)))) (show hp16541 qa16535 = hp16510 qa16535 from (by rw [eh16542]; exact up2_row (kd_ne kd16536 kd16530 (by decide))))))) (by rw [gi_of eq16575, gi_of eq16520] <;> (omega))
                      refine lv_goto (tgt := 12) hx hb dX12_expression_269 (by decide) ?_
                      have eq16576 : hp16555 qa900 19 = .int zi11 := Eq.trans (Fr.at (cq := 13019) F16557 kd900 (cd_o (by decide)) (by decide)) (Eq.trans (up_at eh16551 (Or.inr (by decide))) (Eq.trans (up_at eh16542 (Or.inl (kd_ne kd900 kd16530 (by decide)))) (Eq.trans (Fr.at (cq := 13019) F16512 kd900 (cd_o (by decide)) (by decide)) eq15485)))
                      have pd16577 : LPx hp16555 qa900 := LP_fr ok16511 kd900 (show Fr [13011, 13013, 13014, 13045, 89000] K hp16510 hp16555 from (Fr.tr (Fr.put (cq := 13045) (Fr.put (cq := 89000) (Fr.rf) eh16542 kd16530 (cd_a (by decide)) (by decide)) eh16551 kd900 (cd_o (by decide)) (by decide)) F16557 (by decide))) (by decide) xq16516
                      exact ih14041 hp16555 zi16560 zi16567 zi15452 zi16521 zi16545 _ _ ls (by have := toi bc_1; have := hm14043; omega) ok16556 (Fr.tr (Fr.put (cq := 13045) (Fr.put (cq := 89000) (Fr.tr (Fr.tr (Fr.tr (Fr.tr (Fr.tr (Fr.rf) F8563 (by decide)) F14521 (by decide)) F14853 (by decide)) F15445 (by decide)) F16512 (by decide)) eh16542 kd16530 (cd_a (by decide)) (by decide)) eh16551 kd900 (cd_o (by decide)) (by decide)) F16557 (by decide)) (b_wid2 bd16562 (by decide) (by decide)) eq16561 (b_wid2 bd16568 (by decide) (by decide)) eq16566 (b_wid2 bd15465 (by decide) (by decide)) eq16572 (b_wid2 bd16522 (by decide) (by decide)) eq16575 (b_wid2 bd16547 (by decide) (by decide)) eq16571 (by have := toi bc_1; omega) (by have := toi bc_1; omega) (by have := toi bc_1; omega) (by have := toi bc_1; omega) ei16570 pd16577 (lv_sub hl [1, 2, 0] rfl) hw hS
                have lp16580 : ∀ (n16578 : Nat) (hp15222 : Nat → Nat → Value) (zi15226 : Int32) (zi15228 : Int32) (zi15230 : Int32) (zi15232 : Int32) (zi15234 : Int32) (H : Heap) (locs : List Loc) (ls : Array Slot), 1602 - 4*zi15226.toInt - zi15228.toInt < (n16578 : Int) → Ok K hp15222 → Fr [13011, 13012, 13013, 13014, 13038, 13045, 84000, 85000] K hp14851 hp15222 → ((0 : Int) ≤ zi15226.toInt ∧ zi15226.toInt ≤ 400) → hp15222 qa900 11 = .int zi15226 → ((0 : Int) ≤ zi15228.toInt ∧ zi15228.toInt ≤ 2) → hp15222 qa900 13 = .int zi15228 → ((0 : Int) ≤ zi15230.toInt ∧ zi15230.toInt ≤ 7) → hp15222 qa900 12 = .int zi15230 → ((0 : Int) ≤ zi15232.toInt ∧ zi15232.toInt ≤ 840) → hp15222 qa900 38 = .int zi15232 → ((0 : Int) ≤ zi15234.toInt ∧ zi15234.toInt ≤ 24) → hp15222 qa900 45 = .int zi15234 → (4*zi15226.toInt + zi15228.toInt ≥ 4*zi14866.toInt + zi14863.toInt) → (zi15228.toInt ≥ zi14863.toInt) → (zi15230.toInt ≤ 6 + zi15228.toInt) → (zi15232.toInt + zi15234.toInt ≤ 420*zi11.toInt + zi15226.toInt + zi15228.toInt) → (EIx hp15222 qa900 gc0 1) → (LPx hp15222 qa900) → lv_has ls 3 [(0, .ref qa900), (1, .int zi8)] → PW G cy K ln Ls A hp15222 H → va_S A s.heap H locs → W p l e ({ frames := 3, cells := 0, slots := 0, locals := 61 } : Room) s m ([.ref qa900] : List Value).toArray below meth c H locs 0 0 Q (F0 m 96 ls []) := by
                  intro n16578
                  induction n16578 with
                  | zero =>
                    intro hp15222 zi15226 zi15228 zi15230 zi15232 zi15234 H locs ls hm16581 ok15224 F15223 bd15241 eq15225 bd15242 eq15227 bd15243 eq15229 bd15244 eq15231 bd15245 eq15233 rq15235 rq15236 rq15237 rq15238 jx15239 jx15240 hl hw hS
                    exact absurd hm16581 (by omega)
                  | succ n16578 ih16579 =>
                    intro hp15222 zi15226 zi15228 zi15230 zi15232 zi15234 H locs ls hm16581 ok15224 F15223 bd15241 eq15225 bd15242 eq15227 bd15243 eq15229 bd15244 eq15231 bd15245 eq15233 rq15235 rq15236 rq15237 rq15238 jx15239 jx15240 hl hw hS
                    refine lv_aload_n hx hb dX12_expression_96 rfl (lv_at hl 0 rfl) ?_
                    refine lv_bipush (v := 7) hx hb dX12_expression_97 (by decide) ?_
                    have eq16583 : hp15222 qa900 5 = .ref qa14832 := Eq.trans (Fr.at (cq := 13005) F15223 kd900 (cd_o (by decide)) (by decide)) (Eq.trans (Fr.at (cq := 13005) F14853 kd900 (cd_o (by decide)) (by decide)) eq14831)
                    obtain ⟨zi16585, eq16584⟩ := rd_62000 ok15224 kd14833 ((zi15226 : Int32).toNatClampNeg)
                    refine kq_i hw hS hA (va_runV (As := [.int 7]) (rest := []) ⟨hx, hb, hml, hown, hT⟩ (cX12_is_0 l G cy ev K ln Ls hW _ hp15222 ok15224 qa900 7 kd900) (cwV 1 hT (good_V tb_1623 tb_1620 tb_1622 tb_52 tb_122) rfl rfl rfl (by decide +kernel) ⟨Nat.le_of_ble_eq_true rfl, Nat.le_of_ble_eq_true rfl⟩) (pool_preV (ci := 12) hK hE hS hA hw hW kd900 (by decide) rfl) rfl rfl hl.1 rfl (lv_room (Nat.le_of_ble_eq_true rfl)) dX12_expression_99 ⟨Nat.le_of_ble_eq_true rfl, Nat.le_of_ble_eq_true rfl⟩) (fun zi16590 hp16586 H locs hq16589 hw hS => ?_)
                    obtain ⟨ok16587, F16588, bd16591, hc16592, rh16593, rh16594, rh16595⟩ := hq16589
                    obtain rfl : hp15222 = hp16586 := (Fr.nil F16588).symm
                    have hw : PW G cy K ln Ls A hp15222 H := hw
                    have eq16597 : hp15222 qa900 19 = .int zi11 := Eq.trans (Fr.at (cq := 13019) F15223 kd900 (cd_o (by decide)) (by decide)) eq14871
                    rcases b01 bd16591 with cn16596 | cn16596
                    · skip
                      subst cn16596
                      have rh16598 := rh16595 rfl
                      simp only [ge_of eq16583 eq15225 eq16584, gi_of eq15227, toi bc_7] at rh16598
                      refine lv_if_eq (tgt := 145) hx hb dX12_expression_102 (by decide) (fun _ => ?_) (fun c => absurd (d_eq bc_0 bc_0) c)
                      exact jn15468 hp15222 zi15226 zi15228 zi15230 zi15232 zi15234 _ _ ls ok15224 (Fr.tr (Fr.rf) F15223 (by decide)) (b_wid2 bd15241 (by decide) (by decide)) eq15225 (b_wid2 bd15242 (by decide) (by decide)) eq15227 (b_wid2 bd15243 (by decide) (by decide)) eq15229 (b_wid2 bd15244 (by decide) (by decide)) eq15231 (b_wid2 bd15245 (by decide) (by decide)) eq15233 (by omega) (by omega) (by omega) (by omega) jx15239 jx15240 (lv_sub hl [0, 1] rfl) hw hS
                    · skip
                      subst cn16596
                      obtain ⟨zi16599, eq16600, bd16601⟩ := hc16592 rfl
                      have hx16602 : zi15228 = zi16599 := Value.int.inj (Eq.trans (Eq.symm eq15227) eq16600)
                      subst hx16602
                      have bd16603 : (0 : Int) ≤ zi15228.toInt ∧ zi15228.toInt ≤ 0 := b_meet bd15242 bd16601 (by decide) (by decide)
                      have rh16604 := rh16593 rfl
                      simp only [ge_of eq16583 eq15225 eq16584, toi bc_7] at rh16604
                      have rh16605 := rh16594 rfl
                      simp only [gi_of eq15227] at rh16605
                      refine lv_if_eq (tgt := 145) hx hb dX12_expression_102 (by decide) (fun c => absurd c (d_ne bc_1 bc_0 (by decide))) (fun _ => ?_)
                      refine lv_aload_n hx hb dX12_expression_105 rfl (lv_at hl 0 rfl) ?_
                      refine p_get (ci := 12) (v := .int zi15230) (C := RX12) (T := TX12) (N := 69) hx hb hT iw_X12 hown hK hw hW kd900 (by decide) rfl rfl 12 (by decide) eq15229 (hT _ tb_1386) (fun _ h9 => h9) dX12_expression_106 ?_
                      refine lv_iload_n hx hb dX12_expression_109 rfl (lv_at hl 1 rfl) ?_
                      refine lv_icmp_le (tgt := 145) hx hb dX12_expression_110 (by decide) (fun cn16606 => ?_) (fun cn16606 => ?_)
                      · skip
                        have tf16607 : zi15230.toInt ≤ zi8.toInt := (fa_le _ _).mp cn16606
                        have bd16608 : (0 : Int) ≤ zi15230.toInt ∧ zi15230.toInt ≤ 0 := r_le_x cn16606 bd15243 bd19 (by decide) (by decide)
                        exact jn15468 hp15222 zi15226 zi15228 zi15230 zi15232 zi15234 _ _ ls ok15224 (Fr.tr (Fr.rf) F15223 (by decide)) (b_wid2 bd15241 (by decide) (by decide)) eq15225 (b_wid2 bd16603 (by decide) (by decide)) eq15227 (b_wid2 bd16608 (by decide) (by decide)) eq15229 (b_wid2 bd15244 (by decide) (by decide)) eq15231 (b_wid2 bd15245 (by decide) (by decide)) eq15233 (by omega) (by omega) (by omega) (by omega) jx15239 jx15240 (lv_sub hl [0, 1] rfl) hw hS
                      · skip
                        have tf16609 : zi8.toInt < zi15230.toInt := (fa_lt _ _).mp (Int32.not_le.mp cn16606)
                        have bd16610 : (1 : Int) ≤ zi15230.toInt ∧ zi15230.toInt ≤ 7 := r_lt_y (Int32.not_le.mp cn16606) bd19 bd15243 (by decide) (by decide)
                        have el16611 := EI_lin jx15239
                        rw [gi_of eq15233, gi_of eq15229, gi_of eq15231] at el16611
                        have bd16612 : (0 : Int) ≤ zi15234.toInt ∧ zi15234.toInt ≤ 23 := (by omega)
                        refine lv_aload_n hx hb dX12_expression_113 rfl (lv_at hl 0 rfl) ?_
                        refine lv_iconst (v := 0) hx hb dX12_expression_114 (by decide) ?_
                        refine kq_v hw hS hA (va_runV (As := [.int 0]) (rest := []) ⟨hx, hb, hml, hown, hT⟩ (cX12_comesOut_0 l G cy ev K ln Ls hW _ hp15222 ok15224 qa900 0 gc0 kd900 (b_wid2 bc_0 (by decide) (by decide)) (by simp only [gi_of eq15231, gi_of eq16597, gi_of eq15233]; omega) (by simp only [gi_of eq15233]; omega) jx15239 jx15240) (cwV 1 hT (good_V tb_1715 tb_1712 tb_1714 tb_74 tb_122) rfl rfl rfl (by decide +kernel) ⟨Nat.le_of_ble_eq_true rfl, Nat.le_of_ble_eq_true rfl⟩) (pool_preV (ci := 12) hK hE hS hA hw hW kd900 (by decide) rfl) rfl rfl hl.1 rfl (lv_room (Nat.le_of_ble_eq_true rfl)) dX12_expression_115 ⟨Nat.le_of_ble_eq_true rfl, Nat.le_of_ble_eq_true rfl⟩) (fun hp16613 H locs hq16616 hw hS => ?_)
                        obtain ⟨ok16614, F16615, xq16618, xq16619, xq16620, rh16621, rh16622⟩ := hq16616
                        have hw : PW G cy K ln Ls A hp16613 H := hw
                        obtain ⟨zi16624, eq16623, bd16625⟩ := rd_13038 ok16614 kd900
                        obtain ⟨zi16627, eq16626, bd16628⟩ := rd_13045 ok16614 kd900
                        simp only [gi_of eq15231, gi_of eq15233, gi_of eq16623, gi_of eq16626] at rh16621
                        simp only [gi_of eq15233, gi_of eq16626] at rh16622
                        have el16629 := EI_lin xq16618
                        have eq16630 : hp16613 qa900 12 = .int zi15230 := Eq.trans (Fr.at (cq := 13012) F16615 kd900 (cd_o (by decide)) (by decide)) eq15229
                        rw [gi_of eq16626, gi_of eq16630, gi_of eq16623] at el16629
                        obtain ⟨qa16632, eq16631, kd16633⟩ := rd_13044 ok16614 kd900
                        obtain ⟨qa16635, eq16634, kd16636⟩ := rd_13039 ok16614 kd900
                        obtain ⟨qa16638, eq16637, kd16639⟩ := rd_13040 ok16614 kd900
                        have h616640 := CO_6 xq16620 (by decide) (by rw [gi_of eq16626]; omega)
                        have bd16641 : (1 : Int) ≤ zi16627.toInt ∧ zi16627.toInt ≤ 23 := (by omega)
                        refine lv_aload_n hx hb dX12_expression_118 rfl (lv_at hl 0 rfl) ?_
                        refine lv_dup hx hb dX12_expression_119 rfl ?_
                        refine p_get (ci := 12) (v := .int zi16627) (C := RX12) (T := TX12) (N := 69) hx hb hT iw_X12 hown hK hw hW kd900 (by decide) rfl rfl 45 (by decide) eq16626 (hT _ tb_1419) (fun _ h9 => h9) dX12_expression_120 ?_
                        refine lv_iconst (v := 1) hx hb dX12_expression_123 (by decide) ?_
                        refine lv_isub hx hb dX12_expression_124 (lv_topi (fun zi16642 ea16643 => ?_))
                        have bd16644 : (0 : Int) ≤ zi16642.toInt ∧ zi16642.toInt ≤ 22 := b_isub ea16643 bd16641 bc_1 (by decide) (by decide) (by decide) (by decide)
                        have qe16645 : zi16642.toInt = (zi16627 : Int32).toInt - (1 : Int32).toInt := e_isub ea16643 bd16641 bc_1 (by decide) (by decide)
                        have qe16646 : zi16642.toInt = zi16627.toInt - 1 := by have ha : (1 : Int32).toInt = 1 := (by decide); rw [ha] at qe16645; exact qe16645
                        refine p_put (ci := 12) (v := .int zi16642) (ty := .int) (C := RX12) (T := TX12) (N := 69) hx hb hT iw_X12 tyX12 tyX12_ok nmX12 hown hK hw hS hW kd900 (by decide) rfl rfl 45 (by decide) (hT _ tb_1419) (fun _ h9 => h9) rfl (by decide +kernel) rfl rfl dX12_expression_125 (fun hp16647 eh16648 H locs hw hS => ?_)
                        have ok16649 := wr_13045 bd16644 (by decide) (by decide) ok16614 kd900 eh16648
                        refine lv_aload_n hx hb dX12_expression_128 rfl (lv_at hl 0 rfl) ?_
                        refine lv_dup hx hb dX12_expression_129 rfl ?_
                        have eq16650 : hp16647 qa900 12 = .int zi15230 := Eq.trans (up_at eh16648 (Or.inr (by decide))) eq16630
                        refine p_get (ci := 12) (v := .int zi15230) (C := RX12) (T := TX12) (N := 69) hx hb hT iw_X12 hown hK hw hW kd900 (by decide) rfl rfl 12 (by decide) eq16650 (hT _ tb_1386) (fun _ h9 => h9) dX12_expression_130 ?_
                        refine lv_iconst (v := 1) hx hb dX12_expression_133 (by decide) ?_
                        refine lv_isub hx hb dX12_expression_134 (lv_topi (fun zi16651 ea16652 => ?_))
                        have bd16653 : (0 : Int) ≤ zi16651.toInt ∧ zi16651.toInt ≤ 6 := b_isub ea16652 bd16610 bc_1 (by decide) (by decide) (by decide) (by decide)
                        have qe16654 : zi16651.toInt = (zi15230 : Int32).toInt - (1 : Int32).toInt := e_isub ea16652 bd16610 bc_1 (by decide) (by decide)
                        have qe16655 : zi16651.toInt = zi15230.toInt - 1 := by have ha : (1 : Int32).toInt = 1 := (by decide); rw [ha] at qe16654; exact qe16654
                        refine p_put (ci := 12) (v := .int zi16651) (ty := .int) (C := RX12) (T := TX12) (N := 69) hx hb hT iw_X12 tyX12 tyX12_ok nmX12 hown hK hw hS hW kd900 (by decide) rfl rfl 12 (by decide) (hT _ tb_1386) (fun _ h9 => h9) rfl (by decide +kernel) rfl rfl dX12_expression_135 (fun hp16656 eh16657 H locs hw hS => ?_)
                        have ok16658 := wr_13012 bd16653 (by decide) (by decide) ok16649 kd900 eh16657
                        refine lv_aload_n hx hb dX12_expression_138 rfl (lv_at hl 0 rfl) ?_
                        have eq16659 : hp16656 qa900 13 = .int zi15228 := Eq.trans (up_at eh16657 (Or.inr (by decide))) (Eq.trans (up_at eh16648 (Or.inr (by decide))) (Eq.trans (Fr.at (cq := 13013) F16615 kd900 (cd_o (by decide)) (by decide)) eq15227))
                        have eq16660 : hp16656 qa900 11 = .int zi15226 := Eq.trans (up_at eh16657 (Or.inr (by decide))) (Eq.trans (up_at eh16648 (Or.inr (by decide))) (Eq.trans (Fr.at (cq := 13011) F16615 kd900 (cd_o (by decide)) (by decide)) eq15225))
                        refine kq_v hw hS hA (va_runV (As := []) (rest := []) ⟨hx, hb, hml, hown, hT⟩ (cX12_goesOn_0 l G cy ev K ln Ls hW _ hp16656 ok16658 qa900 kd900) (cwV 0 hT (good_V tb_1639 tb_1636 tb_1638 tb_56 tb_122) rfl rfl rfl (by decide +kernel) ⟨Nat.le_of_ble_eq_true rfl, Nat.le_of_ble_eq_true rfl⟩) (pool_preV (ci := 12) hK hE hS hA hw hW kd900 (by decide) rfl) rfl rfl hl.1 rfl (lv_room (Nat.le_of_ble_eq_true rfl)) dX12_expression_139 ⟨Nat.le_of_ble_eq_true rfl, Nat.le_of_ble_eq_true rfl⟩) (fun hp16661 H locs hq16664 hw hS => ?_)
                        obtain ⟨ok16662, F16663, ⟨zi16666, eq16667, bd16668⟩, rh16669, rh16670, rh16671⟩ := hq16664
                        have hw : PW G cy K ln Ls A hp16661 H := hw
                        obtain ⟨zi16673, eq16672, bd16674⟩ := rd_13013 ok16662 kd900
                        simp only [gi_of eq16659, gi_of eq16660, gi_of eq16667, gi_of eq16672] at rh16669
                        simp only [gi_of eq16659, gi_of eq16672] at rh16670
                        simp only [gi_of eq16660, gi_of eq16667, gi_of eq16672] at rh16671
                        have eq16676 : hp16661 qa900 44 = .ref qa16632 := Eq.trans (Fr.at (cq := 13044) F16663 kd900 (cd_o (by decide)) (by decide)) (Eq.trans (up_at eh16657 (Or.inr (by decide))) (Eq.trans (up_at eh16648 (Or.inr (by decide))) eq16631))
                        have eq16677 : hp16661 qa900 45 = .int zi16642 := Eq.trans (Fr.at (cq := 13045) F16663 kd900 (cd_o (by decide)) (by decide)) (Eq.trans (up_at eh16657 (Or.inr (by decide))) (hp_self eh16648))
                        have eq16678 : hp16661 qa900 12 = .int zi16651 := Eq.trans (Fr.at (cq := 13012) F16663 kd900 (cd_o (by decide)) (by decide)) (hp_self eh16657)
                        have eq16679 : hp16661 qa900 39 = .ref qa16635 := Eq.trans (Fr.at (cq := 13039) F16663 kd900 (cd_o (by decide)) (by decide)) (Eq.trans (up_at eh16657 (Or.inr (by decide))) (Eq.trans (up_at eh16648 (Or.inr (by decide))) eq16634))
                        have eq16680 : hp16661 qa900 40 = .ref qa16638 := Eq.trans (Fr.at (cq := 13040) F16663 kd900 (cd_o (by decide)) (by decide)) (Eq.trans (up_at eh16657 (Or.inr (by decide))) (Eq.trans (up_at eh16648 (Or.inr (by decide))) eq16637))
                        have eq16681 : hp16661 qa900 38 = .int zi16624 := Eq.trans (Fr.at (cq := 13038) F16663 kd900 (cd_o (by decide)) (by decide)) (Eq.trans (up_at eh16657 (Or.inr (by decide))) (Eq.trans (up_at eh16648 (Or.inr (by decide))) eq16623))
                        have ei16675 : EIx hp16661 qa900 gc0 1 := EI_close xq16618 (by rw [gi_of eq16626]; omega) h616640 (mA_eq eq16631 eq16676 (Eq.trans (show hp16661 qa16632 = hp16656 qa16632 from (funext fun i => Fr.at (cq := 89000) F16663 kd16633 (cd_a (by decide)) (by decide))) (Eq.trans (show hp16656 qa16632 = hp16647 qa16632 from (by rw [eh16657]; exact up2_row (kd_ne kd16633 kd900 (by decide)))) (show hp16647 qa16632 = hp16613 qa16632 from (by rw [eh16648]; exact up2_row (kd_ne kd16633 kd900 (by decide))))))) (by rw [gi_of eq16677, gi_of eq16626] <;> (omega)) (by rw [gi_of eq16678, gi_of eq16630] <;> (omega)) (mA_eq eq16634 eq16679 (Eq.trans (show hp16661 qa16635 = hp16656 qa16635 from (funext fun i => Fr.at (cq := 84000) F16663 kd16636 (cd_a (by decide)) (by decide))) (Eq.trans (show hp16656 qa16635 = hp16647 qa16635 from (by rw [eh16657]; exact up2_row (kd_ne kd16636 kd900 (by decide)))) (show hp16647 qa16635 = hp16613 qa16635 from (by rw [eh16648]; exact up2_row (kd_ne kd16636 kd900 (by decide))))))) (mA_eq eq16637 eq16680 (Eq.trans (show hp16661 qa16638 = hp16656 qa16638 from (funext fun i => Fr.at (cq := 85000) F16663 kd16639 (cd_a (by decide)) (by decide))) (Eq.trans (show hp16656 qa16638 = hp16647 qa16638 from (by rw [eh16657]; exact up2_row (kd_ne kd16639 kd900 (by decide)))) (show hp16647 qa16638 = hp16613 qa16638 from (by rw [eh16648]; exact up2_row (kd_ne kd16639 kd900 (by decide))))))) (by rw [gi_of eq16681, gi_of eq16623] <;> (omega))
                        refine lv_goto (tgt := 96) hx hb dX12_expression_142 (by decide) ?_
                        have eq16682 : hp16661 qa900 19 = .int zi11 := Eq.trans (Fr.at (cq := 13019) F16663 kd900 (cd_o (by decide)) (by decide)) (Eq.trans (up_at eh16657 (Or.inr (by decide))) (Eq.trans (up_at eh16648 (Or.inr (by decide))) (Eq.trans (Fr.at (cq := 13019) F16615 kd900 (cd_o (by decide)) (by decide)) eq16597)))
                        have pd16683 : LPx hp16661 qa900 := LP_fr ok16614 kd900 (show Fr [13011, 13012, 13013, 13014, 13045] K hp16613 hp16661 from (Fr.tr (Fr.put (cq := 13012) (Fr.put (cq := 13045) (Fr.rf) eh16648 kd900 (cd_o (by decide)) (by decide)) eh16657 kd900 (cd_o (by decide)) (by decide)) F16663 (by decide))) (by decide) xq16619
                        exact ih16579 hp16661 zi16666 zi16673 zi16651 zi16624 zi16642 _ _ ls (by have := hm16581; omega) ok16662 (Fr.tr (Fr.put (cq := 13012) (Fr.put (cq := 13045) (Fr.tr (Fr.tr (Fr.rf) F15223 (by decide)) F16615 (by decide)) eh16648 kd900 (cd_o (by decide)) (by decide)) eh16657 kd900 (cd_o (by decide)) (by decide)) F16663 (by decide)) (b_wid2 bd16668 (by decide) (by decide)) eq16667 (b_wid2 bd16674 (by decide) (by decide)) eq16672 (b_wid2 bd16653 (by decide) (by decide)) eq16678 (b_wid2 bd16625 (by decide) (by decide)) eq16681 (b_wid2 bd16644 (by decide) (by decide)) eq16677 (by omega) (by omega) (by omega) (by omega) ei16675 pd16683 (lv_sub hl [0, 1] rfl) hw hS
                exact lp16580 _ hp14851 zi14866 zi14863 zi14532 zi14869 zi14534 _ _ ls (lp_in _) ok14852 (Fr.rf) (b_wid2 bd14867 (by decide) (by decide)) eq14865 (b_wid2 bd14875 (by decide) (by decide)) eq14862 (b_wid2 bd14543 (by decide) (by decide)) eq14874 (b_wid2 bd14870 (by decide) (by decide)) eq14868 (b_wid2 bd14544 (by decide) (by decide)) eq14872 (by omega) (by omega) (by omega) (by omega) (xq14857 (by rw [gi_of eq14862]; omega)) xq14856 (lv_sub hl [0, 1] rfl) hw hS
              · skip
                have bd16684 : (1 : Int) ≤ zi14863.toInt ∧ zi14863.toInt ≤ 2 := r_lt_y (Int32.not_le.mp cn14873) bc_0 bd14864 (by decide) (by decide)
                rw [hQ]
                exact kz_v hx hb hr hlocks hS hp14851 hw ⟨ok14852, (Fr.tr (Fr.tr (Fr.tr (Fr.put (cq := 13045) (Fr.rf) eh21 kd900 (cd_o (by decide)) (by decide)) F8563 (by decide)) F14521 (by decide)) F14853 (by decide)), (xq14856), (fun h => absurd h (by rw [gi_of eq14862]; omega)), (by simp only [gi_of eq13, gi_of eq14862, gi_of eq14865, gi_of eq4]; omega), (by simp only [gi_of eq14862, gi_of eq4]; omega), (by simp only [gi_of eq14862, gi_of eq14874]; omega), (by simp only [gi_of eq14862, gi_of eq14865, gi_of eq14868, gi_of eq14871]; omega)⟩ (Nat.le_of_ble_eq_true rfl) (Nat.le_of_ble_eq_true rfl) dX12_expression_95
            · skip
              subst cn14846
              obtain ⟨zi16685, eq16686, bd16687⟩ := hc14842 rfl
              have hx16688 : zi14530 = zi16685 := Value.int.inj (Eq.trans (Eq.symm eq14529) eq16686)
              subst hx16688
              have bd16689 : (0 : Int) ≤ zi14530.toInt ∧ zi14530.toInt ≤ 0 := b_meet bd14542 bd16687 (by decide) (by decide)
              have rh16690 := rh14843 rfl
              simp only [ge_of eq14831 eq14525 eq14834, toi bc_6] at rh16690
              have rh16691 := rh14844 rfl
              simp only [gi_of eq14529] at rh16691
              refine lv_if_eq (tgt := 84) hx hb dX12_expression_29 (by decide) (fun c => absurd c (d_ne bc_1 bc_0 (by decide))) (fun _ => ?_)
              have el16692 := EI_lin jx14539
              rw [gi_of eq14533, gi_of eq14531, gi_of eq14847] at el16692
              obtain ⟨qa16694, eq16693, kd16695⟩ := rd_13044 ok14522 kd900
              obtain ⟨qa16697, eq16696, kd16698⟩ := rd_13039 ok14522 kd900
              obtain ⟨qa16700, eq16699, kd16701⟩ := rd_13040 ok14522 kd900
              have bd16702 : (0 : Int) ≤ zi14534.toInt ∧ zi14534.toInt ≤ 23 := (by omega)
              have bd16703 : (0 : Int) ≤ zi14532.toInt ∧ zi14532.toInt ≤ 6 := (by omega)
              refine lv_aload_n hx hb dX12_expression_32 rfl (lv_at hl 0 rfl) ?_
              refine p_get (ci := 12) (v := .int zi14532) (C := RX12) (T := TX12) (N := 69) hx hb hT iw_X12 hown hK hw hW kd900 (by decide) rfl rfl 12 (by decide) eq14531 (hT _ tb_1386) (fun _ h9 => h9) dX12_expression_33 ?_
              refine lv_bipush (v := 6) hx hb dX12_expression_36 (by decide) ?_
              refine lv_icmp_ne (tgt := 46) hx hb dX12_expression_38 (by decide) (fun cn16704 => ?_) (fun cn16704 => ?_)
              · skip
                have tf16705 : (zi14532 : Int32).toInt ≠ (6 : Int32).toInt := fun e => cn16704 (Int32.toInt_inj.mp e)
                have := toi bc_6
                have bd16706 : (0 : Int) ≤ zi14532.toInt ∧ zi14532.toInt ≤ 5 := r_ne_hi cn16704 bd16703 (toi bc_6) (by decide) (by decide)
                refine lv_aload_n hx hb dX12_expression_46 rfl (lv_at hl 0 rfl) ?_
                refine lv_dup hx hb dX12_expression_47 rfl ?_
                refine p_get (ci := 12) (v := .int zi14532) (C := RX12) (T := TX12) (N := 69) hx hb hT iw_X12 hown hK hw hW kd900 (by decide) rfl rfl 12 (by decide) eq14531 (hT _ tb_1386) (fun _ h9 => h9) dX12_expression_48 ?_
                refine lv_iconst (v := 1) hx hb dX12_expression_51 (by decide) ?_
                refine lv_iadd hx hb dX12_expression_52 (lv_topi (fun zi16707 ea16708 => ?_))
                have bd16709 : (1 : Int) ≤ zi16707.toInt ∧ zi16707.toInt ≤ 6 := b_iadd ea16708 bd16706 bc_1 (by decide) (by decide) (by decide) (by decide)
                have qe16710 : zi16707.toInt = (zi14532 : Int32).toInt + (1 : Int32).toInt := e_iadd ea16708 bd16706 bc_1 (by decide) (by decide)
                have qe16711 : zi16707.toInt = zi14532.toInt + 1 := by have ha : (1 : Int32).toInt = 1 := (by decide); rw [ha] at qe16710; exact qe16710
                refine p_put (ci := 12) (v := .int zi16707) (ty := .int) (C := RX12) (T := TX12) (N := 69) hx hb hT iw_X12 tyX12 tyX12_ok nmX12 hown hK hw hS hW kd900 (by decide) rfl rfl 12 (by decide) (hT _ tb_1386) (fun _ h9 => h9) rfl (by decide +kernel) rfl rfl dX12_expression_53 (fun hp16712 eh16713 H locs hw hS => ?_)
                have ok16714 := wr_13012 bd16709 (by decide) (by decide) ok14522 kd900 eh16713
                refine lv_aload_n hx hb dX12_expression_56 rfl (lv_at hl 0 rfl) ?_
                have eq16715 : hp16712 qa900 13 = .int zi14530 := Eq.trans (up_at eh16713 (Or.inr (by decide))) eq14529
                have eq16716 : hp16712 qa900 11 = .int zi14526 := Eq.trans (up_at eh16713 (Or.inr (by decide))) eq14525
                refine kq_v hw hS hA (va_runV (As := []) (rest := []) ⟨hx, hb, hml, hown, hT⟩ (cX12_goesOn_0 l G cy ev K ln Ls hW _ hp16712 ok16714 qa900 kd900) (cwV 0 hT (good_V tb_1639 tb_1636 tb_1638 tb_56 tb_122) rfl rfl rfl (by decide +kernel) ⟨Nat.le_of_ble_eq_true rfl, Nat.le_of_ble_eq_true rfl⟩) (pool_preV (ci := 12) hK hE hS hA hw hW kd900 (by decide) rfl) rfl rfl hl.1 rfl (lv_room (Nat.le_of_ble_eq_true rfl)) dX12_expression_57 ⟨Nat.le_of_ble_eq_true rfl, Nat.le_of_ble_eq_true rfl⟩) (fun hp16717 H locs hq16720 hw hS => ?_)
                obtain ⟨ok16718, F16719, ⟨zi16722, eq16723, bd16724⟩, rh16725, rh16726, rh16727⟩ := hq16720
                have hw : PW G cy K ln Ls A hp16717 H := hw
                obtain ⟨zi16729, eq16728, bd16730⟩ := rd_13013 ok16718 kd900
                simp only [gi_of eq16715, gi_of eq16716, gi_of eq16723, gi_of eq16728] at rh16725
                simp only [gi_of eq16715, gi_of eq16728] at rh16726
                simp only [gi_of eq16716, gi_of eq16723, gi_of eq16728] at rh16727
                refine lv_aload_n hx hb dX12_expression_60 rfl (lv_at hl 0 rfl) ?_
                have eq16731 : hp16717 qa900 44 = .ref qa16694 := Eq.trans (Fr.at (cq := 13044) F16719 kd900 (cd_o (by decide)) (by decide)) (Eq.trans (up_at eh16713 (Or.inr (by decide))) eq16693)
                refine p_get (ci := 12) (v := .ref qa16694) (C := RX12) (T := TX12) (N := 69) hx hb hT iw_X12 hown hK hw hW kd900 (by decide) rfl rfl 44 (by decide) eq16731 (hT _ tb_1418) (fun _ h9 => h9) dX12_expression_61 ?_
                refine lv_aload_n hx hb dX12_expression_64 rfl (lv_at hl 0 rfl) ?_
                have eq16732 : hp16717 qa900 45 = .int zi14534 := Eq.trans (Fr.at (cq := 13045) F16719 kd900 (cd_o (by decide)) (by decide)) (Eq.trans (up_at eh16713 (Or.inr (by decide))) eq14533)
                refine p_get (ci := 12) (v := .int zi14534) (C := RX12) (T := TX12) (N := 69) hx hb hT iw_X12 hown hK hw hW kd900 (by decide) rfl rfl 45 (by decide) eq16732 (hT _ tb_1419) (fun _ h9 => h9) dX12_expression_65 ?_
                refine lv_bipush (v := 6) hx hb dX12_expression_68 (by decide) ?_
                refine p_iast (x := 6) hx hb hK hw hS hW kd16695 (by decide) rfl (hW.len kd16695 (n := 64) rfl (by decide)) (vp_b bd16702 (by decide) (by decide)) dX12_expression_70 (fun hp16733 eh16734 H locs hw hS => ?_)
                have ok16735 := wr_89000 ok16718 kd16695 eh16734
                refine lv_aload_n hx hb dX12_expression_71 rfl (lv_at hl 0 rfl) ?_
                refine lv_dup hx hb dX12_expression_72 rfl ?_
                have eq16736 : hp16733 qa900 45 = .int zi14534 := Eq.trans (up_at eh16734 (Or.inl (kd_ne kd900 kd16695 (by decide)))) eq16732
                refine p_get (ci := 12) (v := .int zi14534) (C := RX12) (T := TX12) (N := 69) hx hb hT iw_X12 hown hK hw hW kd900 (by decide) rfl rfl 45 (by decide) eq16736 (hT _ tb_1419) (fun _ h9 => h9) dX12_expression_73 ?_
                refine lv_iconst (v := 1) hx hb dX12_expression_76 (by decide) ?_
                refine lv_iadd hx hb dX12_expression_77 (lv_topi (fun zi16737 ea16738 => ?_))
                have bd16739 : (1 : Int) ≤ zi16737.toInt ∧ zi16737.toInt ≤ 24 := b_iadd ea16738 bd16702 bc_1 (by decide) (by decide) (by decide) (by decide)
                have qe16740 : zi16737.toInt = (zi14534 : Int32).toInt + (1 : Int32).toInt := e_iadd ea16738 bd16702 bc_1 (by decide) (by decide)
                have qe16741 : zi16737.toInt = zi14534.toInt + 1 := by have ha : (1 : Int32).toInt = 1 := (by decide); rw [ha] at qe16740; exact qe16740
                refine p_put (ci := 12) (v := .int zi16737) (ty := .int) (C := RX12) (T := TX12) (N := 69) hx hb hT iw_X12 tyX12 tyX12_ok nmX12 hown hK hw hS hW kd900 (by decide) rfl rfl 45 (by decide) (hT _ tb_1419) (fun _ h9 => h9) rfl (by decide +kernel) rfl rfl dX12_expression_78 (fun hp16742 eh16743 H locs hw hS => ?_)
                have ok16744 := wr_13045 bd16739 (by decide) (by decide) ok16735 kd900 eh16743
                have eq16745 : hp16742 qa900 44 = .ref qa16694 := Eq.trans (up_at eh16743 (Or.inr (by decide))) (Eq.trans (up_at eh16734 (Or.inl (kd_ne kd900 kd16695 (by decide)))) eq16731)
                have eq16747 : hp16742 qa900 12 = .int zi16707 := Eq.trans (up_at eh16743 (Or.inr (by decide))) (Eq.trans (up_at eh16734 (Or.inl (kd_ne kd900 kd16695 (by decide)))) (Eq.trans (Fr.at (cq := 13012) F16719 kd900 (cd_o (by decide)) (by decide)) (hp_self eh16713)))
                have eq16748 : hp16742 qa900 39 = .ref qa16697 := Eq.trans (up_at eh16743 (Or.inr (by decide))) (Eq.trans (up_at eh16734 (Or.inl (kd_ne kd900 kd16695 (by decide)))) (Eq.trans (Fr.at (cq := 13039) F16719 kd900 (cd_o (by decide)) (by decide)) (Eq.trans (up_at eh16713 (Or.inr (by decide))) eq16696)))
                have eq16749 : hp16742 qa900 40 = .ref qa16700 := Eq.trans (up_at eh16743 (Or.inr (by decide))) (Eq.trans (up_at eh16734 (Or.inl (kd_ne kd900 kd16695 (by decide)))) (Eq.trans (Fr.at (cq := 13040) F16719 kd900 (cd_o (by decide)) (by decide)) (Eq.trans (up_at eh16713 (Or.inr (by decide))) eq16699)))
                have eq16750 : hp16742 qa900 38 = .int zi8572 := Eq.trans (up_at eh16743 (Or.inr (by decide))) (Eq.trans (up_at eh16734 (Or.inl (kd_ne kd900 kd16695 (by decide)))) (Eq.trans (Fr.at (cq := 13038) F16719 kd900 (cd_o (by decide)) (by decide)) (Eq.trans (up_at eh16713 (Or.inr (by decide))) eq14847)))
                have ei16746 : EIx hp16742 qa900 gc0 0 := EI_open (i := (zi14534 : Int32).toNatClampNeg) jx14539 (by rw [show (6 : Int) = (6 : Int32).toInt from by decide]; exact (mA_up eq16693 eq16745 (Eq.trans (show hp16717 qa16694 = hp16712 qa16694 from (funext fun i => Fr.at (cq := 89000) F16719 kd16695 (cd_a (by decide)) (by decide))) (show hp16712 qa16694 = hp14520 qa16694 from (by rw [eh16713]; exact up2_row (kd_ne kd16695 kd900 (by decide))))) eh16734 (show hp16742 qa16694 = hp16733 qa16694 from (by rw [eh16743]; exact up2_row (kd_ne kd16695 kd900 (by decide)))))) (by rw [gi_of eq14533]; have := clampN (x := zi14534) (by omega); omega) (by rw [gi_of (hp_self eh16743), gi_of eq14533] <;> (omega)) (by rw [gi_of eq16747, gi_of eq14531] <;> (omega)) (mA_eq eq16696 eq16748 (Eq.trans (show hp16742 qa16697 = hp16733 qa16697 from (by rw [eh16743]; exact up2_row (kd_ne kd16698 kd900 (by decide)))) (Eq.trans (show hp16733 qa16697 = hp16717 qa16697 from (by rw [eh16734]; exact up2_row (kd_ne kd16698 kd16695 (by decide)))) (Eq.trans (show hp16717 qa16697 = hp16712 qa16697 from (funext fun i => Fr.at (cq := 84000) F16719 kd16698 (cd_a (by decide)) (by decide))) (show hp16712 qa16697 = hp14520 qa16697 from (by rw [eh16713]; exact up2_row (kd_ne kd16698 kd900 (by decide)))))))) (mA_eq eq16699 eq16749 (Eq.trans (show hp16742 qa16700 = hp16733 qa16700 from (by rw [eh16743]; exact up2_row (kd_ne kd16701 kd900 (by decide)))) (Eq.trans (show hp16733 qa16700 = hp16717 qa16700 from (by rw [eh16734]; exact up2_row (kd_ne kd16701 kd16695 (by decide)))) (Eq.trans (show hp16717 qa16700 = hp16712 qa16700 from (funext fun i => Fr.at (cq := 85000) F16719 kd16701 (cd_a (by decide)) (by decide))) (show hp16712 qa16700 = hp14520 qa16700 from (by rw [eh16713]; exact up2_row (kd_ne kd16701 kd900 (by decide)))))))) (by rw [gi_of eq16750, gi_of eq14847] <;> (omega))
                refine lv_goto (tgt := 23) hx hb dX12_expression_81 (by decide) ?_
                have eq16751 : hp16742 qa900 11 = .int zi16722 := Eq.trans (up_at eh16743 (Or.inr (by decide))) (Eq.trans (up_at eh16734 (Or.inl (kd_ne kd900 kd16695 (by decide)))) eq16723)
                have eq16752 : hp16742 qa900 13 = .int zi16729 := Eq.trans (up_at eh16743 (Or.inr (by decide))) (Eq.trans (up_at eh16734 (Or.inl (kd_ne kd900 kd16695 (by decide)))) eq16728)
                have eq16753 : hp16742 qa900 19 = .int zi11 := Eq.trans (up_at eh16743 (Or.inr (by decide))) (Eq.trans (up_at eh16734 (Or.inl (kd_ne kd900 kd16695 (by decide)))) (Eq.trans (Fr.at (cq := 13019) F16719 kd900 (cd_o (by decide)) (by decide)) (Eq.trans (up_at eh16713 (Or.inr (by decide))) eq14848)))
                have pd16754 : LPx hp16742 qa900 := LP_fr ok14522 kd900 (show Fr [13011, 13012, 13013, 13014, 13045, 89000] K hp14520 hp16742 from (Fr.put (cq := 13045) (Fr.put (cq := 89000) (Fr.tr (Fr.put (cq := 13012) (Fr.rf) eh16713 kd900 (cd_o (by decide)) (by decide)) F16719 (by decide)) eh16734 kd16695 (cd_a (by decide)) (by decide)) eh16743 kd900 (cd_o (by decide)) (by decide))) (by decide) jx14540
                exact ih14826 hp16742 zi16722 zi16729 zi16707 zi16737 _ _ ls (by have := hm14828; omega) ok16744 (Fr.put (cq := 13045) (Fr.put (cq := 89000) (Fr.tr (Fr.put (cq := 13012) (Fr.tr (Fr.rf) F14521 (by decide)) eh16713 kd900 (cd_o (by decide)) (by decide)) F16719 (by decide)) eh16734 kd16695 (cd_a (by decide)) (by decide)) eh16743 kd900 (cd_o (by decide)) (by decide)) (b_wid2 bd16724 (by decide) (by decide)) eq16751 (b_wid2 bd16730 (by decide) (by decide)) eq16752 (b_wid2 bd16709 (by decide) (by decide)) eq16747 (b_wid2 bd16739 (by decide) (by decide)) (hp_self eh16743) (by omega) (by omega) (by omega) (by omega) ei16746 pd16754 (lv_sub hl [0, 1] rfl) hw hS
              · skip
                have bd16755 : (6 : Int) ≤ zi14532.toInt ∧ zi14532.toInt ≤ 6 := r_eq_x cn16704 bd16703 bc_6 (by decide) (by decide)
                refine lv_aload_n hx hb dX12_expression_41 rfl (lv_at hl 0 rfl) ?_
                refine lv_iconst (v := 2) hx hb dX12_expression_42 (by decide) ?_
                refine kq_v hw hS hA (va_runV (As := [.int 2]) (rest := []) ⟨hx, hb, hml, hown, hT⟩ (cX12_fail_0 l G cy ev K ln Ls hW _ hp14520 ok14522 qa900 2 kd900 (b_wid2 bc_2 (by decide) (by decide))) (cwV 1 hT (good_V tb_1635 tb_1632 tb_1634 tb_55 tb_122) rfl rfl rfl (by decide +kernel) ⟨Nat.le_of_ble_eq_true rfl, Nat.le_of_ble_eq_true rfl⟩) (pool_preV (ci := 12) hK hE hS hA hw hW kd900 (by decide) rfl) rfl rfl hl.1 rfl (lv_room (Nat.le_of_ble_eq_true rfl)) dX12_expression_43 ⟨Nat.le_of_ble_eq_true rfl, Nat.le_of_ble_eq_true rfl⟩) (fun hp16756 H locs hq16759 hw hS => ?_)
                obtain ⟨ok16757, F16758, ⟨zi16761, eq16762, bd16763⟩, rh16764⟩ := hq16759
                have hw : PW G cy K ln Ls A hp16756 H := hw
                simp only [gi_of eq14529, gi_of eq16762] at rh16764
                refine lv_aload_n hx hb dX12_expression_46 rfl (lv_at hl 0 rfl) ?_
                refine lv_dup hx hb dX12_expression_47 rfl ?_
                have eq16765 : hp16756 qa900 12 = .int zi14532 := Eq.trans (Fr.at (cq := 13012) F16758 kd900 (cd_o (by decide)) (by decide)) eq14531
                refine p_get (ci := 12) (v := .int zi14532) (C := RX12) (T := TX12) (N := 69) hx hb hT iw_X12 hown hK hw hW kd900 (by decide) rfl rfl 12 (by decide) eq16765 (hT _ tb_1386) (fun _ h9 => h9) dX12_expression_48 ?_
                refine lv_iconst (v := 1) hx hb dX12_expression_51 (by decide) ?_
                refine lv_iadd hx hb dX12_expression_52 (lv_topi (fun zi16766 ea16767 => ?_))
                have bd16768 : (7 : Int) ≤ zi16766.toInt ∧ zi16766.toInt ≤ 7 := b_iadd ea16767 bd16755 bc_1 (by decide) (by decide) (by decide) (by decide)
                have qe16769 : zi16766.toInt = (zi14532 : Int32).toInt + (1 : Int32).toInt := e_iadd ea16767 bd16755 bc_1 (by decide) (by decide)
                have qe16770 : zi16766.toInt = zi14532.toInt + 1 := by have ha : (1 : Int32).toInt = 1 := (by decide); rw [ha] at qe16769; exact qe16769
                refine p_put (ci := 12) (v := .int zi16766) (ty := .int) (C := RX12) (T := TX12) (N := 69) hx hb hT iw_X12 tyX12 tyX12_ok nmX12 hown hK hw hS hW kd900 (by decide) rfl rfl 12 (by decide) (hT _ tb_1386) (fun _ h9 => h9) rfl (by decide +kernel) rfl rfl dX12_expression_53 (fun hp16771 eh16772 H locs hw hS => ?_)
                have ok16773 := wr_13012 bd16768 (by decide) (by decide) ok16757 kd900 eh16772
                refine lv_aload_n hx hb dX12_expression_56 rfl (lv_at hl 0 rfl) ?_
                have eq16774 : hp16771 qa900 13 = .int zi16761 := Eq.trans (up_at eh16772 (Or.inr (by decide))) eq16762
                have eq16775 : hp16771 qa900 11 = .int zi14526 := Eq.trans (up_at eh16772 (Or.inr (by decide))) (Eq.trans (Fr.at (cq := 13011) F16758 kd900 (cd_o (by decide)) (by decide)) eq14525)
                refine kq_v hw hS hA (va_runV (As := []) (rest := []) ⟨hx, hb, hml, hown, hT⟩ (cX12_goesOn_0 l G cy ev K ln Ls hW _ hp16771 ok16773 qa900 kd900) (cwV 0 hT (good_V tb_1639 tb_1636 tb_1638 tb_56 tb_122) rfl rfl rfl (by decide +kernel) ⟨Nat.le_of_ble_eq_true rfl, Nat.le_of_ble_eq_true rfl⟩) (pool_preV (ci := 12) hK hE hS hA hw hW kd900 (by decide) rfl) rfl rfl hl.1 rfl (lv_room (Nat.le_of_ble_eq_true rfl)) dX12_expression_57 ⟨Nat.le_of_ble_eq_true rfl, Nat.le_of_ble_eq_true rfl⟩) (fun hp16776 H locs hq16779 hw hS => ?_)
                obtain ⟨ok16777, F16778, ⟨zi16781, eq16782, bd16783⟩, rh16784, rh16785, rh16786⟩ := hq16779
                have hw : PW G cy K ln Ls A hp16776 H := hw
                obtain ⟨zi16788, eq16787, bd16789⟩ := rd_13013 ok16777 kd900
                simp only [gi_of eq16774, gi_of eq16775, gi_of eq16782, gi_of eq16787] at rh16784
                simp only [gi_of eq16774, gi_of eq16787] at rh16785
                simp only [gi_of eq16775, gi_of eq16782, gi_of eq16787] at rh16786
                refine lv_aload_n hx hb dX12_expression_60 rfl (lv_at hl 0 rfl) ?_
                have eq16790 : hp16776 qa900 44 = .ref qa16694 := Eq.trans (Fr.at (cq := 13044) F16778 kd900 (cd_o (by decide)) (by decide)) (Eq.trans (up_at eh16772 (Or.inr (by decide))) (Eq.trans (Fr.at (cq := 13044) F16758 kd900 (cd_o (by decide)) (by decide)) eq16693))
                refine p_get (ci := 12) (v := .ref qa16694) (C := RX12) (T := TX12) (N := 69) hx hb hT iw_X12 hown hK hw hW kd900 (by decide) rfl rfl 44 (by decide) eq16790 (hT _ tb_1418) (fun _ h9 => h9) dX12_expression_61 ?_
                refine lv_aload_n hx hb dX12_expression_64 rfl (lv_at hl 0 rfl) ?_
                have eq16791 : hp16776 qa900 45 = .int zi14534 := Eq.trans (Fr.at (cq := 13045) F16778 kd900 (cd_o (by decide)) (by decide)) (Eq.trans (up_at eh16772 (Or.inr (by decide))) (Eq.trans (Fr.at (cq := 13045) F16758 kd900 (cd_o (by decide)) (by decide)) eq14533))
                refine p_get (ci := 12) (v := .int zi14534) (C := RX12) (T := TX12) (N := 69) hx hb hT iw_X12 hown hK hw hW kd900 (by decide) rfl rfl 45 (by decide) eq16791 (hT _ tb_1419) (fun _ h9 => h9) dX12_expression_65 ?_
                refine lv_bipush (v := 6) hx hb dX12_expression_68 (by decide) ?_
                refine p_iast (x := 6) hx hb hK hw hS hW kd16695 (by decide) rfl (hW.len kd16695 (n := 64) rfl (by decide)) (vp_b bd16702 (by decide) (by decide)) dX12_expression_70 (fun hp16792 eh16793 H locs hw hS => ?_)
                have ok16794 := wr_89000 ok16777 kd16695 eh16793
                refine lv_aload_n hx hb dX12_expression_71 rfl (lv_at hl 0 rfl) ?_
                refine lv_dup hx hb dX12_expression_72 rfl ?_
                have eq16795 : hp16792 qa900 45 = .int zi14534 := Eq.trans (up_at eh16793 (Or.inl (kd_ne kd900 kd16695 (by decide)))) eq16791
                refine p_get (ci := 12) (v := .int zi14534) (C := RX12) (T := TX12) (N := 69) hx hb hT iw_X12 hown hK hw hW kd900 (by decide) rfl rfl 45 (by decide) eq16795 (hT _ tb_1419) (fun _ h9 => h9) dX12_expression_73 ?_
                refine lv_iconst (v := 1) hx hb dX12_expression_76 (by decide) ?_
                refine lv_iadd hx hb dX12_expression_77 (lv_topi (fun zi16796 ea16797 => ?_))
                have bd16798 : (1 : Int) ≤ zi16796.toInt ∧ zi16796.toInt ≤ 24 := b_iadd ea16797 bd16702 bc_1 (by decide) (by decide) (by decide) (by decide)
                have qe16799 : zi16796.toInt = (zi14534 : Int32).toInt + (1 : Int32).toInt := e_iadd ea16797 bd16702 bc_1 (by decide) (by decide)
                have qe16800 : zi16796.toInt = zi14534.toInt + 1 := by have ha : (1 : Int32).toInt = 1 := (by decide); rw [ha] at qe16799; exact qe16799
                refine p_put (ci := 12) (v := .int zi16796) (ty := .int) (C := RX12) (T := TX12) (N := 69) hx hb hT iw_X12 tyX12 tyX12_ok nmX12 hown hK hw hS hW kd900 (by decide) rfl rfl 45 (by decide) (hT _ tb_1419) (fun _ h9 => h9) rfl (by decide +kernel) rfl rfl dX12_expression_78 (fun hp16801 eh16802 H locs hw hS => ?_)
                have ok16803 := wr_13045 bd16798 (by decide) (by decide) ok16794 kd900 eh16802
                have eq16804 : hp16801 qa900 44 = .ref qa16694 := Eq.trans (up_at eh16802 (Or.inr (by decide))) (Eq.trans (up_at eh16793 (Or.inl (kd_ne kd900 kd16695 (by decide)))) eq16790)
                have eq16806 : hp16801 qa900 12 = .int zi16766 := Eq.trans (up_at eh16802 (Or.inr (by decide))) (Eq.trans (up_at eh16793 (Or.inl (kd_ne kd900 kd16695 (by decide)))) (Eq.trans (Fr.at (cq := 13012) F16778 kd900 (cd_o (by decide)) (by decide)) (hp_self eh16772)))
                have eq16807 : hp16801 qa900 39 = .ref qa16697 := Eq.trans (up_at eh16802 (Or.inr (by decide))) (Eq.trans (up_at eh16793 (Or.inl (kd_ne kd900 kd16695 (by decide)))) (Eq.trans (Fr.at (cq := 13039) F16778 kd900 (cd_o (by decide)) (by decide)) (Eq.trans (up_at eh16772 (Or.inr (by decide))) (Eq.trans (Fr.at (cq := 13039) F16758 kd900 (cd_o (by decide)) (by decide)) eq16696))))
                have eq16808 : hp16801 qa900 40 = .ref qa16700 := Eq.trans (up_at eh16802 (Or.inr (by decide))) (Eq.trans (up_at eh16793 (Or.inl (kd_ne kd900 kd16695 (by decide)))) (Eq.trans (Fr.at (cq := 13040) F16778 kd900 (cd_o (by decide)) (by decide)) (Eq.trans (up_at eh16772 (Or.inr (by decide))) (Eq.trans (Fr.at (cq := 13040) F16758 kd900 (cd_o (by decide)) (by decide)) eq16699))))
                have eq16809 : hp16801 qa900 38 = .int zi8572 := Eq.trans (up_at eh16802 (Or.inr (by decide))) (Eq.trans (up_at eh16793 (Or.inl (kd_ne kd900 kd16695 (by decide)))) (Eq.trans (Fr.at (cq := 13038) F16778 kd900 (cd_o (by decide)) (by decide)) (Eq.trans (up_at eh16772 (Or.inr (by decide))) (Eq.trans (Fr.at (cq := 13038) F16758 kd900 (cd_o (by decide)) (by decide)) eq14847))))
                have ei16805 : EIx hp16801 qa900 gc0 0 := EI_open (i := (zi14534 : Int32).toNatClampNeg) jx14539 (by rw [show (6 : Int) = (6 : Int32).toInt from by decide]; exact (mA_up eq16693 eq16804 (Eq.trans (show hp16776 qa16694 = hp16771 qa16694 from (funext fun i => Fr.at (cq := 89000) F16778 kd16695 (cd_a (by decide)) (by decide))) (Eq.trans (show hp16771 qa16694 = hp16756 qa16694 from (by rw [eh16772]; exact up2_row (kd_ne kd16695 kd900 (by decide)))) (show hp16756 qa16694 = hp14520 qa16694 from (funext fun i => Fr.at (cq := 89000) F16758 kd16695 (cd_a (by decide)) (by decide))))) eh16793 (show hp16801 qa16694 = hp16792 qa16694 from (by rw [eh16802]; exact up2_row (kd_ne kd16695 kd900 (by decide)))))) (by rw [gi_of eq14533]; have := clampN (x := zi14534) (by omega); omega) (by rw [gi_of (hp_self eh16802), gi_of eq14533] <;> (omega)) (by rw [gi_of eq16806, gi_of eq14531] <;> (omega)) (mA_eq eq16696 eq16807 (Eq.trans (show hp16801 qa16697 = hp16792 qa16697 from (by rw [eh16802]; exact up2_row (kd_ne kd16698 kd900 (by decide)))) (Eq.trans (show hp16792 qa16697 = hp16776 qa16697 from (by rw [eh16793]; exact up2_row (kd_ne kd16698 kd16695 (by decide)))) (Eq.trans (show hp16776 qa16697 = hp16771 qa16697 from (funext fun i => Fr.at (cq := 84000) F16778 kd16698 (cd_a (by decide)) (by decide))) (Eq.trans (show hp16771 qa16697 = hp16756 qa16697 from (by rw [eh16772]; exact up2_row (kd_ne kd16698 kd900 (by decide)))) (show hp16756 qa16697 = hp14520 qa16697 from (funext fun i => Fr.at (cq := 84000) F16758 kd16698 (cd_a (by decide)) (by decide)))))))) (mA_eq eq16699 eq16808 (Eq.trans (show hp16801 qa16700 = hp16792 qa16700 from (by rw [eh16802]; exact up2_row (kd_ne kd16701 kd900 (by decide)))) (Eq.trans (show hp16792 qa16700 = hp16776 qa16700 from (by rw [eh16793]; exact up2_row (kd_ne kd16701 kd16695 (by decide)))) (Eq.trans (show hp16776 qa16700 = hp16771 qa16700 from (funext fun i => Fr.at (cq := 85000) F16778 kd16701 (cd_a (by decide)) (by decide))) (Eq.trans (show hp16771 qa16700 = hp16756 qa16700 from (by rw [eh16772]; exact up2_row (kd_ne kd16701 kd900 (by decide)))) (show hp16756 qa16700 = hp14520 qa16700 from (funext fun i => Fr.at (cq := 85000) F16758 kd16701 (cd_a (by decide)) (by decide)))))))) (by rw [gi_of eq16809, gi_of eq14847] <;> (omega))
                refine lv_goto (tgt := 23) hx hb dX12_expression_81 (by decide) ?_
                have eq16810 : hp16801 qa900 11 = .int zi16781 := Eq.trans (up_at eh16802 (Or.inr (by decide))) (Eq.trans (up_at eh16793 (Or.inl (kd_ne kd900 kd16695 (by decide)))) eq16782)
                have eq16811 : hp16801 qa900 13 = .int zi16788 := Eq.trans (up_at eh16802 (Or.inr (by decide))) (Eq.trans (up_at eh16793 (Or.inl (kd_ne kd900 kd16695 (by decide)))) eq16787)
                have eq16812 : hp16801 qa900 19 = .int zi11 := Eq.trans (up_at eh16802 (Or.inr (by decide))) (Eq.trans (up_at eh16793 (Or.inl (kd_ne kd900 kd16695 (by decide)))) (Eq.trans (Fr.at (cq := 13019) F16778 kd900 (cd_o (by decide)) (by decide)) (Eq.trans (up_at eh16772 (Or.inr (by decide))) (Eq.trans (Fr.at (cq := 13019) F16758 kd900 (cd_o (by decide)) (by decide)) eq14848))))
                have pd16813 : LPx hp16801 qa900 := LP_fr ok14522 kd900 (show Fr [13011, 13012, 13013, 13014, 13045, 89000] K hp14520 hp16801 from (Fr.put (cq := 13045) (Fr.put (cq := 89000) (Fr.tr (Fr.put (cq := 13012) (Fr.tr (Fr.rf) F16758 (by decide)) eh16772 kd900 (cd_o (by decide)) (by decide)) F16778 (by decide)) eh16793 kd16695 (cd_a (by decide)) (by decide)) eh16802 kd900 (cd_o (by decide)) (by decide))) (by decide) jx14540
                exact ih14826 hp16801 zi16781 zi16788 zi16766 zi16796 _ _ ls (by have := hm14828; omega) ok16803 (Fr.put (cq := 13045) (Fr.put (cq := 89000) (Fr.tr (Fr.put (cq := 13012) (Fr.tr (Fr.tr (Fr.rf) F14521 (by decide)) F16758 (by decide)) eh16772 kd900 (cd_o (by decide)) (by decide)) F16778 (by decide)) eh16793 kd16695 (cd_a (by decide)) (by decide)) eh16802 kd900 (cd_o (by decide)) (by decide)) (b_wid2 bd16783 (by decide) (by decide)) eq16810 (b_wid2 bd16789 (by decide) (by decide)) eq16811 (b_wid2 bd16768 (by decide) (by decide)) eq16806 (b_wid2 bd16798 (by decide) (by decide)) (hp_self eh16802) (by omega) (by omega) (by omega) (by omega) ei16805 pd16813 (lv_sub hl [0, 1] rfl) hw hS
        exact lp14827 _ hp8562 zi8566 zi8568 zi8570 zi8574 _ _ ls (lp_in _) ok8564 (Fr.rf) (b_wid2 bd8581 (by decide) (by decide)) eq8565 (b_wid2 bd14049 (by decide) (by decide)) eq8567 (b_wid2 bd8583 (by decide) (by decide)) eq8569 (b_wid2 bd8585 (by decide) (by decide)) eq8573 (by have := toi bc_1; omega) (by have := toi bc_1; omega) (by have := toi bc_1; omega) (by have := toi bc_1; omega) jx8579 jx8580 (lv_sub hl [0, 1] rfl) hw hS
  have pd16814 : LPx hp20 qa900 := LP_fr ok0 kd900 (show Fr [13045] K hp0 hp20 from (Fr.put (cq := 13045) (Fr.rf) eh21 kd900 (cd_o (by decide)) (by decide))) (by decide) pdLPx
  exact lp14042 _ hp20 zi14 zi5 zi8 zi2 0 _ _ ls (lp_in _) ok22 (Fr.rf) (b_wid2 bd15 (by decide) (by decide)) eq26 (b_wid2 bd6 (by decide) (by decide)) eq27 (b_wid2 bd19 (by decide) (by decide)) eq24 (b_wid2 bd3 (by decide) (by decide)) eq25 (b_wid2 bc_0 (by decide) (by decide)) (hp_self eh21) (by have := toi bc_0; have := toi bc_1; omega) (by have := toi bc_0; have := toi bc_1; omega) (by have := toi bc_0; have := toi bc_1; omega) (by have := toi bc_0; have := toi bc_1; omega) ei23 pd16814 (lv_sub hl [2, 1, 0] rfl) hw hS
