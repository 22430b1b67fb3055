set_option maxRecDepth 100000 in
set_option maxHeartbeats 4000000 in
theorem cX12_hearing_0 (l : Launch) (G : va_G) (cy : Nat → ClassId) (ev : Ew) (K ln : Nat → Nat) (Ls : List Nat) (hW : SW K ln Ls) (sz : Nat) (hp0 : Nat → Nat → Value) (ok0 : Ok K hp0) (qa900 : Nat) (zi901 : Int32) (zi902 : Int32) (kd900 : K qa900 = 13) : Met l yX12_hearing (WS yX12_hearing cX12_hearing 3 (some .int)) { frames := 2, cells := 0, slots := 0, locals := 49 } (PB2 [.ref qa900, .int zi901, .int zi902] sz G cy ev (va_pl Ls (cellOf cy K ln hp0))) (QBi (S := (Nat → Nat → Value)) (fun (r : Int32) (u : (Nat → Nat → Value)) => Ok K u ∧ Fr [93000] K hp0 u) G (fun u => va_pl Ls (cellOf cy K ln u)) (va_A (va_pl Ls (cellOf cy K ln hp0)) sz)) 0 0 (va_A (va_pl Ls (cellOf cy K ln hp0)) sz) := by
  refine met_of2 (y := yX12_hearing) (L := 3) (av := [.ref qa900, .int zi901, .int zi902]) (Qc := fun A => QBi (S := (Nat → Nat → Value)) (fun (r : Int32) (u : (Nat → Nat → Value)) => Ok K u ∧ Fr [93000] K hp0 u) G (fun u => va_pl Ls (cellOf cy K ln u)) A) (plainFor_of_name (by decide)) (Nat.le_of_ble_eq_true rfl) ?_
  intro p e s m below meth c hsz hx hb hr hml hown hT hlocks hin hK A hA hE hw hS ls hl
  have hw : PW G cy K ln Ls A hp0 s.heap := hw
  have hown : s.vm.findClass "LieClockModel" = some m.cls := hown
  have hl : lv_has ls 3 [(0, .ref qa900), (1, .int zi901), (2, .int zi902)] := hl
  obtain ⟨Q, hQ⟩ : ∃ Q : State → Prop, Q = MQ below (QBi (S := (Nat → Nat → Value)) (fun (r : Int32) (u : (Nat → Nat → Value)) => Ok K u ∧ Fr [93000] K hp0 u) G (fun u => va_pl Ls (cellOf cy K ln u)) A) ([.ref qa900, .int zi901, .int zi902] : List Value).toArray s 0 0 A := ⟨_, rfl⟩
  rw [← hQ]
  refine lv_aload_n hx hb dX12_hearing_0 rfl (lv_at hl 0 rfl) ?_
  refine lv_iload_n hx hb dX12_hearing_1 rfl (lv_at hl 1 rfl) ?_
  refine kq_i hw hS hA (va_runV (As := [.int zi901]) (rest := []) ⟨hx, hb, hml, hown, hT⟩ (cX12_isCase_0 l G cy ev K ln Ls hW _ hp0 ok0 qa900 zi901 kd900) (cwV 1 hT (good_V tb_1797 tb_1794 tb_1796 tb_85 tb_122) rfl rfl rfl (by decide +kernel) ⟨Nat.le_of_ble_eq_true rfl, Nat.le_of_ble_eq_true rfl⟩) (pool_preV (ci := 12) hK hE hS hA hw hW kd900 (by decide) rfl) rfl rfl hl.1 rfl (lv_room (Nat.le_of_ble_eq_true rfl)) dX12_hearing_2 ⟨Nat.le_of_ble_eq_true rfl, Nat.le_of_ble_eq_true rfl⟩) (fun zi5 hp1 H locs hq4 hw hS => ?_)
  obtain ⟨ok2, F3, bd6, hc7⟩ := hq4
  obtain rfl : hp0 = hp1 := (Fr.nil F3).symm
  have hw : PW G cy K ln Ls A hp0 H := hw
  rcases b01 bd6 with cn8 | cn8
  · skip
    subst cn8
    refine lv_if_ne (tgt := 10) hx hb dX12_hearing_5 (by decide) (fun c => absurd (d_eq bc_0 bc_0) c) (fun _ => ?_)
    refine lv_iconst (v := (-1)) hx hb dX12_hearing_8 (by decide) ?_
    rw [hQ]
    exact kz_i hx hb hr hlocks hS rfl hp0 hw ⟨ok0, (Fr.rf)⟩ (Nat.le_of_ble_eq_true rfl) (Nat.le_of_ble_eq_true rfl) dX12_hearing_9
  · skip
    subst cn8
    have bd9 : (0 : Int) ≤ zi901.toInt ∧ zi901.toInt ≤ 7 := b_meet (b_all zi901) (hc7 rfl) (by decide) (by decide)
    refine lv_if_ne (tgt := 10) hx hb dX12_hearing_5 (by decide) (fun _ => ?_) (fun c => absurd c (d_ne bc_1 bc_0 (by decide)))
    refine lv_aload_n hx hb dX12_hearing_10 rfl (lv_at hl 0 rfl) ?_
    refine kq_v hw hS hA (va_runV (As := []) (rest := []) ⟨hx, hb, hml, hown, hT⟩ (cX12_copies_0 l G cy ev K ln Ls hW _ hp0 ok0 qa900 kd900) (cwV 0 hT (good_V tb_1769 tb_1766 tb_1768 tb_81 tb_122) rfl rfl rfl (by decide +kernel) ⟨Nat.le_of_ble_eq_true rfl, Nat.le_of_ble_eq_true rfl⟩) (pool_preV (ci := 12) hK hE hS hA hw hW kd900 (by decide) rfl) rfl rfl hl.1 rfl (lv_room (Nat.le_of_ble_eq_true rfl)) dX12_hearing_11 ⟨Nat.le_of_ble_eq_true rfl, Nat.le_of_ble_eq_true rfl⟩) (fun hp10 H locs hq13 hw hS => ?_)
    obtain ⟨ok11, F12⟩ := hq13
    have hw : PW G cy K ln Ls A hp10 H := hw
    refine lv_iload_n hx hb dX12_hearing_14 rfl (lv_at hl 2 rfl) ?_
    by_cases cn15 : zi902 = 0
    · skip
      refine lv_tableIn (tgt := 44) hx hb dX12_hearing_15 (by rw [cn15]; decide) (by rw [cn15]; decide) (by rw [cn15]; rfl) (by decide) ?_
      have bd23 : (0 : Int) ≤ zi902.toInt ∧ zi902.toInt ≤ 0 := r_eq_x cn15 (b_all zi902) bc_0 (by decide) (by decide)
      refine lv_aload_n hx hb dX12_hearing_44 rfl (lv_at hl 0 rfl) ?_
      obtain ⟨qa25, eq24, kd26⟩ := rd_13033 ok11 kd900
      refine p_get (ci := 12) (v := .ref qa25) (C := RX12) (T := TX12) (N := 69) hx hb hT iw_X12 hown hK hw hW kd900 (by decide) rfl rfl 33 (by decide) eq24 (hT _ tb_1407) (fun _ h9 => h9) dX12_hearing_45 ?_
      refine lv_bipush (v := 8) hx hb dX12_hearing_48 (by decide) ?_
      refine lv_aload_n hx hb dX12_hearing_50 rfl (lv_at hl 0 rfl) ?_
      obtain ⟨zi28, eq27, bd29⟩ := rd_13018 ok11 kd900
      refine p_get (ci := 12) (v := .int zi28) (C := RX12) (T := TX12) (N := 69) hx hb hT iw_X12 hown hK hw hW kd900 (by decide) rfl rfl 18 (by decide) eq27 (hT _ tb_1392) (fun _ h9 => h9) dX12_hearing_51 ?_
      refine lv_imul hx hb dX12_hearing_54 (lv_topi (fun zi30 ea31 => ?_))
      have bd32 : (0 : Int) ≤ zi30.toInt ∧ zi30.toInt ≤ 8 := b_imul ea31 bc_8 bd29 (by decide) (by decide) (by decide) (by decide) (by decide)
      refine lv_iload_n hx hb dX12_hearing_55 rfl (lv_at hl 1 rfl) ?_
      refine lv_iadd hx hb dX12_hearing_56 (lv_topi (fun zi33 ea34 => ?_))
      have bd35 : (0 : Int) ≤ zi33.toInt ∧ zi33.toInt ≤ 15 := b_iadd ea34 bd32 bd9 (by decide) (by decide) (by decide) (by decide)
      obtain ⟨zi37, eq36⟩ := rd_79000 ok11 kd26 ((zi33 : Int32).toNatClampNeg)
      refine p_iald (v := zi37) hx hb hK hw hW kd26 (by decide) rfl (hW.len kd26 (n := 16) rfl (by decide)) (vp_b bd35 (by decide) (by decide)) eq36 dX12_hearing_57 ?_
      rw [hQ]
      exact kz_i hx hb hr hlocks hS rfl hp10 hw ⟨ok11, (Fr.tr (Fr.rf) F12 (by decide))⟩ (Nat.le_of_ble_eq_true rfl) (Nat.le_of_ble_eq_true rfl) dX12_hearing_58
    by_cases cn16 : zi902 = 1
    · skip
      refine lv_tableIn (tgt := 59) hx hb dX12_hearing_15 (by rw [cn16]; decide) (by rw [cn16]; decide) (by rw [cn16]; rfl) (by decide) ?_
      have bd38 : (1 : Int) ≤ zi902.toInt ∧ zi902.toInt ≤ 1 := r_eq_x cn16 (b_all zi902) bc_1 (by decide) (by decide)
      refine lv_aload_n hx hb dX12_hearing_59 rfl (lv_at hl 0 rfl) ?_
      obtain ⟨qa40, eq39, kd41⟩ := rd_13050 ok11 kd900
      refine p_get (ci := 12) (v := .ref qa40) (C := RX12) (T := TX12) (N := 69) hx hb hT iw_X12 hown hK hw hW kd900 (by decide) rfl rfl 50 (by decide) eq39 (hT _ tb_1424) (fun _ h9 => h9) dX12_hearing_60 ?_
      refine lv_iconst (v := 4) hx hb dX12_hearing_63 (by decide) ?_
      refine lv_iload_n hx hb dX12_hearing_64 rfl (lv_at hl 1 rfl) ?_
      refine lv_iadd hx hb dX12_hearing_65 (lv_topi (fun zi42 ea43 => ?_))
      have bd44 : (4 : Int) ≤ zi42.toInt ∧ zi42.toInt ≤ 11 := b_iadd ea43 bc_4 bd9 (by decide) (by decide) (by decide) (by decide)
      obtain ⟨zi46, eq45⟩ := rd_93000 ok11 kd41 ((zi42 : Int32).toNatClampNeg)
      refine p_iald (v := zi46) hx hb hK hw hW kd41 (by decide) rfl (hW.len kd41 (n := 40) rfl (by decide)) (vp_b bd44 (by decide) (by decide)) eq45 dX12_hearing_66 ?_
      rw [hQ]
      exact kz_i hx hb hr hlocks hS rfl hp10 hw ⟨ok11, (Fr.tr (Fr.rf) F12 (by decide))⟩ (Nat.le_of_ble_eq_true rfl) (Nat.le_of_ble_eq_true rfl) dX12_hearing_67
    by_cases cn17 : zi902 = 2
    · skip
      refine lv_tableIn (tgt := 68) hx hb dX12_hearing_15 (by rw [cn17]; decide) (by rw [cn17]; decide) (by rw [cn17]; rfl) (by decide) ?_
      have bd47 : (2 : Int) ≤ zi902.toInt ∧ zi902.toInt ≤ 2 := r_eq_x cn17 (b_all zi902) bc_2 (by decide) (by decide)
      refine lv_aload_n hx hb dX12_hearing_68 rfl (lv_at hl 0 rfl) ?_
      obtain ⟨qa49, eq48, kd50⟩ := rd_13050 ok11 kd900
      refine p_get (ci := 12) (v := .ref qa49) (C := RX12) (T := TX12) (N := 69) hx hb hT iw_X12 hown hK hw hW kd900 (by decide) rfl rfl 50 (by decide) eq48 (hT _ tb_1424) (fun _ h9 => h9) dX12_hearing_69 ?_
      refine lv_bipush (v := 12) hx hb dX12_hearing_72 (by decide) ?_
      refine lv_iload_n hx hb dX12_hearing_74 rfl (lv_at hl 1 rfl) ?_
      refine lv_iadd hx hb dX12_hearing_75 (lv_topi (fun zi51 ea52 => ?_))
      have bd53 : (12 : Int) ≤ zi51.toInt ∧ zi51.toInt ≤ 19 := b_iadd ea52 bc_12 bd9 (by decide) (by decide) (by decide) (by decide)
      obtain ⟨zi55, eq54⟩ := rd_93000 ok11 kd50 ((zi51 : Int32).toNatClampNeg)
      refine p_iald (v := zi55) hx hb hK hw hW kd50 (by decide) rfl (hW.len kd50 (n := 40) rfl (by decide)) (vp_b bd53 (by decide) (by decide)) eq54 dX12_hearing_76 ?_
      rw [hQ]
      exact kz_i hx hb hr hlocks hS rfl hp10 hw ⟨ok11, (Fr.tr (Fr.rf) F12 (by decide))⟩ (Nat.le_of_ble_eq_true rfl) (Nat.le_of_ble_eq_true rfl) dX12_hearing_77
    by_cases cn18 : zi902 = 3
    · skip
      refine lv_tableIn (tgt := 78) hx hb dX12_hearing_15 (by rw [cn18]; decide) (by rw [cn18]; decide) (by rw [cn18]; rfl) (by decide) ?_
      have bd56 : (3 : Int) ≤ zi902.toInt ∧ zi902.toInt ≤ 3 := r_eq_x cn18 (b_all zi902) bc_3 (by decide) (by decide)
      refine lv_aload_n hx hb dX12_hearing_78 rfl (lv_at hl 0 rfl) ?_
      refine lv_iload_n hx hb dX12_hearing_79 rfl (lv_at hl 1 rfl) ?_
      refine kq_i hw hS hA (va_runV (As := [.int zi901]) (rest := []) ⟨hx, hb, hml, hown, hT⟩ (cX12_verdictOf_0 l G cy ev K ln Ls hW _ hp10 ok11 qa900 zi901 kd900 (b_wid2 bd9 (by decide) (by decide))) (cwV 1 hT (good_V tb_1801 tb_1798 tb_1800 tb_86 tb_122) rfl rfl rfl (by decide +kernel) ⟨Nat.le_of_ble_eq_true rfl, Nat.le_of_ble_eq_true rfl⟩) (pool_preV (ci := 12) hK hE hS hA hw hW kd900 (by decide) rfl) rfl rfl hl.1 rfl (lv_room (Nat.le_of_ble_eq_true rfl)) dX12_hearing_80 ⟨Nat.le_of_ble_eq_true rfl, Nat.le_of_ble_eq_true rfl⟩) (fun zi61 hp57 H locs hq60 hw hS => ?_)
      obtain ⟨ok58, F59, bd62⟩ := hq60
      obtain rfl : hp10 = hp57 := (Fr.nil F59).symm
      have hw : PW G cy K ln Ls A hp10 H := hw
      rw [hQ]
      exact kz_i hx hb hr hlocks hS rfl hp10 hw ⟨ok11, (Fr.tr (Fr.rf) F12 (by decide))⟩ (Nat.le_of_ble_eq_true rfl) (Nat.le_of_ble_eq_true rfl) dX12_hearing_83
    have nn19 : zi902.toInt ≠ 0 := fun e => cn15 (Int32.toInt_inj.mp (e.trans (by decide)))
    have nn20 : zi902.toInt ≠ 1 := fun e => cn16 (Int32.toInt_inj.mp (e.trans (by decide)))
    have nn21 : zi902.toInt ≠ 2 := fun e => cn17 (Int32.toInt_inj.mp (e.trans (by decide)))
    have nn22 : zi902.toInt ≠ 3 := fun e => cn18 (Int32.toInt_inj.mp (e.trans (by decide)))
    refine lv_tableOut (tgt := 84) hx hb dX12_hearing_15 (by have := (b_all zi902); omega) (by decide) ?_
    refine lv_iconst (v := (-1)) hx hb dX12_hearing_84 (by decide) ?_
    rw [hQ]
    exact kz_i hx hb hr hlocks hS rfl hp10 hw ⟨ok11, (Fr.tr (Fr.rf) F12 (by decide))⟩ (Nat.le_of_ble_eq_true rfl) (Nat.le_of_ble_eq_true rfl) dX12_hearing_85

set_option maxRecDepth 100000 in
set_option maxHeartbeats 4000000 in
theorem cX12_keeps_0 (l : Launch) (G : va_G) (cy : Nat → ClassId) (ev : Ew) (K ln : Nat → Nat) (Ls : List Nat) (hW : SW K ln Ls) (sz : Nat) (hp0 : Nat → Nat → Value) (ok0 : Ok K hp0) (qa900 : Nat) (kd900 : K qa900 = 13) : Met l yX12_keeps (WS yX12_keeps cX12_keeps 2 none) { frames := 0, cells := 0, slots := 0, locals := 0 } (PB2 [.ref qa900] sz G cy ev (va_pl Ls (cellOf cy K ln hp0))) (QBv (S := (Nat → Nat → Value)) (fun u : (Nat → Nat → Value) => Ok K u ∧ Fr [13053, 92000, 94000] K hp0 u ∧ (∃ z : Int32, u qa900 53 = .int z ∧ ((1 : Int) ≤ z.toInt ∧ z.toInt ≤ 40))) G (fun u => va_pl Ls (cellOf cy K ln u)) (va_A (va_pl Ls (cellOf cy K ln hp0)) sz)) 0 0 (va_A (va_pl Ls (cellOf cy K ln hp0)) sz) := by
  refine met_of2 (y := yX12_keeps) (L := 2) (av := [.ref qa900]) (Qc := fun A => QBv (S := (Nat → Nat → Value)) (fun u : (Nat → Nat → Value) => Ok K u ∧ Fr [13053, 92000, 94000] K hp0 u ∧ (∃ z : Int32, u qa900 53 = .int z ∧ ((1 : Int) ≤ z.toInt ∧ z.toInt ≤ 40))) G (fun u => va_pl Ls (cellOf cy K ln u)) A) (plainFor_of_name (by decide)) (Nat.le_of_ble_eq_true rfl) ?_
  intro p e s m below meth c hsz hx hb hr hml hown hT hlocks hin hK A hA hE hw hS ls hl
  have hw : PW G cy K ln Ls A hp0 s.heap := hw
  have hown : s.vm.findClass "LieClockModel" = some m.cls := hown
  have hl : lv_has ls 2 [(0, .ref qa900)] := hl
  obtain ⟨Q, hQ⟩ : ∃ Q : State → Prop, Q = MQ below (QBv (S := (Nat → Nat → Value)) (fun u : (Nat → Nat → Value) => Ok K u ∧ Fr [13053, 92000, 94000] K hp0 u ∧ (∃ z : Int32, u qa900 53 = .int z ∧ ((1 : Int) ≤ z.toInt ∧ z.toInt ≤ 40))) G (fun u => va_pl Ls (cellOf cy K ln u)) A) ([.ref qa900] : List Value).toArray s 0 0 A := ⟨_, rfl⟩
  rw [← hQ]
  refine lv_aload_n hx hb dX12_keeps_0 rfl (lv_at hl 0 rfl) ?_
  obtain ⟨zi2, eq1, bd3⟩ := rd_13053 ok0 kd900
  refine p_get (ci := 12) (v := .int zi2) (C := RX12) (T := TX12) (N := 69) hx hb hT iw_X12 hown hK hw hW kd900 (by decide) rfl rfl 53 (by decide) eq1 (hT _ tb_1427) (fun _ h9 => h9) dX12_keeps_1 ?_
  refine lv_bipush (v := 40) hx hb dX12_keeps_4 (by decide) ?_
  have jn289 : ∀ (hp283 : Nat → Nat → Value) (zi287 : Int32) (H : Heap) (locs : List Loc) (ls : Array Slot), Ok K hp283 → Fr [13053, 94000] K hp0 hp283 → ((0 : Int) ≤ zi287.toInt ∧ zi287.toInt ≤ 39) → hp283 qa900 53 = .int zi287 → lv_has ls 2 [(0, .ref qa900)] → PW G cy K ln Ls A hp283 H → va_S A s.heap H locs → W p l e ({ frames := 0, cells := 0, slots := 0, locals := 0 } : Room) s m ([.ref qa900] : List Value).toArray below meth c H locs 0 0 Q (F0 m 49 ls []) := by
    intro hp283 zi287 H locs ls ok285 F284 bd288 eq286 hl hw hS
    refine lv_iconst (v := 0) hx hb dX12_keeps_49 (by decide) ?_
    refine lv_istore_n (lv' := [(1, .int 0), (0, .ref qa900)]) hx hb dX12_keeps_50 rfl hl (by decide) rfl (fun ls hl => ?_)
    have lp514 : ∀ (n512 : Nat) (hp456 : Nat → Nat → Value) (zi455 : Int32) (H : Heap) (locs : List Loc) (ls : Array Slot), 40 - zi455.toInt < (n512 : Int) → Ok K hp456 → Fr [94000] K hp283 hp456 → ((0 : Int) ≤ zi455.toInt ∧ zi455.toInt ≤ 40) → lv_has ls 2 [(0, .ref qa900), (1, .int zi455)] → PW G cy K ln Ls A hp456 H → va_S A s.heap H locs → W p l e ({ frames := 0, cells := 0, slots := 0, locals := 0 } : Room) s m ([.ref qa900] : List Value).toArray below meth c H locs 0 0 Q (F0 m 51 ls []) := by
      intro n512
      induction n512 with
      | zero =>
        intro hp456 zi455 H locs ls hm515 ok458 F457 bd459 hl hw hS
        exact absurd hm515 (by have := bd459; omega)
      | succ n512 ih513 =>
        intro hp456 zi455 H locs ls hm515 ok458 F457 bd459 hl hw hS
        refine lv_iload_n hx hb dX12_keeps_51 rfl (lv_at hl 1 rfl) ?_
        refine lv_bipush (v := 40) hx hb dX12_keeps_52 (by decide) ?_
        refine lv_icmp_ge (tgt := 83) hx hb dX12_keeps_54 (by decide) (fun cn516 => ?_) (fun cn516 => ?_)
        · skip
          have bd542 : (40 : Int) ≤ zi455.toInt ∧ zi455.toInt ≤ 40 := r_le_y cn516 bc_40 bd459 (by decide) (by decide)
          refine lv_aload_n hx hb dX12_keeps_83 rfl (lv_at hl 0 rfl) ?_
          refine lv_dup hx hb dX12_keeps_84 rfl ?_
          have eq543 : hp456 qa900 53 = .int zi287 := Eq.trans (Fr.at (cq := 13053) F457 kd900 (cd_o (by decide)) (by decide)) eq286
          refine p_get (ci := 12) (v := .int zi287) (C := RX12) (T := TX12) (N := 69) hx hb hT iw_X12 hown hK hw hW kd900 (by decide) rfl rfl 53 (by decide) eq543 (hT _ tb_1427) (fun _ h9 => h9) dX12_keeps_85 ?_
          refine lv_iconst (v := 1) hx hb dX12_keeps_88 (by decide) ?_
          refine lv_iadd hx hb dX12_keeps_89 (lv_topi (fun zi544 ea545 => ?_))
          have bd546 : (1 : Int) ≤ zi544.toInt ∧ zi544.toInt ≤ 40 := b_iadd ea545 bd288 bc_1 (by decide) (by decide) (by decide) (by decide)
          have qe547 : zi544.toInt = (zi287 : Int32).toInt + (1 : Int32).toInt := e_iadd ea545 bd288 bc_1 (by decide) (by decide)
          have qe548 : zi544.toInt = zi287.toInt + 1 := by have ha : (1 : Int32).toInt = 1 := (by decide); rw [ha] at qe547; exact qe547
          refine p_put (ci := 12) (v := .int zi544) (ty := .int) (C := RX12) (T := TX12) (N := 69) hx hb hT iw_X12 tyX12 tyX12_ok nmX12 hown hK hw hS hW kd900 (by decide) rfl rfl 53 (by decide) (hT _ tb_1427) (fun _ h9 => h9) rfl (by decide +kernel) rfl rfl dX12_keeps_90 (fun hp549 eh550 H locs hw hS => ?_)
          have ok551 := wr_13053 bd546 (by decide) (by decide) ok458 kd900 eh550
          refine lv_iconst (v := 0) hx hb dX12_keeps_93 (by decide) ?_
          refine lv_istore_n (lv' := [(1, .int 0), (0, .ref qa900)]) hx hb dX12_keeps_94 rfl hl (by decide) rfl (fun ls hl => ?_)
          have lp719 : ∀ (n717 : Nat) (hp675 : Nat → Nat → Value) (zi674 : Int32) (H : Heap) (locs : List Loc) (ls : Array Slot), 40 - zi674.toInt < (n717 : Int) → Ok K hp675 → Fr [92000] K hp549 hp675 → ((0 : Int) ≤ zi674.toInt ∧ zi674.toInt ≤ 40) → lv_has ls 2 [(0, .ref qa900), (1, .int zi674)] → PW G cy K ln Ls A hp675 H → va_S A s.heap H locs → W p l e ({ frames := 0, cells := 0, slots := 0, locals := 0 } : Room) s m ([.ref qa900] : List Value).toArray below meth c H locs 0 0 Q (F0 m 95 ls []) := by
            intro n717
            induction n717 with
            | zero =>
              intro hp675 zi674 H locs ls hm720 ok677 F676 bd678 hl hw hS
              exact absurd hm720 (by have := bd678; omega)
            | succ n717 ih718 =>
              intro hp675 zi674 H locs ls hm720 ok677 F676 bd678 hl hw hS
              refine lv_iload_n hx hb dX12_keeps_95 rfl (lv_at hl 1 rfl) ?_
              refine lv_bipush (v := 40) hx hb dX12_keeps_96 (by decide) ?_
              refine lv_icmp_ge (tgt := 119) hx hb dX12_keeps_98 (by decide) (fun cn721 => ?_) (fun cn721 => ?_)
              · skip
                have bd722 : (40 : Int) ≤ zi674.toInt ∧ zi674.toInt ≤ 40 := r_le_y cn721 bc_40 bd678 (by decide) (by decide)
                have eq723 : hp675 qa900 53 = .int zi544 := Eq.trans (Fr.at (cq := 13053) F676 kd900 (cd_o (by decide)) (by decide)) (hp_self eh550)
                rw [hQ]
                exact kz_v hx hb hr hlocks hS hp675 hw ⟨ok677, (Fr.tr (Fr.put (cq := 13053) (Fr.tr (Fr.tr (Fr.rf) F284 (by decide)) F457 (by decide)) eh550 kd900 (cd_o (by decide)) (by decide)) F676 (by decide)), ⟨_, eq723, b_wid2 bd546 (by decide) (by decide)⟩⟩ (Nat.le_of_ble_eq_true rfl) (Nat.le_of_ble_eq_true rfl) dX12_keeps_119
              · skip
                have bd724 : (0 : Int) ≤ zi674.toInt ∧ zi674.toInt ≤ 39 := r_lt_x (Int32.not_le.mp cn721) bd678 bc_40 (by decide) (by decide)
                refine lv_aload_n hx hb dX12_keeps_101 rfl (lv_at hl 0 rfl) ?_
                obtain ⟨qa726, eq725, kd727⟩ := rd_13049 ok677 kd900
                refine p_get (ci := 12) (v := .ref qa726) (C := RX12) (T := TX12) (N := 69) hx hb hT iw_X12 hown hK hw hW kd900 (by decide) rfl rfl 49 (by decide) eq725 (hT _ tb_1423) (fun _ h9 => h9) dX12_keeps_102 ?_
                refine lv_iload_n hx hb dX12_keeps_105 rfl (lv_at hl 1 rfl) ?_
                refine lv_aload_n hx hb dX12_keeps_106 rfl (lv_at hl 0 rfl) ?_
                obtain ⟨qa729, eq728, kd730⟩ := rd_13050 ok677 kd900
                refine p_get (ci := 12) (v := .ref qa729) (C := RX12) (T := TX12) (N := 69) hx hb hT iw_X12 hown hK hw hW kd900 (by decide) rfl rfl 50 (by decide) eq728 (hT _ tb_1424) (fun _ h9 => h9) dX12_keeps_107 ?_
                refine lv_iload_n hx hb dX12_keeps_110 rfl (lv_at hl 1 rfl) ?_
                obtain ⟨zi732, eq731⟩ := rd_93000 ok677 kd730 ((zi674 : Int32).toNatClampNeg)
                refine p_iald (v := zi732) hx hb hK hw hW kd730 (by decide) rfl (hW.len kd730 (n := 40) rfl (by decide)) (vp_b bd724 (by decide) (by decide)) eq731 dX12_keeps_111 ?_
                refine p_iast (x := zi732) hx hb hK hw hS hW kd727 (by decide) rfl (hW.len kd727 (n := 40) rfl (by decide)) (vp_b bd724 (by decide) (by decide)) dX12_keeps_112 (fun hp733 eh734 H locs hw hS => ?_)
                have ok735 := wr_92000 ok677 kd727 eh734
                obtain ⟨zi736, ea737⟩ : ∃ z : Int32, z = zi674 + 1 := ⟨_, rfl⟩
                have bd738 : (1 : Int) ≤ zi736.toInt ∧ zi736.toInt ≤ 40 := b_iadd ea737 bd724 bc_1 (by decide) (by decide) (by decide) (by decide)
                have qe739 : zi736.toInt = (zi674 : Int32).toInt + (1 : Int32).toInt := e_iadd ea737 bd724 bc_1 (by decide) (by decide)
                have qe740 : zi736.toInt = zi674.toInt + 1 := by have ha : (1 : Int32).toInt = 1 := (by decide); rw [ha] at qe739; exact qe739
                refine lv_iinc (v := zi736) (lv' := [(1, .int zi736), (0, .ref qa900)]) hx hb dX12_keeps_113 hl (k := 1) rfl ea737.symm (by decide) rfl (fun ls hl => ?_)
                refine lv_goto (tgt := 95) hx hb dX12_keeps_116 (by decide) ?_
                exact ih718 hp733 zi736 _ _ ls (by have := hm720; have := qe740; omega) ok735 (Fr.put (cq := 92000) (Fr.tr (Fr.rf) F676 (by decide)) eh734 kd727 (cd_a (by decide)) (by decide)) (b_wid2 bd738 (by decide) (by decide)) (lv_sub hl [1, 0] rfl) hw hS
          exact lp719 _ hp549 0 _ _ ls (lp_in _) ok551 (Fr.rf) (b_wid2 bc_0 (by decide) (by decide)) (lv_sub hl [1, 0] rfl) hw hS
        · skip
          have bd741 : (0 : Int) ≤ zi455.toInt ∧ zi455.toInt ≤ 39 := r_lt_x (Int32.not_le.mp cn516) bd459 bc_40 (by decide) (by decide)
          refine lv_aload_n hx hb dX12_keeps_57 rfl (lv_at hl 0 rfl) ?_
          obtain ⟨qa743, eq742, kd744⟩ := rd_13054 ok458 kd900
          refine p_get (ci := 12) (v := .ref qa743) (C := RX12) (T := TX12) (N := 69) hx hb hT iw_X12 hown hK hw hW kd900 (by decide) rfl rfl 54 (by decide) eq742 (hT _ tb_1428) (fun _ h9 => h9) dX12_keeps_58 ?_
          refine lv_bipush (v := 40) hx hb dX12_keeps_61 (by decide) ?_
          refine lv_aload_n hx hb dX12_keeps_63 rfl (lv_at hl 0 rfl) ?_
          have eq745 : hp456 qa900 53 = .int zi287 := Eq.trans (Fr.at (cq := 13053) F457 kd900 (cd_o (by decide)) (by decide)) eq286
          refine p_get (ci := 12) (v := .int zi287) (C := RX12) (T := TX12) (N := 69) hx hb hT iw_X12 hown hK hw hW kd900 (by decide) rfl rfl 53 (by decide) eq745 (hT _ tb_1427) (fun _ h9 => h9) dX12_keeps_64 ?_
          refine lv_imul hx hb dX12_keeps_67 (lv_topi (fun zi746 ea747 => ?_))
          have bd748 : (0 : Int) ≤ zi746.toInt ∧ zi746.toInt ≤ 1560 := b_imul ea747 bc_40 bd288 (by decide) (by decide) (by decide) (by decide) (by decide)
          refine lv_iload_n hx hb dX12_keeps_68 rfl (lv_at hl 1 rfl) ?_
          refine lv_iadd hx hb dX12_keeps_69 (lv_topi (fun zi749 ea750 => ?_))
          have bd751 : (0 : Int) ≤ zi749.toInt ∧ zi749.toInt ≤ 1599 := b_iadd ea750 bd748 bd741 (by decide) (by decide) (by decide) (by decide)
          refine lv_aload_n hx hb dX12_keeps_70 rfl (lv_at hl 0 rfl) ?_
          obtain ⟨qa753, eq752, kd754⟩ := rd_13049 ok458 kd900
          refine p_get (ci := 12) (v := .ref qa753) (C := RX12) (T := TX12) (N := 69) hx hb hT iw_X12 hown hK hw hW kd900 (by decide) rfl rfl 49 (by decide) eq752 (hT _ tb_1423) (fun _ h9 => h9) dX12_keeps_71 ?_
          refine lv_iload_n hx hb dX12_keeps_74 rfl (lv_at hl 1 rfl) ?_
          obtain ⟨zi756, eq755⟩ := rd_92000 ok458 kd754 ((zi455 : Int32).toNatClampNeg)
          refine p_iald (v := zi756) hx hb hK hw hW kd754 (by decide) rfl (hW.len kd754 (n := 40) rfl (by decide)) (vp_b bd741 (by decide) (by decide)) eq755 dX12_keeps_75 ?_
          refine p_iast (x := zi756) hx hb hK hw hS hW kd744 (by decide) rfl (hW.len kd744 (n := 1600) rfl (by decide)) (vp_b bd751 (by decide) (by decide)) dX12_keeps_76 (fun hp757 eh758 H locs hw hS => ?_)
          have ok759 := wr_94000 ok458 kd744 eh758
          obtain ⟨zi760, ea761⟩ : ∃ z : Int32, z = zi455 + 1 := ⟨_, rfl⟩
          have bd762 : (1 : Int) ≤ zi760.toInt ∧ zi760.toInt ≤ 40 := b_iadd ea761 bd741 bc_1 (by decide) (by decide) (by decide) (by decide)
          have qe763 : zi760.toInt = (zi455 : Int32).toInt + (1 : Int32).toInt := e_iadd ea761 bd741 bc_1 (by decide) (by decide)
          have qe764 : zi760.toInt = zi455.toInt + 1 := by have ha : (1 : Int32).toInt = 1 := (by decide); rw [ha] at qe763; exact qe763
          refine lv_iinc (v := zi760) (lv' := [(1, .int zi760), (0, .ref qa900)]) hx hb dX12_keeps_77 hl (k := 1) rfl ea761.symm (by decide) rfl (fun ls hl => ?_)
          refine lv_goto (tgt := 51) hx hb dX12_keeps_80 (by decide) ?_
          exact ih513 hp757 zi760 _ _ ls (by have := hm515; have := qe764; omega) ok759 (Fr.put (cq := 94000) (Fr.tr (Fr.rf) F457 (by decide)) eh758 kd744 (cd_a (by decide)) (by decide)) (b_wid2 bd762 (by decide) (by decide)) (lv_sub hl [1, 0] rfl) hw hS
    exact lp514 _ hp283 0 _ _ ls (lp_in _) ok285 (Fr.rf) (b_wid2 bc_0 (by decide) (by decide)) (lv_sub hl [1, 0] rfl) hw hS
  refine lv_icmp_ne (tgt := 49) hx hb dX12_keeps_6 (by decide) (fun cn4 => ?_) (fun cn4 => ?_)
  · skip
    have bd765 : (0 : Int) ≤ zi2.toInt ∧ zi2.toInt ≤ 39 := r_ne_hi cn4 bd3 (toi bc_40) (by decide) (by decide)
    exact jn289 hp0 zi2 _ _ ls ok0 (Fr.rf) (b_wid2 bd765 (by decide) (by decide)) eq1 (lv_sub hl [0] rfl) hw hS
  · skip
    have bd766 : (40 : Int) ≤ zi2.toInt ∧ zi2.toInt ≤ 40 := r_eq_x cn4 bd3 bc_40 (by decide) (by decide)
    refine lv_iconst (v := 0) hx hb dX12_keeps_9 (by decide) ?_
    refine lv_istore_n (lv' := [(1, .int 0), (0, .ref qa900)]) hx hb dX12_keeps_10 rfl hl (by decide) rfl (fun ls hl => ?_)
    have lp991 : ∀ (n989 : Nat) (hp943 : Nat → Nat → Value) (zi942 : Int32) (H : Heap) (locs : List Loc) (ls : Array Slot), 1560 - zi942.toInt < (n989 : Int) → Ok K hp943 → Fr [94000] K hp0 hp943 → ((0 : Int) ≤ zi942.toInt ∧ zi942.toInt ≤ 1560) → lv_has ls 2 [(0, .ref qa900), (1, .int zi942)] → PW G cy K ln Ls A hp943 H → va_S A s.heap H locs → W p l e ({ frames := 0, cells := 0, slots := 0, locals := 0 } : Room) s m ([.ref qa900] : List Value).toArray below meth c H locs 0 0 Q (F0 m 11 ls []) := by
      intro n989
      induction n989 with
      | zero =>
        intro hp943 zi942 H locs ls hm992 ok945 F944 bd946 hl hw hS
        exact absurd hm992 (by have := bd946; omega)
      | succ n989 ih990 =>
        intro hp943 zi942 H locs ls hm992 ok945 F944 bd946 hl hw hS
        refine lv_iload_n hx hb dX12_keeps_11 rfl (lv_at hl 1 rfl) ?_
        refine lv_sipush (v := 1560) hx hb dX12_keeps_12 (by decide) ?_
        refine lv_icmp_ge (tgt := 39) hx hb dX12_keeps_15 (by decide) (fun cn993 => ?_) (fun cn993 => ?_)
        · skip
          have bd1014 : (1560 : Int) ≤ zi942.toInt ∧ zi942.toInt ≤ 1560 := r_le_y cn993 bc_1560 bd946 (by decide) (by decide)
          refine lv_aload_n hx hb dX12_keeps_39 rfl (lv_at hl 0 rfl) ?_
          refine lv_dup hx hb dX12_keeps_40 rfl ?_
          have eq1015 : hp943 qa900 53 = .int zi2 := Eq.trans (Fr.at (cq := 13053) F944 kd900 (cd_o (by decide)) (by decide)) eq1
          refine p_get (ci := 12) (v := .int zi2) (C := RX12) (T := TX12) (N := 69) hx hb hT iw_X12 hown hK hw hW kd900 (by decide) rfl rfl 53 (by decide) eq1015 (hT _ tb_1427) (fun _ h9 => h9) dX12_keeps_41 ?_
          refine lv_iconst (v := 1) hx hb dX12_keeps_44 (by decide) ?_
          refine lv_isub hx hb dX12_keeps_45 (lv_topi (fun zi1016 ea1017 => ?_))
          have bd1018 : (39 : Int) ≤ zi1016.toInt ∧ zi1016.toInt ≤ 39 := b_isub ea1017 bd766 bc_1 (by decide) (by decide) (by decide) (by decide)
          have qe1019 : zi1016.toInt = (zi2 : Int32).toInt - (1 : Int32).toInt := e_isub ea1017 bd766 bc_1 (by decide) (by decide)
          have qe1020 : zi1016.toInt = zi2.toInt - 1 := by have ha : (1 : Int32).toInt = 1 := (by decide); rw [ha] at qe1019; exact qe1019
          refine p_put (ci := 12) (v := .int zi1016) (ty := .int) (C := RX12) (T := TX12) (N := 69) hx hb hT iw_X12 tyX12 tyX12_ok nmX12 hown hK hw hS hW kd900 (by decide) rfl rfl 53 (by decide) (hT _ tb_1427) (fun _ h9 => h9) rfl (by decide +kernel) rfl rfl dX12_keeps_46 (fun hp1021 eh1022 H locs hw hS => ?_)
          have ok1023 := wr_13053 bd1018 (by decide) (by decide) ok945 kd900 eh1022
          exact jn289 hp1021 zi1016 _ _ ls ok1023 (Fr.put (cq := 13053) (Fr.tr (Fr.rf) F944 (by decide)) eh1022 kd900 (cd_o (by decide)) (by decide)) (b_wid2 bd1018 (by decide) (by decide)) (hp_self eh1022) (lv_sub hl [0] rfl) hw hS
        · skip
          have bd1024 : (0 : Int) ≤ zi942.toInt ∧ zi942.toInt ≤ 1559 := r_lt_x (Int32.not_le.mp cn993) bd946 bc_1560 (by decide) (by decide)
          refine lv_aload_n hx hb dX12_keeps_18 rfl (lv_at hl 0 rfl) ?_
          obtain ⟨qa1026, eq1025, kd1027⟩ := rd_13054 ok945 kd900
          refine p_get (ci := 12) (v := .ref qa1026) (C := RX12) (T := TX12) (N := 69) hx hb hT iw_X12 hown hK hw hW kd900 (by decide) rfl rfl 54 (by decide) eq1025 (hT _ tb_1428) (fun _ h9 => h9) dX12_keeps_19 ?_
          refine lv_iload_n hx hb dX12_keeps_22 rfl (lv_at hl 1 rfl) ?_
          refine lv_aload_n hx hb dX12_keeps_23 rfl (lv_at hl 0 rfl) ?_
          refine p_get (ci := 12) (v := .ref qa1026) (C := RX12) (T := TX12) (N := 69) hx hb hT iw_X12 hown hK hw hW kd900 (by decide) rfl rfl 54 (by decide) eq1025 (hT _ tb_1428) (fun _ h9 => h9) dX12_keeps_24 ?_
          refine lv_iload_n hx hb dX12_keeps_27 rfl (lv_at hl 1 rfl) ?_
          refine lv_bipush (v := 40) hx hb dX12_keeps_28 (by decide) ?_
          refine lv_iadd hx hb dX12_keeps_30 (lv_topi (fun zi1028 ea1029 => ?_))
          have bd1030 : (40 : Int) ≤ zi1028.toInt ∧ zi1028.toInt ≤ 1599 := b_iadd ea1029 bd1024 bc_40 (by decide) (by decide) (by decide) (by decide)
          have qe1031 : zi1028.toInt = (zi942 : Int32).toInt + (40 : Int32).toInt := e_iadd ea1029 bd1024 bc_40 (by decide) (by decide)
          have qe1032 : zi1028.toInt = zi942.toInt + 40 := by have ha : (40 : Int32).toInt = 40 := (by decide); rw [ha] at qe1031; exact qe1031
          obtain ⟨zi1034, eq1033⟩ := rd_94000 ok945 kd1027 ((zi1028 : Int32).toNatClampNeg)
          refine p_iald (v := zi1034) hx hb hK hw hW kd1027 (by decide) rfl (hW.len kd1027 (n := 1600) rfl (by decide)) (vp_b bd1030 (by decide) (by decide)) eq1033 dX12_keeps_31 ?_
          refine p_iast (x := zi1034) hx hb hK hw hS hW kd1027 (by decide) rfl (hW.len kd1027 (n := 1600) rfl (by decide)) (vp_b bd1024 (by decide) (by decide)) dX12_keeps_32 (fun hp1035 eh1036 H locs hw hS => ?_)
          have ok1037 := wr_94000 ok945 kd1027 eh1036
          obtain ⟨zi1038, ea1039⟩ : ∃ z : Int32, z = zi942 + 1 := ⟨_, rfl⟩
          have bd1040 : (1 : Int) ≤ zi1038.toInt ∧ zi1038.toInt ≤ 1560 := b_iadd ea1039 bd1024 bc_1 (by decide) (by decide) (by decide) (by decide)
          have qe1041 : zi1038.toInt = (zi942 : Int32).toInt + (1 : Int32).toInt := e_iadd ea1039 bd1024 bc_1 (by decide) (by decide)
          have qe1042 : zi1038.toInt = zi942.toInt + 1 := by have ha : (1 : Int32).toInt = 1 := (by decide); rw [ha] at qe1041; exact qe1041
          refine lv_iinc (v := zi1038) (lv' := [(1, .int zi1038), (0, .ref qa900)]) hx hb dX12_keeps_33 hl (k := 1) rfl ea1039.symm (by decide) rfl (fun ls hl => ?_)
          refine lv_goto (tgt := 11) hx hb dX12_keeps_36 (by decide) ?_
          exact ih990 hp1035 zi1038 _ _ ls (by have := hm992; have := qe1042; omega) ok1037 (Fr.put (cq := 94000) (Fr.tr (Fr.rf) F944 (by decide)) eh1036 kd1027 (cd_a (by decide)) (by decide)) (b_wid2 bd1040 (by decide) (by decide)) (lv_sub hl [1, 0] rfl) hw hS
    exact lp991 _ hp0 0 _ _ ls (lp_in _) ok0 (Fr.rf) (b_wid2 bc_0 (by decide) (by decide)) (lv_sub hl [1, 0] rfl) hw hS

set_option maxRecDepth 100000 in
set_option maxHeartbeats 4000000 in
theorem cX12_say_0 (l : Launch) (G : va_G) (cy : Nat → ClassId) (ev : Ew) (K ln : Nat → Nat) (Ls : List Nat) (hW : SW K ln Ls) (sz : Nat) (hp0 : Nat → Nat → Value) (ok0 : Ok K hp0) (qa900 : Nat) (zi901 : Int32) (kd900 : K qa900 = 13) (pdLW : LW hp0 qa900) : Met l yX12_say (WS yX12_say cX12_say 3 (some .int)) { frames := 4, cells := 0, slots := 0, locals := 103 } (PB2 [.ref qa900, .int zi901] sz G cy ev (va_pl Ls (cellOf cy K ln hp0))) (QBi (S := (Nat → Nat → Value)) (fun (r : Int32) (u : (Nat → Nat → Value)) => Ok K u ∧ Fr [13048, 13051, 13053, 90000, 91000, 92000, 93000, 94000] K hp0 u ∧ ((-1 : Int) ≤ r.toInt ∧ r.toInt ≤ 2)) G (fun u => va_pl Ls (cellOf cy K ln u)) (va_A (va_pl Ls (cellOf cy K ln hp0)) sz)) 0 0 (va_A (va_pl Ls (cellOf cy K ln hp0)) sz) := by
  refine met_of2 (y := yX12_say) (L := 3) (av := [.ref qa900, .int zi901]) (Qc := fun A => QBi (S := (Nat → Nat → Value)) (fun (r : Int32) (u : (Nat → Nat → Value)) => Ok K u ∧ Fr [13048, 13051, 13053, 90000, 91000, 92000, 93000, 94000] K hp0 u ∧ ((-1 : Int) ≤ r.toInt ∧ r.toInt ≤ 2)) G (fun u => va_pl Ls (cellOf cy K ln u)) A) (plainFor_of_name (by decide)) (Nat.le_of_ble_eq_true rfl) ?_
  intro p e s m below meth c hsz hx hb hr hml hown hT hlocks hin hK A hA hE hw hS ls hl
  have hw : PW G cy K ln Ls A hp0 s.heap := hw
  have hown : s.vm.findClass "LieClockModel" = some m.cls := hown
  have hl : lv_has ls 3 [(0, .ref qa900), (1, .int zi901)] := hl
  obtain ⟨Q, hQ⟩ : ∃ Q : State → Prop, Q = MQ below (QBi (S := (Nat → Nat → Value)) (fun (r : Int32) (u : (Nat → Nat → Value)) => Ok K u ∧ Fr [13048, 13051, 13053, 90000, 91000, 92000, 93000, 94000] K hp0 u ∧ ((-1 : Int) ≤ r.toInt ∧ r.toInt ≤ 2)) G (fun u => va_pl Ls (cellOf cy K ln u)) A) ([.ref qa900, .int zi901] : List Value).toArray s 0 0 A := ⟨_, rfl⟩
  rw [← hQ]
  refine lv_aload_n hx hb dX12_say_0 rfl (lv_at hl 0 rfl) ?_
  refine lv_iload_n hx hb dX12_say_1 rfl (lv_at hl 1 rfl) ?_
  refine kq_i hw hS hA (va_runV (As := [.int zi901]) (rest := []) ⟨hx, hb, hml, hown, hT⟩ (cX12_isWord_0 l G cy ev K ln Ls hW _ hp0 ok0 qa900 zi901 kd900) (cwV 1 hT (good_V tb_1742 tb_1739 tb_1741 tb_76 tb_122) rfl rfl rfl (by decide +kernel) ⟨Nat.le_of_ble_eq_true rfl, Nat.le_of_ble_eq_true rfl⟩) (pool_preV (ci := 12) hK hE hS hA hw hW kd900 (by decide) rfl) rfl rfl hl.1 rfl (lv_room (Nat.le_of_ble_eq_true rfl)) dX12_say_2 ⟨Nat.le_of_ble_eq_true rfl, Nat.le_of_ble_eq_true rfl⟩) (fun zi5 hp1 H locs hq4 hw hS => ?_)
  obtain ⟨ok2, F3, bd6, hc7⟩ := hq4
  obtain rfl : hp0 = hp1 := (Fr.nil F3).symm
  have hw : PW G cy K ln Ls A hp0 H := hw
  rcases b01 bd6 with cn8 | cn8
  · skip
    subst cn8
    refine lv_if_ne (tgt := 10) hx hb dX12_say_5 (by decide) (fun c => absurd (d_eq bc_0 bc_0) c) (fun _ => ?_)
    refine lv_iconst (v := (-1)) hx hb dX12_say_8 (by decide) ?_
    rw [hQ]
    exact kz_i hx hb hr hlocks hS rfl hp0 hw ⟨ok0, (Fr.rf), (b_wid2 bc_m1 (by decide) (by decide))⟩ (Nat.le_of_ble_eq_true rfl) (Nat.le_of_ble_eq_true rfl) dX12_say_9
  · skip
    subst cn8
    have bd9 : (0 : Int) ≤ zi901.toInt ∧ zi901.toInt ≤ 15 := b_meet (b_all zi901) (hc7 rfl) (by decide) (by decide)
    refine lv_if_ne (tgt := 10) hx hb dX12_say_5 (by decide) (fun _ => ?_) (fun c => absurd c (d_ne bc_1 bc_0 (by decide)))
    refine lv_aload_n hx hb dX12_say_10 rfl (lv_at hl 0 rfl) ?_
    refine kq_v hw hS hA (va_runV (As := []) (rest := []) ⟨hx, hb, hml, hown, hT⟩ (cX12_copies_0 l G cy ev K ln Ls hW _ hp0 ok0 qa900 kd900) (cwV 0 hT (good_V tb_1769 tb_1766 tb_1768 tb_81 tb_122) rfl rfl rfl (by decide +kernel) ⟨Nat.le_of_ble_eq_true rfl, Nat.le_of_ble_eq_true rfl⟩) (pool_preV (ci := 12) hK hE hS hA hw hW kd900 (by decide) rfl) rfl rfl hl.1 rfl (lv_room (Nat.le_of_ble_eq_true rfl)) dX12_say_11 ⟨Nat.le_of_ble_eq_true rfl, Nat.le_of_ble_eq_true rfl⟩) (fun hp10 H locs hq13 hw hS => ?_)
    obtain ⟨ok11, F12⟩ := hq13
    have hw : PW G cy K ln Ls A hp10 H := hw
    refine lv_aload_n hx hb dX12_say_14 rfl (lv_at hl 0 rfl) ?_
    refine lv_iload_n hx hb dX12_say_15 rfl (lv_at hl 1 rfl) ?_
    have pd15 : LW hp10 qa900 := LW_fr ok0 kd900 (show Fr [93000] K hp0 hp10 from (Fr.tr (Fr.rf) F12 (by decide))) (by decide) pdLW
    refine kq_i hw hS hA (va_runV (As := [.int zi901]) (rest := []) ⟨hx, hb, hml, hown, hT⟩ (cX12_sayNow_0 l G cy ev K ln Ls hW _ hp10 ok11 qa900 zi901 kd900 (b_wid2 bd9 (by decide) (by decide)) pd15) (cwV 1 hT (good_V tb_1809 tb_1806 tb_1808 tb_87 tb_122) rfl rfl rfl (by decide +kernel) ⟨Nat.le_of_ble_eq_true rfl, Nat.le_of_ble_eq_true rfl⟩) (pool_preV (ci := 12) hK hE hS hA hw hW kd900 (by decide) rfl) rfl rfl hl.1 rfl (lv_room (Nat.le_of_ble_eq_true rfl)) dX12_say_16 ⟨Nat.le_of_ble_eq_true rfl, Nat.le_of_ble_eq_true rfl⟩) (fun zi20 hp16 H locs hq19 hw hS => ?_)
    obtain ⟨ok17, F18, bd21⟩ := hq19
    have hw : PW G cy K ln Ls A hp16 H := hw
    refine lv_istore_n (lv' := [(2, .int zi20), (0, .ref qa900), (1, .int zi901)]) hx hb dX12_say_19 rfl hl (by decide) rfl (fun ls hl => ?_)
    refine lv_aload_n hx hb dX12_say_20 rfl (lv_at hl 1 rfl) ?_
    refine kq_v hw hS hA (va_runV (As := []) (rest := []) ⟨hx, hb, hml, hown, hT⟩ (cX12_keeps_0 l G cy ev K ln Ls hW _ hp16 ok17 qa900 kd900) (cwV 0 hT (good_V tb_1835 tb_1832 tb_1834 tb_93 tb_122) rfl rfl rfl (by decide +kernel) ⟨Nat.le_of_ble_eq_true rfl, Nat.le_of_ble_eq_true rfl⟩) (pool_preV (ci := 12) hK hE hS hA hw hW kd900 (by decide) rfl) rfl rfl hl.1 rfl (lv_room (Nat.le_of_ble_eq_true rfl)) dX12_say_21 ⟨Nat.le_of_ble_eq_true rfl, Nat.le_of_ble_eq_true rfl⟩) (fun hp22 H locs hq25 hw hS => ?_)
    obtain ⟨ok23, F24, ⟨zi27, eq28, bd29⟩⟩ := hq25
    have hw : PW G cy K ln Ls A hp22 H := hw
    refine lv_iload_n hx hb dX12_say_24 rfl (lv_at hl 0 rfl) ?_
    rw [hQ]
    exact kz_i hx hb hr hlocks hS rfl hp22 hw ⟨ok23, (Fr.tr (Fr.tr (Fr.tr (Fr.rf) F12 (by decide)) F18 (by decide)) F24 (by decide)), (b_wid2 bd21 (by decide) (by decide))⟩ (Nat.le_of_ble_eq_true rfl) (Nat.le_of_ble_eq_true rfl) dX12_say_25

set_option maxRecDepth 100000 in
set_option maxHeartbeats 4000000 in
theorem cX12_look_0 (l : Launch) (G : va_G) (cy : Nat → ClassId) (ev : Ew) (K ln : Nat → Nat) (Ls : List Nat) (hW : SW K ln Ls) (sz : Nat) (hp0 : Nat → Nat → Value) (ok0 : Ok K hp0) (qa900 : Nat) (zi901 : Int32) (kd900 : K qa900 = 13) (pdLW : LW hp0 qa900) : Met l yX12_look (WS yX12_look cX12_look 4 (some .int)) { frames := 3, cells := 0, slots := 0, locals := 78 } (PB2 [.ref qa900, .int zi901] sz G cy ev (va_pl Ls (cellOf cy K ln hp0))) (QBi (S := (Nat → Nat → Value)) (fun (r : Int32) (u : (Nat → Nat → Value)) => Ok K u ∧ Fr [13048, 13051, 13053, 90000, 91000, 92000, 93000, 94000] K hp0 u) G (fun u => va_pl Ls (cellOf cy K ln u)) (va_A (va_pl Ls (cellOf cy K ln hp0)) sz)) 0 0 (va_A (va_pl Ls (cellOf cy K ln hp0)) sz) := by
  refine met_of2 (y := yX12_look) (L := 4) (av := [.ref qa900, .int zi901]) (Qc := fun A => QBi (S := (Nat → Nat → Value)) (fun (r : Int32) (u : (Nat → Nat → Value)) => Ok K u ∧ Fr [13048, 13051, 13053, 90000, 91000, 92000, 93000, 94000] K hp0 u) G (fun u => va_pl Ls (cellOf cy K ln u)) A) (plainFor_of_name (by decide)) (Nat.le_of_ble_eq_true rfl) ?_
  intro p e s m below meth c hsz hx hb hr hml hown hT hlocks hin hK A hA hE hw hS ls hl
  have hw : PW G cy K ln Ls A hp0 s.heap := hw
  have hown : s.vm.findClass "LieClockModel" = some m.cls := hown
  have hl : lv_has ls 4 [(0, .ref qa900), (1, .int zi901)] := hl
  obtain ⟨Q, hQ⟩ : ∃ Q : State → Prop, Q = MQ below (QBi (S := (Nat → Nat → Value)) (fun (r : Int32) (u : (Nat → Nat → Value)) => Ok K u ∧ Fr [13048, 13051, 13053, 90000, 91000, 92000, 93000, 94000] K hp0 u) G (fun u => va_pl Ls (cellOf cy K ln u)) A) ([.ref qa900, .int zi901] : List Value).toArray s 0 0 A := ⟨_, rfl⟩
  rw [← hQ]
  refine lv_iload_n hx hb dX12_look_0 rfl (lv_at hl 1 rfl) ?_
  refine lv_iconst (v := 0) hx hb dX12_look_1 (by decide) ?_
  refine lv_aload_n hx hb dX12_look_2 rfl (lv_at hl 0 rfl) ?_
  obtain ⟨qa2, eq1, kd3⟩ := rd_13024 ok0 kd900
  refine p_get (ci := 12) (v := .ref qa2) (C := RX12) (T := TX12) (N := 69) hx hb hT iw_X12 hown hK hw hW kd900 (by decide) rfl rfl 24 (by decide) eq1 (hT _ tb_1398) (fun _ h9 => h9) dX12_look_3 ?_
  refine lv_aload_n hx hb dX12_look_6 rfl (lv_at hl 0 rfl) ?_
  obtain ⟨zi5, eq4, bd6⟩ := rd_13018 ok0 kd900
  refine p_get (ci := 12) (v := .int zi5) (C := RX12) (T := TX12) (N := 69) hx hb hT iw_X12 hown hK hw hW kd900 (by decide) rfl rfl 18 (by decide) eq4 (hT _ tb_1392) (fun _ h9 => h9) dX12_look_7 ?_
  obtain ⟨zi8, eq7, bd9⟩ := rd_70000 ok0 kd3 ((zi5 : Int32).toNatClampNeg)
  refine p_iald (v := zi8) hx hb hK hw hW kd3 (by decide) rfl (hW.len kd3 (n := 2) rfl (by decide)) (vp_b bd6 (by decide) (by decide)) eq7 dX12_look_10 ?_
  refine lv_iconst (v := 1) hx hb dX12_look_11 (by decide) ?_
  refine lv_isub hx hb dX12_look_12 (lv_topi (fun zi10 ea11 => ?_))
  have bd12 : (-1 : Int) ≤ zi10.toInt ∧ zi10.toInt ≤ 5 := b_isub ea11 bd9 bc_1 (by decide) (by decide) (by decide) (by decide)
  have qe13 : zi10.toInt = (zi8 : Int32).toInt - (1 : Int32).toInt := e_isub ea11 bd9 bc_1 (by decide) (by decide)
  have qe14 : zi10.toInt = zi8.toInt - 1 := by have ha : (1 : Int32).toInt = 1 := (by decide); rw [ha] at qe13; exact qe13
  refine kq_i hw hS hA (va_runS (As := [.int zi901, .int 0, .int zi10]) (rest := []) ⟨hx, hb, hml, hown, hT⟩ (cX12_in_2 l G cy ev K ln Ls hW _ hp0 ok0 zi901 0 zi10 (b_wid2 bc_0 (by decide) (by decide)) (b_wid2 bd12 (by decide) (by decide))) (va_cwS 3 hT (good_S tb_1734 tb_1732 tb_1733 tb_122) rfl rfl rfl (by decide +kernel) ⟨Nat.le_of_ble_eq_true rfl, Nat.le_of_ble_eq_true rfl⟩) (PB2.preS hK hE hS hA hw) rfl rfl hl.1 rfl (lv_room (Nat.le_of_ble_eq_true rfl)) dX12_look_13 ⟨Nat.le_of_ble_eq_true rfl, Nat.le_of_ble_eq_true rfl⟩) (fun zi19 hp15 H locs hq18 hw hS => ?_)
  obtain ⟨ok16, F17, bd20, hc21, hc22⟩ := hq18
  obtain rfl : hp0 = hp15 := (Fr.nil F17).symm
  have hw : PW G cy K ln Ls A hp0 H := hw
  rcases b01 bd20 with cn23 | cn23
  · skip
    subst cn23
    refine lv_if_ne (tgt := 21) hx hb dX12_look_16 (by decide) (fun c => absurd (d_eq bc_0 bc_0) c) (fun _ => ?_)
    refine lv_iconst (v := (-1)) hx hb dX12_look_19 (by decide) ?_
    rw [hQ]
    exact kz_i hx hb hr hlocks hS rfl hp0 hw ⟨ok0, (Fr.rf)⟩ (Nat.le_of_ble_eq_true rfl) (Nat.le_of_ble_eq_true rfl) dX12_look_20
  · skip
    subst cn23
    have bd24 : (0 : Int) ≤ zi901.toInt ∧ zi901.toInt ≤ 5 := b_meet (b_all zi901) (hc21 rfl) (by decide) (by decide)
    have bd25 : (0 : Int) ≤ zi10.toInt ∧ zi10.toInt ≤ 5 := b_meet bd12 (hc22 rfl) (by decide) (by decide)
    have bd26 : (1 : Int) ≤ zi8.toInt ∧ zi8.toInt ≤ 6 := (by have := qe14; have := bd25; have := bd9; have := bc_1; omega)
    refine lv_if_ne (tgt := 21) hx hb dX12_look_16 (by decide) (fun _ => ?_) (fun c => absurd c (d_ne bc_1 bc_0 (by decide)))
    refine lv_aload_n hx hb dX12_look_21 rfl (lv_at hl 0 rfl) ?_
    obtain ⟨qa28, eq27, kd29⟩ := rd_13049 ok0 kd900
    refine p_get (ci := 12) (v := .ref qa28) (C := RX12) (T := TX12) (N := 69) hx hb hT iw_X12 hown hK hw hW kd900 (by decide) rfl rfl 49 (by decide) eq27 (hT _ tb_1423) (fun _ h9 => h9) dX12_look_22 ?_
    refine lv_iconst (v := 3) hx hb dX12_look_25 (by decide) ?_
    obtain ⟨zi31, eq30⟩ := rd_92000 ok0 kd29 ((3 : Int32).toNatClampNeg)
    refine p_iald (v := zi31) hx hb hK hw hW kd29 (by decide) rfl (hW.len kd29 (n := 40) rfl (by decide)) (vp_b bc_3 (by decide) (by decide)) eq30 dX12_look_26 ?_
    refine lv_iload_n hx hb dX12_look_27 rfl (lv_at hl 1 rfl) ?_
    refine lv_ishr hx hb dX12_look_28 (lv_topi (fun zi32 ea33 => ?_))
    refine lv_iconst (v := 1) hx hb dX12_look_29 (by decide) ?_
    refine lv_iand hx hb dX12_look_30 (lv_topi (fun zi34 ea35 => ?_))
    have bd36 : (0 : Int) ≤ zi34.toInt ∧ zi34.toInt ≤ 1 := b_and_r ea35 bc_1 (by decide) (by decide) (by decide)
    refine lv_iconst (v := 1) hx hb dX12_look_31 (by decide) ?_
    refine lv_icmp_ne (tgt := 38) hx hb dX12_look_32 (by decide) (fun cn37 => ?_) (fun cn37 => ?_)
    · skip
      have bd38 : (0 : Int) ≤ zi34.toInt ∧ zi34.toInt ≤ 0 := r_ne_hi cn37 bd36 (toi bc_1) (by decide) (by decide)
      refine lv_aload_n hx hb dX12_look_38 rfl (lv_at hl 0 rfl) ?_
      refine kq_v hw hS hA (va_runV (As := []) (rest := []) ⟨hx, hb, hml, hown, hT⟩ (cX12_copies_0 l G cy ev K ln Ls hW _ hp0 ok0 qa900 kd900) (cwV 0 hT (good_V tb_1769 tb_1766 tb_1768 tb_81 tb_122) rfl rfl rfl (by decide +kernel) ⟨Nat.le_of_ble_eq_true rfl, Nat.le_of_ble_eq_true rfl⟩) (pool_preV (ci := 12) hK hE hS hA hw hW kd900 (by decide) rfl) rfl rfl hl.1 rfl (lv_room (Nat.le_of_ble_eq_true rfl)) dX12_look_39 ⟨Nat.le_of_ble_eq_true rfl, Nat.le_of_ble_eq_true rfl⟩) (fun hp39 H locs hq42 hw hS => ?_)
      obtain ⟨ok40, F41⟩ := hq42
      have hw : PW G cy K ln Ls A hp39 H := hw
      refine lv_aload_n hx hb dX12_look_42 rfl (lv_at hl 0 rfl) ?_
      refine lv_iconst (v := 1) hx hb dX12_look_43 (by decide) ?_
      refine kq_v hw hS hA (va_runV (As := [.int 1]) (rest := []) ⟨hx, hb, hml, hown, hT⟩ (cX12_forward_0 l G cy ev K ln Ls hW _ hp39 ok40 qa900 1 kd900) (cwV 1 hT (good_V tb_1813 tb_1810 tb_1812 tb_88 tb_122) rfl rfl rfl (by decide +kernel) ⟨Nat.le_of_ble_eq_true rfl, Nat.le_of_ble_eq_true rfl⟩) (pool_preV (ci := 12) hK hE hS hA hw hW kd900 (by decide) rfl) rfl rfl hl.1 rfl (lv_room (Nat.le_of_ble_eq_true rfl)) dX12_look_44 ⟨Nat.le_of_ble_eq_true rfl, Nat.le_of_ble_eq_true rfl⟩) (fun hp44 H locs hq47 hw hS => ?_)
      obtain ⟨ok45, F46⟩ := hq47
      have hw : PW G cy K ln Ls A hp44 H := hw
      refine lv_aload_n hx hb dX12_look_47 rfl (lv_at hl 0 rfl) ?_
      obtain ⟨qa50, eq49, kd51⟩ := rd_13050 ok45 kd900
      refine p_get (ci := 12) (v := .ref qa50) (C := RX12) (T := TX12) (N := 69) hx hb hT iw_X12 hown hK hw hW kd900 (by decide) rfl rfl 50 (by decide) eq49 (hT _ tb_1424) (fun _ h9 => h9) dX12_look_48 ?_
      refine lv_iconst (v := 3) hx hb dX12_look_51 (by decide) ?_
      refine lv_dup2_11 hx hb dX12_look_52 rfl rfl ?_
      obtain ⟨zi53, eq52⟩ := rd_93000 ok45 kd51 ((3 : Int32).toNatClampNeg)
      refine p_iald (v := zi53) hx hb hK hw hW kd51 (by decide) rfl (hW.len kd51 (n := 40) rfl (by decide)) (vp_b bc_3 (by decide) (by decide)) eq52 dX12_look_53 ?_
      refine lv_iconst (v := 1) hx hb dX12_look_54 (by decide) ?_
      refine lv_iload_n hx hb dX12_look_55 rfl (lv_at hl 1 rfl) ?_
      refine lv_ishl hx hb dX12_look_56 (lv_topi (fun zi54 ea55 => ?_))
      have bd56 : (1 : Int) ≤ zi54.toInt ∧ zi54.toInt ≤ 32 := b_shl1 5 ea55 bd24 (by decide) (by decide) (by decide) (by decide) (by decide)
      refine lv_ior hx hb dX12_look_57 (lv_topi (fun zi57 ea58 => ?_))
      refine p_iast (x := zi57) hx hb hK hw hS hW kd51 (by decide) rfl (hW.len kd51 (n := 40) rfl (by decide)) (vp_b bc_3 (by decide) (by decide)) dX12_look_58 (fun hp59 eh60 H locs hw hS => ?_)
      have ok61 := wr_93000 ok45 kd51 eh60
      refine lv_iconst (v := 0) hx hb dX12_look_59 (by decide) ?_
      refine lv_istore_n (lv' := [(2, .int 0), (0, .ref qa900), (1, .int zi901)]) hx hb dX12_look_60 rfl hl (by decide) rfl (fun ls hl => ?_)
      refine lv_iconst (v := 0) hx hb dX12_look_61 (by decide) ?_
      refine lv_istore_n (lv' := [(3, .int 0), (2, .int 0), (0, .ref qa900), (1, .int zi901)]) hx hb dX12_look_62 rfl hl (by decide) rfl (fun ls hl => ?_)
      have lp250 : ∀ (n248 : Nat) (hp198 : Nat → Nat → Value) (zi196 : Int32) (zi197 : Int32) (H : Heap) (locs : List Loc) (ls : Array Slot), 6 - zi197.toInt < (n248 : Int) → Ok K hp198 → Fr [13048, 90000, 91000, 93000] K hp59 hp198 → ((0 : Int) ≤ zi197.toInt ∧ zi197.toInt ≤ 6) → lv_has ls 4 [(0, .ref qa900), (2, .int zi196), (3, .int zi197)] → PW G cy K ln Ls A hp198 H → va_S A s.heap H locs → W p l e ({ frames := 3, cells := 0, slots := 0, locals := 78 } : Room) s m ([.ref qa900, .int zi901] : List Value).toArray below meth c H locs 0 0 Q (F0 m 63 ls []) := by
        intro n248
        induction n248 with
        | zero =>
          intro hp198 zi196 zi197 H locs ls hm251 ok200 F199 bd201 hl hw hS
          exact absurd hm251 (by have := bd201; omega)
        | succ n248 ih249 =>
          intro hp198 zi196 zi197 H locs ls hm251 ok200 F199 bd201 hl hw hS
          refine lv_iload_n hx hb dX12_look_63 rfl (lv_at hl 2 rfl) ?_
          refine lv_aload_n hx hb dX12_look_64 rfl (lv_at hl 0 rfl) ?_
          obtain ⟨qa253, eq252, kd254⟩ := rd_13027 ok200 kd900
          refine p_get (ci := 12) (v := .ref qa253) (C := RX12) (T := TX12) (N := 69) hx hb hT iw_X12 hown hK hw hW kd900 (by decide) rfl rfl 27 (by decide) eq252 (hT _ tb_1401) (fun _ h9 => h9) dX12_look_65 ?_
          refine lv_aload_n hx hb dX12_look_68 rfl (lv_at hl 0 rfl) ?_
          have eq255 : hp198 qa900 18 = .int zi5 := Eq.trans (Fr.at (cq := 13018) F199 kd900 (cd_o (by decide)) (by decide)) (Eq.trans (up_at eh60 (Or.inl (kd_ne kd900 kd51 (by decide)))) (Eq.trans (Fr.at (cq := 13018) F46 kd900 (cd_o (by decide)) (by decide)) (Eq.trans (Fr.at (cq := 13018) F41 kd900 (cd_o (by decide)) (by decide)) eq4)))
          refine p_get (ci := 12) (v := .int zi5) (C := RX12) (T := TX12) (N := 69) hx hb hT iw_X12 hown hK hw hW kd900 (by decide) rfl rfl 18 (by decide) eq255 (hT _ tb_1392) (fun _ h9 => h9) dX12_look_69 ?_
          obtain ⟨zi257, eq256, bd258⟩ := rd_73000 ok200 kd254 ((zi5 : Int32).toNatClampNeg)
          refine p_iald (v := zi257) hx hb hK hw hW kd254 (by decide) rfl (hW.len kd254 (n := 2) rfl (by decide)) (vp_b bd6 (by decide) (by decide)) eq256 dX12_look_72 ?_
          refine lv_icmp_ge (tgt := 90) hx hb dX12_look_73 (by decide) (fun cn259 => ?_) (fun cn259 => ?_)
          · skip
            refine lv_aload_n hx hb dX12_look_90 rfl (lv_at hl 0 rfl) ?_
            refine kq_v hw hS hA (va_runV (As := []) (rest := []) ⟨hx, hb, hml, hown, hT⟩ (cX12_keeps_0 l G cy ev K ln Ls hW _ hp198 ok200 qa900 kd900) (cwV 0 hT (good_V tb_1835 tb_1832 tb_1834 tb_93 tb_122) rfl rfl rfl (by decide +kernel) ⟨Nat.le_of_ble_eq_true rfl, Nat.le_of_ble_eq_true rfl⟩) (pool_preV (ci := 12) hK hE hS hA hw hW kd900 (by decide) rfl) rfl rfl hl.1 rfl (lv_room (Nat.le_of_ble_eq_true rfl)) dX12_look_91 ⟨Nat.le_of_ble_eq_true rfl, Nat.le_of_ble_eq_true rfl⟩) (fun hp275 H locs hq278 hw hS => ?_)
            obtain ⟨ok276, F277, ⟨zi280, eq281, bd282⟩⟩ := hq278
            have hw : PW G cy K ln Ls A hp275 H := hw
            refine lv_iload_n hx hb dX12_look_94 rfl (lv_at hl 1 rfl) ?_
            rw [hQ]
            exact kz_i hx hb hr hlocks hS rfl hp275 hw ⟨ok276, (Fr.tr (Fr.tr (Fr.put (cq := 93000) (Fr.tr (Fr.tr (Fr.rf) F41 (by decide)) F46 (by decide)) eh60 kd51 (cd_a (by decide)) (by decide)) F199 (by decide)) F277 (by decide))⟩ (Nat.le_of_ble_eq_true rfl) (Nat.le_of_ble_eq_true rfl) dX12_look_95
          · skip
            have bd283 : (0 : Int) ≤ zi197.toInt ∧ zi197.toInt ≤ 5 := r_lt_x (Int32.not_le.mp cn259) bd201 bd258 (by decide) (by decide)
            have bd284 : (1 : Int) ≤ zi257.toInt ∧ zi257.toInt ≤ 6 := r_lt_y (Int32.not_le.mp cn259) bd201 bd258 (by decide) (by decide)
            refine lv_iload_n hx hb dX12_look_76 rfl (lv_at hl 1 rfl) ?_
            refine lv_aload_n hx hb dX12_look_77 rfl (lv_at hl 0 rfl) ?_
            refine lv_iload_n hx hb dX12_look_78 rfl (lv_at hl 2 rfl) ?_
            have pd285 : LW hp198 qa900 := LW_fr ok0 kd900 (show Fr [13048, 13051, 90000, 91000, 93000] K hp0 hp198 from (Fr.tr (Fr.put (cq := 93000) (Fr.tr (Fr.tr (Fr.rf) F41 (by decide)) F46 (by decide)) eh60 kd51 (cd_a (by decide)) (by decide)) F199 (by decide))) (by decide) pdLW
            refine kq_i hw hS hA (va_runV (As := [.int zi197]) (rest := [.int zi196]) ⟨hx, hb, hml, hown, hT⟩ (cX12_looksAt_0 l G cy ev K ln Ls hW _ hp198 ok200 qa900 zi197 kd900 (b_wid2 bd283 (by decide) (by decide)) pd285) (cwV 1 hT (good_V tb_1830 tb_1827 tb_1829 tb_92 tb_122) rfl rfl rfl (by decide +kernel) ⟨Nat.le_of_ble_eq_true rfl, Nat.le_of_ble_eq_true rfl⟩) (pool_preV (ci := 12) hK hE hS hA hw hW kd900 (by decide) rfl) rfl rfl hl.1 rfl (lv_room (Nat.le_of_ble_eq_true rfl)) dX12_look_79 ⟨Nat.le_of_ble_eq_true rfl, Nat.le_of_ble_eq_true rfl⟩) (fun zi290 hp286 H locs hq289 hw hS => ?_)
            obtain ⟨ok287, F288⟩ := hq289
            have hw : PW G cy K ln Ls A hp286 H := hw
            refine lv_iadd hx hb dX12_look_82 (lv_topi (fun zi291 ea292 => ?_))
            refine lv_istore_n (lv' := [(2, .int zi291), (0, .ref qa900), (3, .int zi197)]) hx hb dX12_look_83 rfl hl (by decide) rfl (fun ls hl => ?_)
            obtain ⟨zi293, ea294⟩ : ∃ z : Int32, z = zi197 + 1 := ⟨_, rfl⟩
            have bd295 : (1 : Int) ≤ zi293.toInt ∧ zi293.toInt ≤ 6 := b_iadd ea294 bd283 bc_1 (by decide) (by decide) (by decide) (by decide)
            have qe296 : zi293.toInt = (zi197 : Int32).toInt + (1 : Int32).toInt := e_iadd ea294 bd283 bc_1 (by decide) (by decide)
            have qe297 : zi293.toInt = zi197.toInt + 1 := by have ha : (1 : Int32).toInt = 1 := (by decide); rw [ha] at qe296; exact qe296
            refine lv_iinc (v := zi293) (lv' := [(3, .int zi293), (2, .int zi291), (0, .ref qa900)]) hx hb dX12_look_84 hl (k := 2) rfl ea294.symm (by decide) rfl (fun ls hl => ?_)
            refine lv_goto (tgt := 63) hx hb dX12_look_87 (by decide) ?_
            exact ih249 hp286 zi291 zi293 _ _ ls (by have := hm251; have := qe297; omega) ok287 (Fr.tr (Fr.tr (Fr.rf) F199 (by decide)) F288 (by decide)) (b_wid2 bd295 (by decide) (by decide)) (lv_sub hl [2, 1, 0] rfl) hw hS
      exact lp250 _ hp59 0 0 _ _ ls (lp_in _) ok61 (Fr.rf) (b_wid2 bc_0 (by decide) (by decide)) (lv_sub hl [2, 1, 0] rfl) hw hS
    · skip
      have bd298 : (1 : Int) ≤ zi34.toInt ∧ zi34.toInt ≤ 1 := r_eq_x cn37 bd36 bc_1 (by decide) (by decide)
      refine lv_bipush (v := (-2)) hx hb dX12_look_35 (by decide) ?_
      rw [hQ]
      exact kz_i hx hb hr hlocks hS rfl hp0 hw ⟨ok0, (Fr.rf)⟩ (Nat.le_of_ble_eq_true rfl) (Nat.le_of_ble_eq_true rfl) dX12_look_37

set_option maxRecDepth 100000 in
set_option maxHeartbeats 4000000 in
theorem cX12_in_4 (l : Launch) (G : va_G) (cy : Nat → ClassId) (ev : Ew) (K ln : Nat → Nat) (Ls : List Nat) (hW : SW K ln Ls) (sz : Nat) (hp0 : Nat → Nat → Value) (ok0 : Ok K hp0) (zi900 : Int32) (zi901 : Int32) (zi902 : Int32) (bd901 : ((0 : Int) ≤ zi901.toInt ∧ zi901.toInt ≤ 0)) (bd902 : ((3000 : Int) ≤ zi902.toInt ∧ zi902.toInt ≤ 3000)) : Met l yX12_in (WS yX12_in cX12_in 3 (some .boolean)) { frames := 0, cells := 0, slots := 0, locals := 0 } (PB2 [.int zi900, .int zi901, .int zi902] sz G cy ev (va_pl Ls (cellOf cy K ln hp0))) (QBi (S := (Nat → Nat → Value)) (fun (r : Int32) (u : (Nat → Nat → Value)) => Ok K u ∧ Fr [] K hp0 u ∧ ((0 : Int) ≤ r.toInt ∧ r.toInt ≤ 1) ∧ (r = 1 → ((0 : Int) ≤ zi900.toInt ∧ zi900.toInt ≤ 3000))) G (fun u => va_pl Ls (cellOf cy K ln u)) (va_A (va_pl Ls (cellOf cy K ln hp0)) sz)) 0 0 (va_A (va_pl Ls (cellOf cy K ln hp0)) sz) := by
  refine met_of2 (y := yX12_in) (L := 3) (av := [.int zi900, .int zi901, .int zi902]) (Qc := fun A => QBi (S := (Nat → Nat → Value)) (fun (r : Int32) (u : (Nat → Nat → Value)) => Ok K u ∧ Fr [] K hp0 u ∧ ((0 : Int) ≤ r.toInt ∧ r.toInt ≤ 1) ∧ (r = 1 → ((0 : Int) ≤ zi900.toInt ∧ zi900.toInt ≤ 3000))) G (fun u => va_pl Ls (cellOf cy K ln u)) A) (plainFor_of_name (by decide)) (Nat.le_of_ble_eq_true rfl) ?_
  intro p e s m below meth c hsz hx hb hr hml hown hT hlocks hin hK A hA hE hw hS ls hl
  have hw : PW G cy K ln Ls A hp0 s.heap := hw
  have hown : s.vm.findClass "LieClockModel" = some m.cls := hown
  have hl : lv_has ls 3 [(0, .int zi900), (1, .int zi901), (2, .int zi902)] := hl
  obtain ⟨Q, hQ⟩ : ∃ Q : State → Prop, Q = MQ below (QBi (S := (Nat → Nat → Value)) (fun (r : Int32) (u : (Nat → Nat → Value)) => Ok K u ∧ Fr [] K hp0 u ∧ ((0 : Int) ≤ r.toInt ∧ r.toInt ≤ 1) ∧ (r = 1 → ((0 : Int) ≤ zi900.toInt ∧ zi900.toInt ≤ 3000))) G (fun u => va_pl Ls (cellOf cy K ln u)) A) ([.int zi900, .int zi901, .int zi902] : List Value).toArray s 0 0 A := ⟨_, rfl⟩
  rw [← hQ]
  refine lv_iload_n hx hb dX12_in_0 rfl (lv_at hl 0 rfl) ?_
  refine lv_iload_n hx hb dX12_in_1 rfl (lv_at hl 1 rfl) ?_
  refine lv_icmp_lt (tgt := 14) hx hb dX12_in_2 (by decide) (fun cn1 => ?_) (fun cn1 => ?_)
  · skip
    have bd2 : (-2147483648 : Int) ≤ zi900.toInt ∧ zi900.toInt ≤ -1 := r_lt_x cn1 (b_all zi900) bd901 (by decide) (by decide)
    refine lv_iconst (v := 0) hx hb dX12_in_14 (by decide) ?_
    rw [hQ]
    exact kz_i hx hb hr hlocks hS (nz_n bc_0 (by decide) (by decide)) hp0 hw ⟨ok0, (Fr.rf), (b_wid2 bc_0 (by decide) (by decide)), (fun h => absurd h (by decide))⟩ (Nat.le_of_ble_eq_true rfl) (Nat.le_of_ble_eq_true rfl) dX12_in_15
  · skip
    have bd3 : (0 : Int) ≤ zi900.toInt ∧ zi900.toInt ≤ 2147483647 := r_le_y (Int32.not_lt.mp cn1) bd901 (b_all zi900) (by decide) (by decide)
    refine lv_iload_n hx hb dX12_in_5 rfl (lv_at hl 0 rfl) ?_
    refine lv_iload_n hx hb dX12_in_6 rfl (lv_at hl 2 rfl) ?_
    refine lv_icmp_gt (tgt := 14) hx hb dX12_in_7 (by decide) (fun cn4 => ?_) (fun cn4 => ?_)
    · skip
      have bd5 : (3001 : Int) ≤ zi900.toInt ∧ zi900.toInt ≤ 2147483647 := r_lt_y cn4 bd902 bd3 (by decide) (by decide)
      refine lv_iconst (v := 0) hx hb dX12_in_14 (by decide) ?_
      rw [hQ]
      exact kz_i hx hb hr hlocks hS (nz_n bc_0 (by decide) (by decide)) hp0 hw ⟨ok0, (Fr.rf), (b_wid2 bc_0 (by decide) (by decide)), (fun h => absurd h (by decide))⟩ (Nat.le_of_ble_eq_true rfl) (Nat.le_of_ble_eq_true rfl) dX12_in_15
    · skip
      have bd6 : (0 : Int) ≤ zi900.toInt ∧ zi900.toInt ≤ 3000 := r_le_x (Int32.not_lt.mp cn4) bd3 bd902 (by decide) (by decide)
      refine lv_iconst (v := 1) hx hb dX12_in_10 (by decide) ?_
      refine lv_goto (tgt := 15) hx hb dX12_in_11 (by decide) ?_
      rw [hQ]
      exact kz_i hx hb hr hlocks hS (nz_n bc_1 (by decide) (by decide)) hp0 hw ⟨ok0, (Fr.rf), (b_wid2 bc_1 (by decide) (by decide)), (fun _ => b_wid2 bd6 (by decide) (by decide))⟩ (Nat.le_of_ble_eq_true rfl) (Nat.le_of_ble_eq_true rfl) dX12_in_15

set_option maxRecDepth 100000 in
set_option maxHeartbeats 4000000 in
theorem cX12_pause_0 (l : Launch) (G : va_G) (cy : Nat → ClassId) (ev : Ew) (K ln : Nat → Nat) (Ls : List Nat) (hW : SW K ln Ls) (sz : Nat) (hp0 : Nat → Nat → Value) (ok0 : Ok K hp0) (qa900 : Nat) (zi901 : Int32) (kd900 : K qa900 = 13) : Met l yX12_pause (WS yX12_pause cX12_pause 2 (some .int)) { frames := 3, cells := 0, slots := 0, locals := 72 } (PB2 [.ref qa900, .int zi901] sz G cy ev (va_pl Ls (cellOf cy K ln hp0))) (QBi (S := (Nat → Nat → Value)) (fun (r : Int32) (u : (Nat → Nat → Value)) => Ok K u ∧ Fr [13051, 13053, 92000, 93000, 94000] K hp0 u) G (fun u => va_pl Ls (cellOf cy K ln u)) (va_A (va_pl Ls (cellOf cy K ln hp0)) sz)) 0 0 (va_A (va_pl Ls (cellOf cy K ln hp0)) sz) := by
  refine met_of2 (y := yX12_pause) (L := 2) (av := [.ref qa900, .int zi901]) (Qc := fun A => QBi (S := (Nat → Nat → Value)) (fun (r : Int32) (u : (Nat → Nat → Value)) => Ok K u ∧ Fr [13051, 13053, 92000, 93000, 94000] K hp0 u) G (fun u => va_pl Ls (cellOf cy K ln u)) A) (plainFor_of_name (by decide)) (Nat.le_of_ble_eq_true rfl) ?_
  intro p e s m below meth c hsz hx hb hr hml hown hT hlocks hin hK A hA hE hw hS ls hl
  have hw : PW G cy K ln Ls A hp0 s.heap := hw
  have hown : s.vm.findClass "LieClockModel" = some m.cls := hown
  have hl : lv_has ls 2 [(0, .ref qa900), (1, .int zi901)] := hl
  obtain ⟨Q, hQ⟩ : ∃ Q : State → Prop, Q = MQ below (QBi (S := (Nat → Nat → Value)) (fun (r : Int32) (u : (Nat → Nat → Value)) => Ok K u ∧ Fr [13051, 13053, 92000, 93000, 94000] K hp0 u) G (fun u => va_pl Ls (cellOf cy K ln u)) A) ([.ref qa900, .int zi901] : List Value).toArray s 0 0 A := ⟨_, rfl⟩
  rw [← hQ]
  refine lv_iload_n hx hb dX12_pause_0 rfl (lv_at hl 1 rfl) ?_
  refine lv_iconst (v := 0) hx hb dX12_pause_1 (by decide) ?_
  refine lv_sipush (v := 3000) hx hb dX12_pause_2 (by decide) ?_
  refine kq_i hw hS hA (va_runS (As := [.int zi901, .int 0, .int 3000]) (rest := []) ⟨hx, hb, hml, hown, hT⟩ (cX12_in_4 l G cy ev K ln Ls hW _ hp0 ok0 zi901 0 3000 (b_wid2 bc_0 (by decide) (by decide)) (b_wid2 bc_3000 (by decide) (by decide))) (va_cwS 3 hT (good_S tb_1734 tb_1732 tb_1733 tb_122) rfl rfl rfl (by decide +kernel) ⟨Nat.le_of_ble_eq_true rfl, Nat.le_of_ble_eq_true rfl⟩) (PB2.preS hK hE hS hA hw) rfl rfl hl.1 rfl (lv_room (Nat.le_of_ble_eq_true rfl)) dX12_pause_5 ⟨Nat.le_of_ble_eq_true rfl, Nat.le_of_ble_eq_true rfl⟩) (fun zi5 hp1 H locs hq4 hw hS => ?_)
  obtain ⟨ok2, F3, bd6, hc7⟩ := hq4
  obtain rfl : hp0 = hp1 := (Fr.nil F3).symm
  have hw : PW G cy K ln Ls A hp0 H := hw
  rcases b01 bd6 with cn8 | cn8
  · skip
    subst cn8
    refine lv_if_ne (tgt := 15) hx hb dX12_pause_8 (by decide) (fun c => absurd (d_eq bc_0 bc_0) c) (fun _ => ?_)
    refine lv_ldcw (v := (-1000000)) hx hb hown (hT _ tb_1789) dX12_pause_11 ?_
    rw [hQ]
    exact kz_i hx hb hr hlocks hS rfl hp0 hw ⟨ok0, (Fr.rf)⟩ (Nat.le_of_ble_eq_true rfl) (Nat.le_of_ble_eq_true rfl) dX12_pause_14
  · skip
    subst cn8
    have bd9 : (0 : Int) ≤ zi901.toInt ∧ zi901.toInt ≤ 3000 := b_meet (b_all zi901) (hc7 rfl) (by decide) (by decide)
    refine lv_if_ne (tgt := 15) hx hb dX12_pause_8 (by decide) (fun _ => ?_) (fun c => absurd c (d_ne bc_1 bc_0 (by decide)))
    refine lv_iload_n hx hb dX12_pause_15 rfl (lv_at hl 1 rfl) ?_
    refine lv_if_ne (tgt := 26) hx hb dX12_pause_16 (by decide) (fun cn10 => ?_) (fun cn10 => ?_)
    · skip
      have bd11 : (1 : Int) ≤ zi901.toInt ∧ zi901.toInt ≤ 3000 := r_ne_lo cn10 bd9 (toi bc_0) (by decide) (by decide)
      refine lv_aload_n hx hb dX12_pause_26 rfl (lv_at hl 0 rfl) ?_
      refine kq_v hw hS hA (va_runV (As := []) (rest := []) ⟨hx, hb, hml, hown, hT⟩ (cX12_copies_0 l G cy ev K ln Ls hW _ hp0 ok0 qa900 kd900) (cwV 0 hT (good_V tb_1769 tb_1766 tb_1768 tb_81 tb_122) rfl rfl rfl (by decide +kernel) ⟨Nat.le_of_ble_eq_true rfl, Nat.le_of_ble_eq_true rfl⟩) (pool_preV (ci := 12) hK hE hS hA hw hW kd900 (by decide) rfl) rfl rfl hl.1 rfl (lv_room (Nat.le_of_ble_eq_true rfl)) dX12_pause_27 ⟨Nat.le_of_ble_eq_true rfl, Nat.le_of_ble_eq_true rfl⟩) (fun hp12 H locs hq15 hw hS => ?_)
      obtain ⟨ok13, F14⟩ := hq15
      have hw : PW G cy K ln Ls A hp12 H := hw
      refine lv_aload_n hx hb dX12_pause_30 rfl (lv_at hl 0 rfl) ?_
      refine lv_iload_n hx hb dX12_pause_31 rfl (lv_at hl 1 rfl) ?_
      refine kq_v hw hS hA (va_runV (As := [.int zi901]) (rest := []) ⟨hx, hb, hml, hown, hT⟩ (cX12_forward_0 l G cy ev K ln Ls hW _ hp12 ok13 qa900 zi901 kd900) (cwV 1 hT (good_V tb_1813 tb_1810 tb_1812 tb_88 tb_122) rfl rfl rfl (by decide +kernel) ⟨Nat.le_of_ble_eq_true rfl, Nat.le_of_ble_eq_true rfl⟩) (pool_preV (ci := 12) hK hE hS hA hw hW kd900 (by decide) rfl) rfl rfl hl.1 rfl (lv_room (Nat.le_of_ble_eq_true rfl)) dX12_pause_32 ⟨Nat.le_of_ble_eq_true rfl, Nat.le_of_ble_eq_true rfl⟩) (fun hp17 H locs hq20 hw hS => ?_)
      obtain ⟨ok18, F19⟩ := hq20
      have hw : PW G cy K ln Ls A hp17 H := hw
      refine lv_aload_n hx hb dX12_pause_35 rfl (lv_at hl 0 rfl) ?_
      refine kq_v hw hS hA (va_runV (As := []) (rest := []) ⟨hx, hb, hml, hown, hT⟩ (cX12_keeps_0 l G cy ev K ln Ls hW _ hp17 ok18 qa900 kd900) (cwV 0 hT (good_V tb_1835 tb_1832 tb_1834 tb_93 tb_122) rfl rfl rfl (by decide +kernel) ⟨Nat.le_of_ble_eq_true rfl, Nat.le_of_ble_eq_true rfl⟩) (pool_preV (ci := 12) hK hE hS hA hw hW kd900 (by decide) rfl) rfl rfl hl.1 rfl (lv_room (Nat.le_of_ble_eq_true rfl)) dX12_pause_36 ⟨Nat.le_of_ble_eq_true rfl, Nat.le_of_ble_eq_true rfl⟩) (fun hp22 H locs hq25 hw hS => ?_)
      obtain ⟨ok23, F24, ⟨zi27, eq28, bd29⟩⟩ := hq25
      have hw : PW G cy K ln Ls A hp22 H := hw
      refine lv_aload_n hx hb dX12_pause_39 rfl (lv_at hl 0 rfl) ?_
      obtain ⟨qa31, eq30, kd32⟩ := rd_13049 ok23 kd900
      refine p_get (ci := 12) (v := .ref qa31) (C := RX12) (T := TX12) (N := 69) hx hb hT iw_X12 hown hK hw hW kd900 (by decide) rfl rfl 49 (by decide) eq30 (hT _ tb_1423) (fun _ h9 => h9) dX12_pause_40 ?_
      refine lv_iconst (v := 0) hx hb dX12_pause_43 (by decide) ?_
      obtain ⟨zi34, eq33⟩ := rd_92000 ok23 kd32 ((0 : Int32).toNatClampNeg)
      refine p_iald (v := zi34) hx hb hK hw hW kd32 (by decide) rfl (hW.len kd32 (n := 40) rfl (by decide)) (vp_b bc_0 (by decide) (by decide)) eq33 dX12_pause_44 ?_
      rw [hQ]
      exact kz_i hx hb hr hlocks hS rfl hp22 hw ⟨ok23, (Fr.tr (Fr.tr (Fr.tr (Fr.rf) F14 (by decide)) F19 (by decide)) F24 (by decide))⟩ (Nat.le_of_ble_eq_true rfl) (Nat.le_of_ble_eq_true rfl) dX12_pause_45
    · skip
      have bd35 : (0 : Int) ≤ zi901.toInt ∧ zi901.toInt ≤ 0 := r_eq_x cn10 bd9 bc_0 (by decide) (by decide)
      refine lv_aload_n hx hb dX12_pause_19 rfl (lv_at hl 0 rfl) ?_
      obtain ⟨qa37, eq36, kd38⟩ := rd_13049 ok0 kd900
      refine p_get (ci := 12) (v := .ref qa37) (C := RX12) (T := TX12) (N := 69) hx hb hT iw_X12 hown hK hw hW kd900 (by decide) rfl rfl 49 (by decide) eq36 (hT _ tb_1423) (fun _ h9 => h9) dX12_pause_20 ?_
      refine lv_iconst (v := 0) hx hb dX12_pause_23 (by decide) ?_
      obtain ⟨zi40, eq39⟩ := rd_92000 ok0 kd38 ((0 : Int32).toNatClampNeg)
      refine p_iald (v := zi40) hx hb hK hw hW kd38 (by decide) rfl (hW.len kd38 (n := 40) rfl (by decide)) (vp_b bc_0 (by decide) (by decide)) eq39 dX12_pause_24 ?_
      rw [hQ]
      exact kz_i hx hb hr hlocks hS rfl hp0 hw ⟨ok0, (Fr.rf)⟩ (Nat.le_of_ble_eq_true rfl) (Nat.le_of_ble_eq_true rfl) dX12_pause_25

set_option maxRecDepth 100000 in
set_option maxHeartbeats 4000000 in
theorem cX12_undo_0 (l : Launch) (G : va_G) (cy : Nat → ClassId) (ev : Ew) (K ln : Nat → Nat) (Ls : List Nat) (hW : SW K ln Ls) (sz : Nat) (hp0 : Nat → Nat → Value) (ok0 : Ok K hp0) (qa900 : Nat) (kd900 : K qa900 = 13) : Met l yX12_undo (WS yX12_undo cX12_undo 2 (some .boolean)) { frames := 0, cells := 0, slots := 0, locals := 0 } (PB2 [.ref qa900] sz G cy ev (va_pl Ls (cellOf cy K ln hp0))) (QBi (S := (Nat → Nat → Value)) (fun (r : Int32) (u : (Nat → Nat → Value)) => Ok K u ∧ Fr [13053, 92000] K hp0 u ∧ ((0 : Int) ≤ r.toInt ∧ r.toInt ≤ 1) ∧ (∃ z : Int32, u qa900 53 = .int z ∧ ((0 : Int) ≤ z.toInt ∧ z.toInt ≤ 39)) ∧ (r = 0 → ∃ z : Int32, u qa900 53 = .int z ∧ ((0 : Int) ≤ z.toInt ∧ z.toInt ≤ 0))) G (fun u => va_pl Ls (cellOf cy K ln u)) (va_A (va_pl Ls (cellOf cy K ln hp0)) sz)) 0 0 (va_A (va_pl Ls (cellOf cy K ln hp0)) sz) := by
  refine met_of2 (y := yX12_undo) (L := 2) (av := [.ref qa900]) (Qc := fun A => QBi (S := (Nat → Nat → Value)) (fun (r : Int32) (u : (Nat → Nat → Value)) => Ok K u ∧ Fr [13053, 92000] K hp0 u ∧ ((0 : Int) ≤ r.toInt ∧ r.toInt ≤ 1) ∧ (∃ z : Int32, u qa900 53 = .int z ∧ ((0 : Int) ≤ z.toInt ∧ z.toInt ≤ 39)) ∧ (r = 0 → ∃ z : Int32, u qa900 53 = .int z ∧ ((0 : Int) ≤ z.toInt ∧ z.toInt ≤ 0))) G (fun u => va_pl Ls (cellOf cy K ln u)) A) (plainFor_of_name (by decide)) (Nat.le_of_ble_eq_true rfl) ?_
  intro p e s m below meth c hsz hx hb hr hml hown hT hlocks hin hK A hA hE hw hS ls hl
  have hw : PW G cy K ln Ls A hp0 s.heap := hw
  have hown : s.vm.findClass "LieClockModel" = some m.cls := hown
  have hl : lv_has ls 2 [(0, .ref qa900)] := hl
  obtain ⟨Q, hQ⟩ : ∃ Q : State → Prop, Q = MQ below (QBi (S := (Nat → Nat → Value)) (fun (r : Int32) (u : (Nat → Nat → Value)) => Ok K u ∧ Fr [13053, 92000] K hp0 u ∧ ((0 : Int) ≤ r.toInt ∧ r.toInt ≤ 1) ∧ (∃ z : Int32, u qa900 53 = .int z ∧ ((0 : Int) ≤ z.toInt ∧ z.toInt ≤ 39)) ∧ (r = 0 → ∃ z : Int32, u qa900 53 = .int z ∧ ((0 : Int) ≤ z.toInt ∧ z.toInt ≤ 0))) G (fun u => va_pl Ls (cellOf cy K ln u)) A) ([.ref qa900] : List Value).toArray s 0 0 A := ⟨_, rfl⟩
  rw [← hQ]
  refine lv_aload_n hx hb dX12_undo_0 rfl (lv_at hl 0 rfl) ?_
  obtain ⟨zi2, eq1, bd3⟩ := rd_13053 ok0 kd900
  refine p_get (ci := 12) (v := .int zi2) (C := RX12) (T := TX12) (N := 69) hx hb hT iw_X12 hown hK hw hW kd900 (by decide) rfl rfl 53 (by decide) eq1 (hT _ tb_1427) (fun _ h9 => h9) dX12_undo_1 ?_
  refine lv_if_ne (tgt := 9) hx hb dX12_undo_4 (by decide) (fun cn4 => ?_) (fun cn4 => ?_)
  · skip
    have bd5 : (1 : Int) ≤ zi2.toInt ∧ zi2.toInt ≤ 40 := r_ne_lo cn4 bd3 (toi bc_0) (by decide) (by decide)
    refine lv_aload_n hx hb dX12_undo_9 rfl (lv_at hl 0 rfl) ?_
    refine lv_dup hx hb dX12_undo_10 rfl ?_
    refine p_get (ci := 12) (v := .int zi2) (C := RX12) (T := TX12) (N := 69) hx hb hT iw_X12 hown hK hw hW kd900 (by decide) rfl rfl 53 (by decide) eq1 (hT _ tb_1427) (fun _ h9 => h9) dX12_undo_11 ?_
    refine lv_iconst (v := 1) hx hb dX12_undo_14 (by decide) ?_
    refine lv_isub hx hb dX12_undo_15 (lv_topi (fun zi6 ea7 => ?_))
    have bd8 : (0 : Int) ≤ zi6.toInt ∧ zi6.toInt ≤ 39 := b_isub ea7 bd5 bc_1 (by decide) (by decide) (by decide) (by decide)
    have qe9 : zi6.toInt = (zi2 : Int32).toInt - (1 : Int32).toInt := e_isub ea7 bd5 bc_1 (by decide) (by decide)
    have qe10 : zi6.toInt = zi2.toInt - 1 := by have ha : (1 : Int32).toInt = 1 := (by decide); rw [ha] at qe9; exact qe9
    refine p_put (ci := 12) (v := .int zi6) (ty := .int) (C := RX12) (T := TX12) (N := 69) hx hb hT iw_X12 tyX12 tyX12_ok nmX12 hown hK hw hS hW kd900 (by decide) rfl rfl 53 (by decide) (hT _ tb_1427) (fun _ h9 => h9) rfl (by decide +kernel) rfl rfl dX12_undo_16 (fun hp11 eh12 H locs hw hS => ?_)
    have ok13 := wr_13053 bd8 (by decide) (by decide) ok0 kd900 eh12
    refine lv_iconst (v := 0) hx hb dX12_undo_19 (by decide) ?_
    refine lv_istore_n (lv' := [(1, .int 0), (0, .ref qa900)]) hx hb dX12_undo_20 rfl hl (by decide) rfl (fun ls hl => ?_)
    have lp238 : ∀ (n236 : Nat) (hp180 : Nat → Nat → Value) (zi179 : Int32) (H : Heap) (locs : List Loc) (ls : Array Slot), 40 - zi179.toInt < (n236 : Int) → Ok K hp180 → Fr [92000] K hp11 hp180 → ((0 : Int) ≤ zi179.toInt ∧ zi179.toInt ≤ 40) → lv_has ls 2 [(0, .ref qa900), (1, .int zi179)] → PW G cy K ln Ls A hp180 H → va_S A s.heap H locs → W p l e ({ frames := 0, cells := 0, slots := 0, locals := 0 } : Room) s m ([.ref qa900] : List Value).toArray below meth c H locs 0 0 Q (F0 m 21 ls []) := by
      intro n236
      induction n236 with
      | zero =>
        intro hp180 zi179 H locs ls hm239 ok182 F181 bd183 hl hw hS
        exact absurd hm239 (by have := bd183; omega)
      | succ n236 ih237 =>
        intro hp180 zi179 H locs ls hm239 ok182 F181 bd183 hl hw hS
        refine lv_iload_n hx hb dX12_undo_21 rfl (lv_at hl 1 rfl) ?_
        refine lv_bipush (v := 40) hx hb dX12_undo_22 (by decide) ?_
        refine lv_icmp_ge (tgt := 53) hx hb dX12_undo_24 (by decide) (fun cn240 => ?_) (fun cn240 => ?_)
        · skip
          have bd266 : (40 : Int) ≤ zi179.toInt ∧ zi179.toInt ≤ 40 := r_le_y cn240 bc_40 bd183 (by decide) (by decide)
          refine lv_iconst (v := 1) hx hb dX12_undo_53 (by decide) ?_
          have eq267 : hp180 qa900 53 = .int zi6 := Eq.trans (Fr.at (cq := 13053) F181 kd900 (cd_o (by decide)) (by decide)) (hp_self eh12)
          rw [hQ]
          exact kz_i hx hb hr hlocks hS (nz_n bc_1 (by decide) (by decide)) hp180 hw ⟨ok182, (Fr.tr (Fr.put (cq := 13053) (Fr.rf) eh12 kd900 (cd_o (by decide)) (by decide)) F181 (by decide)), (b_wid2 bc_1 (by decide) (by decide)), ⟨_, eq267, b_wid2 bd8 (by decide) (by decide)⟩, (fun h => absurd h (by decide))⟩ (Nat.le_of_ble_eq_true rfl) (Nat.le_of_ble_eq_true rfl) dX12_undo_54
        · skip
          have bd268 : (0 : Int) ≤ zi179.toInt ∧ zi179.toInt ≤ 39 := r_lt_x (Int32.not_le.mp cn240) bd183 bc_40 (by decide) (by decide)
          refine lv_aload_n hx hb dX12_undo_27 rfl (lv_at hl 0 rfl) ?_
          obtain ⟨qa270, eq269, kd271⟩ := rd_13049 ok182 kd900
          refine p_get (ci := 12) (v := .ref qa270) (C := RX12) (T := TX12) (N := 69) hx hb hT iw_X12 hown hK hw hW kd900 (by decide) rfl rfl 49 (by decide) eq269 (hT _ tb_1423) (fun _ h9 => h9) dX12_undo_28 ?_
          refine lv_iload_n hx hb dX12_undo_31 rfl (lv_at hl 1 rfl) ?_
          refine lv_aload_n hx hb dX12_undo_32 rfl (lv_at hl 0 rfl) ?_
          obtain ⟨qa273, eq272, kd274⟩ := rd_13054 ok182 kd900
          refine p_get (ci := 12) (v := .ref qa273) (C := RX12) (T := TX12) (N := 69) hx hb hT iw_X12 hown hK hw hW kd900 (by decide) rfl rfl 54 (by decide) eq272 (hT _ tb_1428) (fun _ h9 => h9) dX12_undo_33 ?_
          refine lv_bipush (v := 40) hx hb dX12_undo_36 (by decide) ?_
          refine lv_aload_n hx hb dX12_undo_38 rfl (lv_at hl 0 rfl) ?_
          have eq275 : hp180 qa900 53 = .int zi6 := Eq.trans (Fr.at (cq := 13053) F181 kd900 (cd_o (by decide)) (by decide)) (hp_self eh12)
          refine p_get (ci := 12) (v := .int zi6) (C := RX12) (T := TX12) (N := 69) hx hb hT iw_X12 hown hK hw hW kd900 (by decide) rfl rfl 53 (by decide) eq275 (hT _ tb_1427) (fun _ h9 => h9) dX12_undo_39 ?_
          refine lv_imul hx hb dX12_undo_42 (lv_topi (fun zi276 ea277 => ?_))
          have bd278 : (0 : Int) ≤ zi276.toInt ∧ zi276.toInt ≤ 1560 := b_imul ea277 bc_40 bd8 (by decide) (by decide) (by decide) (by decide) (by decide)
          refine lv_iload_n hx hb dX12_undo_43 rfl (lv_at hl 1 rfl) ?_
          refine lv_iadd hx hb dX12_undo_44 (lv_topi (fun zi279 ea280 => ?_))
          have bd281 : (0 : Int) ≤ zi279.toInt ∧ zi279.toInt ≤ 1599 := b_iadd ea280 bd278 bd268 (by decide) (by decide) (by decide) (by decide)
          obtain ⟨zi283, eq282⟩ := rd_94000 ok182 kd274 ((zi279 : Int32).toNatClampNeg)
          refine p_iald (v := zi283) hx hb hK hw hW kd274 (by decide) rfl (hW.len kd274 (n := 1600) rfl (by decide)) (vp_b bd281 (by decide) (by decide)) eq282 dX12_undo_45 ?_
          refine p_iast (x := zi283) hx hb hK hw hS hW kd271 (by decide) rfl (hW.len kd271 (n := 40) rfl (by decide)) (vp_b bd268 (by decide) (by decide)) dX12_undo_46 (fun hp284 eh285 H locs hw hS => ?_)
          have ok286 := wr_92000 ok182 kd271 eh285
          obtain ⟨zi287, ea288⟩ : ∃ z : Int32, z = zi179 + 1 := ⟨_, rfl⟩
          have bd289 : (1 : Int) ≤ zi287.toInt ∧ zi287.toInt ≤ 40 := b_iadd ea288 bd268 bc_1 (by decide) (by decide) (by decide) (by decide)
          have qe290 : zi287.toInt = (zi179 : Int32).toInt + (1 : Int32).toInt := e_iadd ea288 bd268 bc_1 (by decide) (by decide)
          have qe291 : zi287.toInt = zi179.toInt + 1 := by have ha : (1 : Int32).toInt = 1 := (by decide); rw [ha] at qe290; exact qe290
          refine lv_iinc (v := zi287) (lv' := [(1, .int zi287), (0, .ref qa900)]) hx hb dX12_undo_47 hl (k := 1) rfl ea288.symm (by decide) rfl (fun ls hl => ?_)
          refine lv_goto (tgt := 21) hx hb dX12_undo_50 (by decide) ?_
          exact ih237 hp284 zi287 _ _ ls (by have := hm239; have := qe291; omega) ok286 (Fr.put (cq := 92000) (Fr.tr (Fr.rf) F181 (by decide)) eh285 kd271 (cd_a (by decide)) (by decide)) (b_wid2 bd289 (by decide) (by decide)) (lv_sub hl [1, 0] rfl) hw hS
    exact lp238 _ hp11 0 _ _ ls (lp_in _) ok13 (Fr.rf) (b_wid2 bc_0 (by decide) (by decide)) (lv_sub hl [1, 0] rfl) hw hS
  · skip
    have bd292 : (0 : Int) ≤ zi2.toInt ∧ zi2.toInt ≤ 0 := r_eq_x cn4 bd3 bc_0 (by decide) (by decide)
    refine lv_iconst (v := 0) hx hb dX12_undo_7 (by decide) ?_
    rw [hQ]
    exact kz_i hx hb hr hlocks hS (nz_n bc_0 (by decide) (by decide)) hp0 hw ⟨ok0, (Fr.rf), (b_wid2 bc_0 (by decide) (by decide)), ⟨_, eq1, b_wid2 bd292 (by decide) (by decide)⟩, (fun _ => ⟨_, eq1, b_wid2 bd292 (by decide) (by decide)⟩)⟩ (Nat.le_of_ble_eq_true rfl) (Nat.le_of_ble_eq_true rfl) dX12_undo_8

set_option maxRecDepth 100000 in
set_option maxHeartbeats 4000000 in
theorem cX12_would_0 (l : Launch) (G : va_G) (cy : Nat → ClassId) (ev : Ew) (K ln : Nat → Nat) (Ls : List Nat) (hW : SW K ln Ls) (sz : Nat) (hp0 : Nat → Nat → Value) (ok0 : Ok K hp0) (qa900 : Nat) (zi901 : Int32) (kd900 : K qa900 = 13) (pdLW : LW hp0 qa900) : Met l yX12_would (WS yX12_would cX12_would 2 (some .int)) { frames := 4, cells := 0, slots := 0, locals := 103 } (PB2 [.ref qa900, .int zi901] sz G cy ev (va_pl Ls (cellOf cy K ln hp0))) (QBi (S := (Nat → Nat → Value)) (fun (r : Int32) (u : (Nat → Nat → Value)) => Ok K u ∧ Fr [13048, 13051, 90000, 91000, 93000] K hp0 u) G (fun u => va_pl Ls (cellOf cy K ln u)) (va_A (va_pl Ls (cellOf cy K ln hp0)) sz)) 0 0 (va_A (va_pl Ls (cellOf cy K ln hp0)) sz) := by
  refine met_of2 (y := yX12_would) (L := 2) (av := [.ref qa900, .int zi901]) (Qc := fun A => QBi (S := (Nat → Nat → Value)) (fun (r : Int32) (u : (Nat → Nat → Value)) => Ok K u ∧ Fr [13048, 13051, 90000, 91000, 93000] K hp0 u) G (fun u => va_pl Ls (cellOf cy K ln u)) A) (plainFor_of_name (by decide)) (Nat.le_of_ble_eq_true rfl) ?_
  intro p e s m below meth c hsz hx hb hr hml hown hT hlocks hin hK A hA hE hw hS ls hl
  have hw : PW G cy K ln Ls A hp0 s.heap := hw
  have hown : s.vm.findClass "LieClockModel" = some m.cls := hown
  have hl : lv_has ls 2 [(0, .ref qa900), (1, .int zi901)] := hl
  obtain ⟨Q, hQ⟩ : ∃ Q : State → Prop, Q = MQ below (QBi (S := (Nat → Nat → Value)) (fun (r : Int32) (u : (Nat → Nat → Value)) => Ok K u ∧ Fr [13048, 13051, 90000, 91000, 93000] K hp0 u) G (fun u => va_pl Ls (cellOf cy K ln u)) A) ([.ref qa900, .int zi901] : List Value).toArray s 0 0 A := ⟨_, rfl⟩
  rw [← hQ]
  refine lv_aload_n hx hb dX12_would_0 rfl (lv_at hl 0 rfl) ?_
  refine lv_iload_n hx hb dX12_would_1 rfl (lv_at hl 1 rfl) ?_
  refine kq_i hw hS hA (va_runV (As := [.int zi901]) (rest := []) ⟨hx, hb, hml, hown, hT⟩ (cX12_isWord_0 l G cy ev K ln Ls hW _ hp0 ok0 qa900 zi901 kd900) (cwV 1 hT (good_V tb_1742 tb_1739 tb_1741 tb_76 tb_122) rfl rfl rfl (by decide +kernel) ⟨Nat.le_of_ble_eq_true rfl, Nat.le_of_ble_eq_true rfl⟩) (pool_preV (ci := 12) hK hE hS hA hw hW kd900 (by decide) rfl) rfl rfl hl.1 rfl (lv_room (Nat.le_of_ble_eq_true rfl)) dX12_would_2 ⟨Nat.le_of_ble_eq_true rfl, Nat.le_of_ble_eq_true rfl⟩) (fun zi5 hp1 H locs hq4 hw hS => ?_)
  obtain ⟨ok2, F3, bd6, hc7⟩ := hq4
  obtain rfl : hp0 = hp1 := (Fr.nil F3).symm
  have hw : PW G cy K ln Ls A hp0 H := hw
  rcases b01 bd6 with cn8 | cn8
  · skip
    subst cn8
    refine lv_if_ne (tgt := 12) hx hb dX12_would_5 (by decide) (fun c => absurd (d_eq bc_0 bc_0) c) (fun _ => ?_)
    refine lv_ldcw (v := (-1000000)) hx hb hown (hT _ tb_1789) dX12_would_8 ?_
    rw [hQ]
    exact kz_i hx hb hr hlocks hS rfl hp0 hw ⟨ok0, (Fr.rf)⟩ (Nat.le_of_ble_eq_true rfl) (Nat.le_of_ble_eq_true rfl) dX12_would_11
  · skip
    subst cn8
    have bd9 : (0 : Int) ≤ zi901.toInt ∧ zi901.toInt ≤ 15 := b_meet (b_all zi901) (hc7 rfl) (by decide) (by decide)
    refine lv_if_ne (tgt := 12) hx hb dX12_would_5 (by decide) (fun _ => ?_) (fun c => absurd c (d_ne bc_1 bc_0 (by decide)))
    refine lv_aload_n hx hb dX12_would_12 rfl (lv_at hl 0 rfl) ?_
    refine kq_v hw hS hA (va_runV (As := []) (rest := []) ⟨hx, hb, hml, hown, hT⟩ (cX12_copies_0 l G cy ev K ln Ls hW _ hp0 ok0 qa900 kd900) (cwV 0 hT (good_V tb_1769 tb_1766 tb_1768 tb_81 tb_122) rfl rfl rfl (by decide +kernel) ⟨Nat.le_of_ble_eq_true rfl, Nat.le_of_ble_eq_true rfl⟩) (pool_preV (ci := 12) hK hE hS hA hw hW kd900 (by decide) rfl) rfl rfl hl.1 rfl (lv_room (Nat.le_of_ble_eq_true rfl)) dX12_would_13 ⟨Nat.le_of_ble_eq_true rfl, Nat.le_of_ble_eq_true rfl⟩) (fun hp10 H locs hq13 hw hS => ?_)
    obtain ⟨ok11, F12⟩ := hq13
    have hw : PW G cy K ln Ls A hp10 H := hw
    refine lv_aload_n hx hb dX12_would_16 rfl (lv_at hl 0 rfl) ?_
    refine lv_iload_n hx hb dX12_would_17 rfl (lv_at hl 1 rfl) ?_
    have pd15 : LW hp10 qa900 := LW_fr ok0 kd900 (show Fr [93000] K hp0 hp10 from (Fr.tr (Fr.rf) F12 (by decide))) (by decide) pdLW
    refine kq_i hw hS hA (va_runV (As := [.int zi901]) (rest := []) ⟨hx, hb, hml, hown, hT⟩ (cX12_sayNow_0 l G cy ev K ln Ls hW _ hp10 ok11 qa900 zi901 kd900 (b_wid2 bd9 (by decide) (by decide)) pd15) (cwV 1 hT (good_V tb_1809 tb_1806 tb_1808 tb_87 tb_122) rfl rfl rfl (by decide +kernel) ⟨Nat.le_of_ble_eq_true rfl, Nat.le_of_ble_eq_true rfl⟩) (pool_preV (ci := 12) hK hE hS hA hw hW kd900 (by decide) rfl) rfl rfl hl.1 rfl (lv_room (Nat.le_of_ble_eq_true rfl)) dX12_would_18 ⟨Nat.le_of_ble_eq_true rfl, Nat.le_of_ble_eq_true rfl⟩) (fun zi20 hp16 H locs hq19 hw hS => ?_)
    obtain ⟨ok17, F18, bd21⟩ := hq19
    have hw : PW G cy K ln Ls A hp16 H := hw
    refine lv_pop hx hb dX12_would_21 rfl ?_
    refine lv_aload_n hx hb dX12_would_22 rfl (lv_at hl 0 rfl) ?_
    obtain ⟨qa23, eq22, kd24⟩ := rd_13050 ok17 kd900
    refine p_get (ci := 12) (v := .ref qa23) (C := RX12) (T := TX12) (N := 69) hx hb hT iw_X12 hown hK hw hW kd900 (by decide) rfl rfl 50 (by decide) eq22 (hT _ tb_1424) (fun _ h9 => h9) dX12_would_23 ?_
    refine lv_iconst (v := 0) hx hb dX12_would_26 (by decide) ?_
    obtain ⟨zi26, eq25⟩ := rd_93000 ok17 kd24 ((0 : Int32).toNatClampNeg)
    refine p_iald (v := zi26) hx hb hK hw hW kd24 (by decide) rfl (hW.len kd24 (n := 40) rfl (by decide)) (vp_b bc_0 (by decide) (by decide)) eq25 dX12_would_27 ?_
    rw [hQ]
    exact kz_i hx hb hr hlocks hS rfl hp16 hw ⟨ok17, (Fr.tr (Fr.tr (Fr.rf) F12 (by decide)) F18 (by decide))⟩ (Nat.le_of_ble_eq_true rfl) (Nat.le_of_ble_eq_true rfl) dX12_would_28

set_option maxRecDepth 100000 in
set_option maxHeartbeats 4000000 in
theorem cX12_in_5 (l : Launch) (G : va_G) (cy : Nat → ClassId) (ev : Ew) (K ln : Nat → Nat) (Ls : List Nat) (hW : SW K ln Ls) (sz : Nat) (hp0 : Nat → Nat → Value) (ok0 : Ok K hp0) (zi900 : Int32) (zi901 : Int32) (zi902 : Int32) (bd901 : ((0 : Int) ≤ zi901.toInt ∧ zi901.toInt ≤ 0)) (bd902 : ((0 : Int) ≤ zi902.toInt ∧ zi902.toInt ≤ 65535)) : Met l yX12_in (WS yX12_in cX12_in 3 (some .boolean)) { frames := 0, cells := 0, slots := 0, locals := 0 } (PB2 [.int zi900, .int zi901, .int zi902] sz G cy ev (va_pl Ls (cellOf cy K ln hp0))) (QBi (S := (Nat → Nat → Value)) (fun (r : Int32) (u : (Nat → Nat → Value)) => Ok K u ∧ Fr [] K hp0 u ∧ ((0 : Int) ≤ r.toInt ∧ r.toInt ≤ 1) ∧ (r = 1 → ((0 : Int) ≤ zi900.toInt ∧ zi900.toInt ≤ 65535))) G (fun u => va_pl Ls (cellOf cy K ln u)) (va_A (va_pl Ls (cellOf cy K ln hp0)) sz)) 0 0 (va_A (va_pl Ls (cellOf cy K ln hp0)) sz) := by
  refine met_of2 (y := yX12_in) (L := 3) (av := [.int zi900, .int zi901, .int zi902]) (Qc := fun A => QBi (S := (Nat → Nat → Value)) (fun (r : Int32) (u : (Nat → Nat → Value)) => Ok K u ∧ Fr [] K hp0 u ∧ ((0 : Int) ≤ r.toInt ∧ r.toInt ≤ 1) ∧ (r = 1 → ((0 : Int) ≤ zi900.toInt ∧ zi900.toInt ≤ 65535))) G (fun u => va_pl Ls (cellOf cy K ln u)) A) (plainFor_of_name (by decide)) (Nat.le_of_ble_eq_true rfl) ?_
  intro p e s m below meth c hsz hx hb hr hml hown hT hlocks hin hK A hA hE hw hS ls hl
  have hw : PW G cy K ln Ls A hp0 s.heap := hw
  have hown : s.vm.findClass "LieClockModel" = some m.cls := hown
  have hl : lv_has ls 3 [(0, .int zi900), (1, .int zi901), (2, .int zi902)] := hl
  obtain ⟨Q, hQ⟩ : ∃ Q : State → Prop, Q = MQ below (QBi (S := (Nat → Nat → Value)) (fun (r : Int32) (u : (Nat → Nat → Value)) => Ok K u ∧ Fr [] K hp0 u ∧ ((0 : Int) ≤ r.toInt ∧ r.toInt ≤ 1) ∧ (r = 1 → ((0 : Int) ≤ zi900.toInt ∧ zi900.toInt ≤ 65535))) G (fun u => va_pl Ls (cellOf cy K ln u)) A) ([.int zi900, .int zi901, .int zi902] : List Value).toArray s 0 0 A := ⟨_, rfl⟩
  rw [← hQ]
  refine lv_iload_n hx hb dX12_in_0 rfl (lv_at hl 0 rfl) ?_
  refine lv_iload_n hx hb dX12_in_1 rfl (lv_at hl 1 rfl) ?_
  refine lv_icmp_lt (tgt := 14) hx hb dX12_in_2 (by decide) (fun cn1 => ?_) (fun cn1 => ?_)
  · skip
    have bd2 : (-2147483648 : Int) ≤ zi900.toInt ∧ zi900.toInt ≤ -1 := r_lt_x cn1 (b_all zi900) bd901 (by decide) (by decide)
    refine lv_iconst (v := 0) hx hb dX12_in_14 (by decide) ?_
    rw [hQ]
    exact kz_i hx hb hr hlocks hS (nz_n bc_0 (by decide) (by decide)) hp0 hw ⟨ok0, (Fr.rf), (b_wid2 bc_0 (by decide) (by decide)), (fun h => absurd h (by decide))⟩ (Nat.le_of_ble_eq_true rfl) (Nat.le_of_ble_eq_true rfl) dX12_in_15
  · skip
    have bd3 : (0 : Int) ≤ zi900.toInt ∧ zi900.toInt ≤ 2147483647 := r_le_y (Int32.not_lt.mp cn1) bd901 (b_all zi900) (by decide) (by decide)
    refine lv_iload_n hx hb dX12_in_5 rfl (lv_at hl 0 rfl) ?_
    refine lv_iload_n hx hb dX12_in_6 rfl (lv_at hl 2 rfl) ?_
    refine lv_icmp_gt (tgt := 14) hx hb dX12_in_7 (by decide) (fun cn4 => ?_) (fun cn4 => ?_)
    · skip
      have bd5 : (1 : Int) ≤ zi900.toInt ∧ zi900.toInt ≤ 2147483647 := r_lt_y cn4 bd902 bd3 (by decide) (by decide)
      refine lv_iconst (v := 0) hx hb dX12_in_14 (by decide) ?_
      rw [hQ]
      exact kz_i hx hb hr hlocks hS (nz_n bc_0 (by decide) (by decide)) hp0 hw ⟨ok0, (Fr.rf), (b_wid2 bc_0 (by decide) (by decide)), (fun h => absurd h (by decide))⟩ (Nat.le_of_ble_eq_true rfl) (Nat.le_of_ble_eq_true rfl) dX12_in_15
    · skip
      have bd6 : (0 : Int) ≤ zi900.toInt ∧ zi900.toInt ≤ 65535 := r_le_x (Int32.not_lt.mp cn4) bd3 bd902 (by decide) (by decide)
      refine lv_iconst (v := 1) hx hb dX12_in_10 (by decide) ?_
      refine lv_goto (tgt := 15) hx hb dX12_in_11 (by decide) ?_
      rw [hQ]
      exact kz_i hx hb hr hlocks hS (nz_n bc_1 (by decide) (by decide)) hp0 hw ⟨ok0, (Fr.rf), (b_wid2 bc_1 (by decide) (by decide)), (fun _ => b_wid2 bd6 (by decide) (by decide))⟩ (Nat.le_of_ble_eq_true rfl) (Nat.le_of_ble_eq_true rfl) dX12_in_15

set_option maxRecDepth 100000 in
set_option maxHeartbeats 4000000 in
theorem cX12_isSet_0 (l : Launch) (G : va_G) (cy : Nat → ClassId) (ev : Ew) (K ln : Nat → Nat) (Ls : List Nat) (hW : SW K ln Ls) (sz : Nat) (hp0 : Nat → Nat → Value) (ok0 : Ok K hp0) (qa900 : Nat) (zi901 : Int32) (kd900 : K qa900 = 13) : Met l yX12_isSet (WS yX12_isSet cX12_isSet 2 (some .boolean)) { frames := 1, cells := 0, slots := 0, locals := 22 } (PB2 [.ref qa900, .int zi901] sz G cy ev (va_pl Ls (cellOf cy K ln hp0))) (QBi (S := (Nat → Nat → Value)) (fun (r : Int32) (u : (Nat → Nat → Value)) => Ok K u ∧ Fr [] K hp0 u ∧ ((0 : Int) ≤ r.toInt ∧ r.toInt ≤ 1) ∧ (r = 1 → ((0 : Int) ≤ zi901.toInt ∧ zi901.toInt ≤ 65535))) G (fun u => va_pl Ls (cellOf cy K ln u)) (va_A (va_pl Ls (cellOf cy K ln hp0)) sz)) 0 0 (va_A (va_pl Ls (cellOf cy K ln hp0)) sz) := by
  refine met_of2 (y := yX12_isSet) (L := 2) (av := [.ref qa900, .int zi901]) (Qc := fun A => QBi (S := (Nat → Nat → Value)) (fun (r : Int32) (u : (Nat → Nat → Value)) => Ok K u ∧ Fr [] K hp0 u ∧ ((0 : Int) ≤ r.toInt ∧ r.toInt ≤ 1) ∧ (r = 1 → ((0 : Int) ≤ zi901.toInt ∧ zi901.toInt ≤ 65535))) G (fun u => va_pl Ls (cellOf cy K ln u)) A) (plainFor_of_name (by decide)) (Nat.le_of_ble_eq_true rfl) ?_
  intro p e s m below meth c hsz hx hb hr hml hown hT hlocks hin hK A hA hE hw hS ls hl
  have hw : PW G cy K ln Ls A hp0 s.heap := hw
  have hown : s.vm.findClass "LieClockModel" = some m.cls := hown
  have hl : lv_has ls 2 [(0, .ref qa900), (1, .int zi901)] := hl
  obtain ⟨Q, hQ⟩ : ∃ Q : State → Prop, Q = MQ below (QBi (S := (Nat → Nat → Value)) (fun (r : Int32) (u : (Nat → Nat → Value)) => Ok K u ∧ Fr [] K hp0 u ∧ ((0 : Int) ≤ r.toInt ∧ r.toInt ≤ 1) ∧ (r = 1 → ((0 : Int) ≤ zi901.toInt ∧ zi901.toInt ≤ 65535))) G (fun u => va_pl Ls (cellOf cy K ln u)) A) ([.ref qa900, .int zi901] : List Value).toArray s 0 0 A := ⟨_, rfl⟩
  rw [← hQ]
  refine lv_iload_n hx hb dX12_isSet_0 rfl (lv_at hl 1 rfl) ?_
  refine lv_iconst (v := 0) hx hb dX12_isSet_1 (by decide) ?_
  refine lv_iconst (v := 1) hx hb dX12_isSet_2 (by decide) ?_
  refine lv_aload_n hx hb dX12_isSet_3 rfl (lv_at hl 0 rfl) ?_
  obtain ⟨qa2, eq1, kd3⟩ := rd_13028 ok0 kd900
  refine p_get (ci := 12) (v := .ref qa2) (C := RX12) (T := TX12) (N := 69) hx hb hT iw_X12 hown hK hw hW kd900 (by decide) rfl rfl 28 (by decide) eq1 (hT _ tb_1402) (fun _ h9 => h9) dX12_isSet_4 ?_
  refine lv_aload_n hx hb dX12_isSet_7 rfl (lv_at hl 0 rfl) ?_
  obtain ⟨zi5, eq4, bd6⟩ := rd_13018 ok0 kd900
  refine p_get (ci := 12) (v := .int zi5) (C := RX12) (T := TX12) (N := 69) hx hb hT iw_X12 hown hK hw hW kd900 (by decide) rfl rfl 18 (by decide) eq4 (hT _ tb_1392) (fun _ h9 => h9) dX12_isSet_8 ?_
  obtain ⟨zi8, eq7, bd9⟩ := rd_74000 ok0 kd3 ((zi5 : Int32).toNatClampNeg)
  refine p_iald (v := zi8) hx hb hK hw hW kd3 (by decide) rfl (hW.len kd3 (n := 2) rfl (by decide)) (vp_b bd6 (by decide) (by decide)) eq7 dX12_isSet_11 ?_
  refine lv_ishl hx hb dX12_isSet_12 (lv_topi (fun zi10 ea11 => ?_))
  have bd12 : (1 : Int) ≤ zi10.toInt ∧ zi10.toInt ≤ 65536 := b_shl1 16 ea11 bd9 (by decide) (by decide) (by decide) (by decide) (by decide)
  refine lv_iconst (v := 1) hx hb dX12_isSet_13 (by decide) ?_
  refine lv_isub hx hb dX12_isSet_14 (lv_topi (fun zi13 ea14 => ?_))
  have bd15 : (0 : Int) ≤ zi13.toInt ∧ zi13.toInt ≤ 65535 := b_isub ea14 bd12 bc_1 (by decide) (by decide) (by decide) (by decide)
  have qe16 : zi13.toInt = (zi10 : Int32).toInt - (1 : Int32).toInt := e_isub ea14 bd12 bc_1 (by decide) (by decide)
  have qe17 : zi13.toInt = zi10.toInt - 1 := by have ha : (1 : Int32).toInt = 1 := (by decide); rw [ha] at qe16; exact qe16
  refine kq_i hw hS hA (va_runS (As := [.int zi901, .int 0, .int zi13]) (rest := []) ⟨hx, hb, hml, hown, hT⟩ (cX12_in_5 l G cy ev K ln Ls hW _ hp0 ok0 zi901 0 zi13 (b_wid2 bc_0 (by decide) (by decide)) (b_wid2 bd15 (by decide) (by decide))) (va_cwS 3 hT (good_S tb_1734 tb_1732 tb_1733 tb_122) rfl rfl rfl (by decide +kernel) ⟨Nat.le_of_ble_eq_true rfl, Nat.le_of_ble_eq_true rfl⟩) (PB2.preS hK hE hS hA hw) rfl rfl hl.1 rfl (lv_room (Nat.le_of_ble_eq_true rfl)) dX12_isSet_15 ⟨Nat.le_of_ble_eq_true rfl, Nat.le_of_ble_eq_true rfl⟩) (fun zi22 hp18 H locs hq21 hw hS => ?_)
  obtain ⟨ok19, F20, bd23, hc24⟩ := hq21
  obtain rfl : hp0 = hp18 := (Fr.nil F20).symm
  have hw : PW G cy K ln Ls A hp0 H := hw
  rcases b01 bd23 with cn25 | cn25
  · skip
    subst cn25
    rw [hQ]
    exact kz_i hx hb hr hlocks hS (nz_n bc_0 (by decide) (by decide)) hp0 hw ⟨ok0, (Fr.rf), (b_wid2 bc_0 (by decide) (by decide)), (fun h => absurd h (by decide))⟩ (Nat.le_of_ble_eq_true rfl) (Nat.le_of_ble_eq_true rfl) dX12_isSet_18
  · skip
    subst cn25
    have bd26 : (0 : Int) ≤ zi901.toInt ∧ zi901.toInt ≤ 65535 := b_meet (b_all zi901) (hc24 rfl) (by decide) (by decide)
    rw [hQ]
    exact kz_i hx hb hr hlocks hS (nz_n bc_1 (by decide) (by decide)) hp0 hw ⟨ok0, (Fr.rf), (b_wid2 bc_1 (by decide) (by decide)), (fun _ => b_wid2 bd26 (by decide) (by decide))⟩ (Nat.le_of_ble_eq_true rfl) (Nat.le_of_ble_eq_true rfl) dX12_isSet_18

set_option maxRecDepth 100000 in
set_option maxHeartbeats 4000000 in
theorem cX12_in_6 (l : Launch) (G : va_G) (cy : Nat → ClassId) (ev : Ew) (K ln : Nat → Nat) (Ls : List Nat) (hW : SW K ln Ls) (sz : Nat) (hp0 : Nat → Nat → Value) (ok0 : Ok K hp0) (zi900 : Int32) (zi901 : Int32) (zi902 : Int32) (bd901 : ((0 : Int) ≤ zi901.toInt ∧ zi901.toInt ≤ 0)) : Met l yX12_in (WS yX12_in cX12_in 3 (some .boolean)) { frames := 0, cells := 0, slots := 0, locals := 0 } (PB2 [.int zi900, .int zi901, .int zi902] sz G cy ev (va_pl Ls (cellOf cy K ln hp0))) (QBi (S := (Nat → Nat → Value)) (fun (r : Int32) (u : (Nat → Nat → Value)) => Ok K u ∧ Fr [] K hp0 u ∧ ((0 : Int) ≤ r.toInt ∧ r.toInt ≤ 1) ∧ (r = 1 → ((0 : Int) ≤ zi900.toInt ∧ zi900.toInt ≤ 2147483647)) ∧ (r = 1 → ((0 : Int) ≤ zi902.toInt ∧ zi902.toInt ≤ 2147483647))) G (fun u => va_pl Ls (cellOf cy K ln u)) (va_A (va_pl Ls (cellOf cy K ln hp0)) sz)) 0 0 (va_A (va_pl Ls (cellOf cy K ln hp0)) sz) := by
  refine met_of2 (y := yX12_in) (L := 3) (av := [.int zi900, .int zi901, .int zi902]) (Qc := fun A => QBi (S := (Nat → Nat → Value)) (fun (r : Int32) (u : (Nat → Nat → Value)) => Ok K u ∧ Fr [] K hp0 u ∧ ((0 : Int) ≤ r.toInt ∧ r.toInt ≤ 1) ∧ (r = 1 → ((0 : Int) ≤ zi900.toInt ∧ zi900.toInt ≤ 2147483647)) ∧ (r = 1 → ((0 : Int) ≤ zi902.toInt ∧ zi902.toInt ≤ 2147483647))) G (fun u => va_pl Ls (cellOf cy K ln u)) A) (plainFor_of_name (by decide)) (Nat.le_of_ble_eq_true rfl) ?_
  intro p e s m below meth c hsz hx hb hr hml hown hT hlocks hin hK A hA hE hw hS ls hl
  have hw : PW G cy K ln Ls A hp0 s.heap := hw
  have hown : s.vm.findClass "LieClockModel" = some m.cls := hown
  have hl : lv_has ls 3 [(0, .int zi900), (1, .int zi901), (2, .int zi902)] := hl
  obtain ⟨Q, hQ⟩ : ∃ Q : State → Prop, Q = MQ below (QBi (S := (Nat → Nat → Value)) (fun (r : Int32) (u : (Nat → Nat → Value)) => Ok K u ∧ Fr [] K hp0 u ∧ ((0 : Int) ≤ r.toInt ∧ r.toInt ≤ 1) ∧ (r = 1 → ((0 : Int) ≤ zi900.toInt ∧ zi900.toInt ≤ 2147483647)) ∧ (r = 1 → ((0 : Int) ≤ zi902.toInt ∧ zi902.toInt ≤ 2147483647))) G (fun u => va_pl Ls (cellOf cy K ln u)) A) ([.int zi900, .int zi901, .int zi902] : List Value).toArray s 0 0 A := ⟨_, rfl⟩
  rw [← hQ]
  refine lv_iload_n hx hb dX12_in_0 rfl (lv_at hl 0 rfl) ?_
  refine lv_iload_n hx hb dX12_in_1 rfl (lv_at hl 1 rfl) ?_
  refine lv_icmp_lt (tgt := 14) hx hb dX12_in_2 (by decide) (fun cn1 => ?_) (fun cn1 => ?_)
  · skip
    have bd2 : (-2147483648 : Int) ≤ zi900.toInt ∧ zi900.toInt ≤ -1 := r_lt_x cn1 (b_all zi900) bd901 (by decide) (by decide)
    refine lv_iconst (v := 0) hx hb dX12_in_14 (by decide) ?_
    rw [hQ]
    exact kz_i hx hb hr hlocks hS (nz_n bc_0 (by decide) (by decide)) hp0 hw ⟨ok0, (Fr.rf), (b_wid2 bc_0 (by decide) (by decide)), (fun h => absurd h (by decide)), (fun h => absurd h (by decide))⟩ (Nat.le_of_ble_eq_true rfl) (Nat.le_of_ble_eq_true rfl) dX12_in_15
  · skip
    have bd3 : (0 : Int) ≤ zi900.toInt ∧ zi900.toInt ≤ 2147483647 := r_le_y (Int32.not_lt.mp cn1) bd901 (b_all zi900) (by decide) (by decide)
    refine lv_iload_n hx hb dX12_in_5 rfl (lv_at hl 0 rfl) ?_
    refine lv_iload_n hx hb dX12_in_6 rfl (lv_at hl 2 rfl) ?_
    refine lv_icmp_gt (tgt := 14) hx hb dX12_in_7 (by decide) (fun cn4 => ?_) (fun cn4 => ?_)
    · skip
      have bd5 : (-2147483648 : Int) ≤ zi902.toInt ∧ zi902.toInt ≤ 2147483646 := r_lt_x cn4 (b_all zi902) bd3 (by decide) (by decide)
      refine lv_iconst (v := 0) hx hb dX12_in_14 (by decide) ?_
      rw [hQ]
      exact kz_i hx hb hr hlocks hS (nz_n bc_0 (by decide) (by decide)) hp0 hw ⟨ok0, (Fr.rf), (b_wid2 bc_0 (by decide) (by decide)), (fun h => absurd h (by decide)), (fun h => absurd h (by decide))⟩ (Nat.le_of_ble_eq_true rfl) (Nat.le_of_ble_eq_true rfl) dX12_in_15
    · skip
      have bd6 : (0 : Int) ≤ zi902.toInt ∧ zi902.toInt ≤ 2147483647 := r_le_y (Int32.not_lt.mp cn4) bd3 (b_all zi902) (by decide) (by decide)
      refine lv_iconst (v := 1) hx hb dX12_in_10 (by decide) ?_
      refine lv_goto (tgt := 15) hx hb dX12_in_11 (by decide) ?_
      rw [hQ]
      exact kz_i hx hb hr hlocks hS (nz_n bc_1 (by decide) (by decide)) hp0 hw ⟨ok0, (Fr.rf), (b_wid2 bc_1 (by decide) (by decide)), (fun _ => b_wid2 bd3 (by decide) (by decide)), (fun _ => b_wid2 bd6 (by decide) (by decide))⟩ (Nat.le_of_ble_eq_true rfl) (Nat.le_of_ble_eq_true rfl) dX12_in_15

set_option maxRecDepth 100000 in
set_option maxHeartbeats 4000000 in
theorem cX12_states_0 (l : Launch) (G : va_G) (cy : Nat → ClassId) (ev : Ew) (K ln : Nat → Nat) (Ls : List Nat) (hW : SW K ln Ls) (sz : Nat) (hp0 : Nat → Nat → Value) (ok0 : Ok K hp0) (qa900 : Nat) (zi901 : Int32) (kd900 : K qa900 = 13) : Met l yX12_states (WS yX12_states cX12_states 5 (some .int)) { frames := 2, cells := 0, slots := 0, locals := 43 } (PB2 [.ref qa900, .int zi901] sz G cy ev (va_pl Ls (cellOf cy K ln hp0))) (QBi (S := (Nat → Nat → Value)) (fun (r : Int32) (u : (Nat → Nat → Value)) => Ok K u ∧ Fr [] K hp0 u) G (fun u => va_pl Ls (cellOf cy K ln u)) (va_A (va_pl Ls (cellOf cy K ln hp0)) sz)) 0 0 (va_A (va_pl Ls (cellOf cy K ln hp0)) sz) := by
  refine met_of2 (y := yX12_states) (L := 5) (av := [.ref qa900, .int zi901]) (Qc := fun A => QBi (S := (Nat → Nat → Value)) (fun (r : Int32) (u : (Nat → Nat → Value)) => Ok K u ∧ Fr [] K hp0 u) G (fun u => va_pl Ls (cellOf cy K ln u)) A) (plainFor_of_name (by decide)) (Nat.le_of_ble_eq_true rfl) ?_
  intro p e s m below meth c hsz hx hb hr hml hown hT hlocks hin hK A hA hE hw hS ls hl
  have hw : PW G cy K ln Ls A hp0 s.heap := hw
  have hown : s.vm.findClass "LieClockModel" = some m.cls := hown
  have hl : lv_has ls 5 [(0, .ref qa900), (1, .int zi901)] := hl
  obtain ⟨Q, hQ⟩ : ∃ Q : State → Prop, Q = MQ below (QBi (S := (Nat → Nat → Value)) (fun (r : Int32) (u : (Nat → Nat → Value)) => Ok K u ∧ Fr [] K hp0 u) G (fun u => va_pl Ls (cellOf cy K ln u)) A) ([.ref qa900, .int zi901] : List Value).toArray s 0 0 A := ⟨_, rfl⟩
  rw [← hQ]
  refine lv_aload_n hx hb dX12_states_0 rfl (lv_at hl 0 rfl) ?_
  refine lv_iload_n hx hb dX12_states_1 rfl (lv_at hl 1 rfl) ?_
  refine kq_i hw hS hA (va_runV (As := [.int zi901]) (rest := []) ⟨hx, hb, hml, hown, hT⟩ (cX12_isSet_0 l G cy ev K ln Ls hW _ hp0 ok0 qa900 zi901 kd900) (cwV 1 hT (good_V tb_1879 tb_1876 tb_1878 tb_97 tb_122) rfl rfl rfl (by decide +kernel) ⟨Nat.le_of_ble_eq_true rfl, Nat.le_of_ble_eq_true rfl⟩) (pool_preV (ci := 12) hK hE hS hA hw hW kd900 (by decide) rfl) rfl rfl hl.1 rfl (lv_room (Nat.le_of_ble_eq_true rfl)) dX12_states_2 ⟨Nat.le_of_ble_eq_true rfl, Nat.le_of_ble_eq_true rfl⟩) (fun zi5 hp1 H locs hq4 hw hS => ?_)
  obtain ⟨ok2, F3, bd6, hc7⟩ := hq4
  obtain rfl : hp0 = hp1 := (Fr.nil F3).symm
  have hw : PW G cy K ln Ls A hp0 H := hw
  rcases b01 bd6 with cn8 | cn8
  · skip
    subst cn8
    refine lv_if_ne (tgt := 10) hx hb dX12_states_5 (by decide) (fun c => absurd (d_eq bc_0 bc_0) c) (fun _ => ?_)
    refine lv_iconst (v := (-1)) hx hb dX12_states_8 (by decide) ?_
    rw [hQ]
    exact kz_i hx hb hr hlocks hS rfl hp0 hw ⟨ok0, (Fr.rf)⟩ (Nat.le_of_ble_eq_true rfl) (Nat.le_of_ble_eq_true rfl) dX12_states_9
  · skip
    subst cn8
    have bd9 : (0 : Int) ≤ zi901.toInt ∧ zi901.toInt ≤ 65535 := b_meet (b_all zi901) (hc7 rfl) (by decide) (by decide)
    refine lv_if_ne (tgt := 10) hx hb dX12_states_5 (by decide) (fun _ => ?_) (fun c => absurd c (d_ne bc_1 bc_0 (by decide)))
    refine lv_aload_n hx hb dX12_states_10 rfl (lv_at hl 0 rfl) ?_
    refine lv_aload_n hx hb dX12_states_11 rfl (lv_at hl 0 rfl) ?_
    obtain ⟨qa11, eq10, kd12⟩ := rd_13049 ok0 kd900
    refine p_get (ci := 12) (v := .ref qa11) (C := RX12) (T := TX12) (N := 69) hx hb hT iw_X12 hown hK hw hW kd900 (by decide) rfl rfl 49 (by decide) eq10 (hT _ tb_1423) (fun _ h9 => h9) dX12_states_12 ?_
    refine lv_iconst (v := 3) hx hb dX12_states_15 (by decide) ?_
    obtain ⟨zi14, eq13⟩ := rd_92000 ok0 kd12 ((3 : Int32).toNatClampNeg)
    refine p_iald (v := zi14) hx hb hK hw hW kd12 (by decide) rfl (hW.len kd12 (n := 40) rfl (by decide)) (vp_b bc_3 (by decide) (by decide)) eq13 dX12_states_16 ?_
    refine kq_l hw hS hA (va_runV (As := [.int zi14]) (rest := []) ⟨hx, hb, hml, hown, hT⟩ (cX12_mayBe_0 l G cy ev K ln Ls hW _ hp0 ok0 qa900 zi14 kd900) (cwV 1 hT (good_V tb_1784 tb_1781 tb_1783 tb_84 tb_122) rfl rfl rfl (by decide +kernel) ⟨Nat.le_of_ble_eq_true rfl, Nat.le_of_ble_eq_true rfl⟩) (pool_preV (ci := 12) hK hE hS hA hw hW kd900 (by decide) rfl) rfl rfl hl.1 rfl (lv_room (Nat.le_of_ble_eq_true rfl)) dX12_states_17 ⟨Nat.le_of_ble_eq_true rfl, Nat.le_of_ble_eq_true rfl⟩) (fun wl19 hp15 H locs hq18 hw hS => ?_)
    obtain ⟨ok16, F17⟩ := hq18
    obtain rfl : hp0 = hp15 := (Fr.nil F17).symm
    have hw : PW G cy K ln Ls A hp0 H := hw
    refine lv_lstore_n (lv' := [(2, .long wl19), (0, .ref qa900), (1, .int zi901)]) hx hb dX12_states_20 rfl hl (by decide) rfl (fun ls hl => ?_)
    refine lv_iconst (v := 0) hx hb dX12_states_21 (by decide) ?_
    refine lv_istore (lv' := [(4, .int 0), (2, .long wl19), (0, .ref qa900), (1, .int zi901)]) hx hb dX12_states_22 hl (by decide) rfl (fun ls hl => ?_)
    have lp319 : ∀ (n317 : Nat) (wl232 : Int64) (zi233 : Int32) (H : Heap) (locs : List Loc) (ls : Array Slot), 16 - zi233.toInt < (n317 : Int) → ((0 : Int) ≤ zi233.toInt ∧ zi233.toInt ≤ 16) → lv_has ls 5 [(0, .ref qa900), (1, .int zi901), (2, .long wl232), (4, .int zi233)] → PW G cy K ln Ls A hp0 H → va_S A s.heap H locs → W p l e ({ frames := 2, cells := 0, slots := 0, locals := 43 } : Room) s m ([.ref qa900, .int zi901] : List Value).toArray below meth c H locs 0 0 Q (F0 m 24 ls []) := by
      intro n317
      induction n317 with
      | zero =>
        intro wl232 zi233 H locs ls hm320 bd234 hl hw hS
        exact absurd hm320 (by have := bd234; omega)
      | succ n317 ih318 =>
        intro wl232 zi233 H locs ls hm320 bd234 hl hw hS
        refine lv_iload hx hb dX12_states_24 (lv_at hl 3 rfl) ?_
        refine lv_aload_n hx hb dX12_states_26 rfl (lv_at hl 0 rfl) ?_
        obtain ⟨qa322, eq321, kd323⟩ := rd_13028 ok0 kd900
        refine p_get (ci := 12) (v := .ref qa322) (C := RX12) (T := TX12) (N := 69) hx hb hT iw_X12 hown hK hw hW kd900 (by decide) rfl rfl 28 (by decide) eq321 (hT _ tb_1402) (fun _ h9 => h9) dX12_states_27 ?_
        refine lv_aload_n hx hb dX12_states_30 rfl (lv_at hl 0 rfl) ?_
        obtain ⟨zi325, eq324, bd326⟩ := rd_13018 ok0 kd900
        refine p_get (ci := 12) (v := .int zi325) (C := RX12) (T := TX12) (N := 69) hx hb hT iw_X12 hown hK hw hW kd900 (by decide) rfl rfl 18 (by decide) eq324 (hT _ tb_1392) (fun _ h9 => h9) dX12_states_31 ?_
        obtain ⟨zi328, eq327, bd329⟩ := rd_74000 ok0 kd323 ((zi325 : Int32).toNatClampNeg)
        refine p_iald (v := zi328) hx hb hK hw hW kd323 (by decide) rfl (hW.len kd323 (n := 2) rfl (by decide)) (vp_b bd326 (by decide) (by decide)) eq327 dX12_states_34 ?_
        refine lv_icmp_ge (tgt := 63) hx hb dX12_states_35 (by decide) (fun cn330 => ?_) (fun cn330 => ?_)
        · skip
          refine lv_lload_n hx hb dX12_states_63 rfl (lv_at hl 2 rfl) ?_
          refine kq_i hw hS hA (va_runS (As := [.long wl232]) (rest := []) ⟨hx, hb, hml, hown, hT⟩ (cX12_many_0 l G cy ev K ln Ls hW _ hp0 ok0 wl232) (va_cwS 1 hT (good_S tb_1757 tb_1755 tb_1756 tb_122) rfl rfl rfl (by decide +kernel) ⟨Nat.le_of_ble_eq_true rfl, Nat.le_of_ble_eq_true rfl⟩) (PB2.preS hK hE hS hA hw) rfl rfl hl.1 rfl (lv_room (Nat.le_of_ble_eq_true rfl)) dX12_states_64 ⟨Nat.le_of_ble_eq_true rfl, Nat.le_of_ble_eq_true rfl⟩) (fun zi366 hp362 H locs hq365 hw hS => ?_)
          obtain ⟨ok363, F364⟩ := hq365
          obtain rfl : hp0 = hp362 := (Fr.nil F364).symm
          have hw : PW G cy K ln Ls A hp0 H := hw
          rw [hQ]
          exact kz_i hx hb hr hlocks hS rfl hp0 hw ⟨ok0, (Fr.rf)⟩ (Nat.le_of_ble_eq_true rfl) (Nat.le_of_ble_eq_true rfl) dX12_states_67
        · skip
          have bd367 : (0 : Int) ≤ zi233.toInt ∧ zi233.toInt ≤ 15 := r_lt_x (Int32.not_le.mp cn330) bd234 bd329 (by decide) (by decide)
          have bd368 : (1 : Int) ≤ zi328.toInt ∧ zi328.toInt ≤ 16 := r_lt_y (Int32.not_le.mp cn330) bd234 bd329 (by decide) (by decide)
          refine lv_iload_n hx hb dX12_states_38 rfl (lv_at hl 1 rfl) ?_
          refine lv_iload hx hb dX12_states_39 (lv_at hl 3 rfl) ?_
          refine lv_ishr hx hb dX12_states_41 (lv_topi (fun zi369 ea370 => ?_))
          refine lv_iconst (v := 1) hx hb dX12_states_42 (by decide) ?_
          refine lv_iand hx hb dX12_states_43 (lv_topi (fun zi371 ea372 => ?_))
          have bd373 : (0 : Int) ≤ zi371.toInt ∧ zi371.toInt ≤ 1 := b_and_r ea372 bc_1 (by decide) (by decide) (by decide)
          refine lv_iconst (v := 1) hx hb dX12_states_44 (by decide) ?_
          have jn384 : ∀ (wl383 : Int64) (H : Heap) (locs : List Loc) (ls : Array Slot), lv_has ls 5 [(0, .ref qa900), (1, .int zi901), (2, .long wl383), (4, .int zi233)] → PW G cy K ln Ls A hp0 H → va_S A s.heap H locs → W p l e ({ frames := 2, cells := 0, slots := 0, locals := 43 } : Room) s m ([.ref qa900, .int zi901] : List Value).toArray below meth c H locs 0 0 Q (F0 m 57 ls []) := by
            intro wl383 H locs ls hl hw hS
            obtain ⟨zi385, ea386⟩ : ∃ z : Int32, z = zi233 + 1 := ⟨_, rfl⟩
            have bd387 : (1 : Int) ≤ zi385.toInt ∧ zi385.toInt ≤ 16 := b_iadd ea386 bd367 bc_1 (by decide) (by decide) (by decide) (by decide)
            have qe388 : zi385.toInt = (zi233 : Int32).toInt + (1 : Int32).toInt := e_iadd ea386 bd367 bc_1 (by decide) (by decide)
            have qe389 : zi385.toInt = zi233.toInt + 1 := by have ha : (1 : Int32).toInt = 1 := (by decide); rw [ha] at qe388; exact qe388
            refine lv_iinc (v := zi385) (lv' := [(4, .int zi385), (0, .ref qa900), (1, .int zi901), (2, .long wl383)]) hx hb dX12_states_57 hl (k := 3) rfl ea386.symm (by decide) rfl (fun ls hl => ?_)
            refine lv_goto (tgt := 24) hx hb dX12_states_60 (by decide) ?_
            exact ih318 wl383 zi385 _ _ ls (by have := hm320; have := qe389; omega) (b_wid2 bd387 (by decide) (by decide)) (lv_sub hl [1, 2, 3, 0] rfl) hw hS
          refine lv_icmp_ne (tgt := 57) hx hb dX12_states_45 (by decide) (fun cn374 => ?_) (fun cn374 => ?_)
          · skip
            have bd390 : (0 : Int) ≤ zi371.toInt ∧ zi371.toInt ≤ 0 := r_ne_hi cn374 bd373 (toi bc_1) (by decide) (by decide)
            exact jn384 wl232 _ _ ls (lv_sub hl [0, 1, 2, 3] rfl) hw hS
          · skip
            have bd391 : (1 : Int) ≤ zi371.toInt ∧ zi371.toInt ≤ 1 := r_eq_x cn374 bd373 bc_1 (by decide) (by decide)
            refine lv_lload_n hx hb dX12_states_48 rfl (lv_at hl 2 rfl) ?_
            refine lv_aload_n hx hb dX12_states_49 rfl (lv_at hl 0 rfl) ?_
            refine lv_iload hx hb dX12_states_50 (lv_at hl 3 rfl) ?_
            refine kq_l hw hS hA (va_runV (As := [.int zi233]) (rest := [.long wl232]) ⟨hx, hb, hml, hown, hT⟩ (cX12_holdsOf_0 l G cy ev K ln Ls hW _ hp0 ok0 qa900 zi233 kd900 (b_wid2 bd367 (by decide) (by decide))) (cwV 1 hT (good_V tb_1750 tb_1747 tb_1749 tb_78 tb_122) rfl rfl rfl (by decide +kernel) ⟨Nat.le_of_ble_eq_true rfl, Nat.le_of_ble_eq_true rfl⟩) (pool_preV (ci := 12) hK hE hS hA hw hW kd900 (by decide) rfl) rfl rfl hl.1 rfl (lv_room (Nat.le_of_ble_eq_true rfl)) dX12_states_52 ⟨Nat.le_of_ble_eq_true rfl, Nat.le_of_ble_eq_true rfl⟩) (fun wl396 hp392 H locs hq395 hw hS => ?_)
            obtain ⟨ok393, F394⟩ := hq395
            obtain rfl : hp0 = hp392 := (Fr.nil F394).symm
            have hw : PW G cy K ln Ls A hp0 H := hw
            refine lv_land hx hb dX12_states_55 (lv_topl (fun wl397 _ => ?_))
            refine lv_lstore_n (lv' := [(2, .long wl397), (0, .ref qa900), (1, .int zi901), (4, .int zi233)]) hx hb dX12_states_56 rfl hl (by decide) rfl (fun ls hl => ?_)
            exact jn384 wl397 _ _ ls (lv_sub hl [1, 2, 0, 3] rfl) hw hS
    exact lp319 _ wl19 0 _ _ ls (lp_in _) (b_wid2 bc_0 (by decide) (by decide)) (lv_sub hl [2, 3, 1, 0] rfl) hw hS

set_option maxRecDepth 100000 in
set_option maxHeartbeats 4000000 in
theorem cX12_looks_0 (l : Launch) (G : va_G) (cy : Nat → ClassId) (ev : Ew) (K ln : Nat → Nat) (Ls : List Nat) (hW : SW K ln Ls) (sz : Nat) (hp0 : Nat → Nat → Value) (ok0 : Ok K hp0) (qa900 : Nat) (zi901 : Int32) (kd900 : K qa900 = 13) : Met l yX12_looks (WS yX12_looks cX12_looks 4 (some .int)) { frames := 2, cells := 0, slots := 0, locals := 43 } (PB2 [.ref qa900, .int zi901] sz G cy ev (va_pl Ls (cellOf cy K ln hp0))) (QBi (S := (Nat → Nat → Value)) (fun (r : Int32) (u : (Nat → Nat → Value)) => Ok K u ∧ Fr [] K hp0 u ∧ ((-2 : Int) ≤ r.toInt ∧ r.toInt ≤ 64)) G (fun u => va_pl Ls (cellOf cy K ln u)) (va_A (va_pl Ls (cellOf cy K ln hp0)) sz)) 0 0 (va_A (va_pl Ls (cellOf cy K ln hp0)) sz) := by
  refine met_of2 (y := yX12_looks) (L := 4) (av := [.ref qa900, .int zi901]) (Qc := fun A => QBi (S := (Nat → Nat → Value)) (fun (r : Int32) (u : (Nat → Nat → Value)) => Ok K u ∧ Fr [] K hp0 u ∧ ((-2 : Int) ≤ r.toInt ∧ r.toInt ≤ 64)) G (fun u => va_pl Ls (cellOf cy K ln u)) A) (plainFor_of_name (by decide)) (Nat.le_of_ble_eq_true rfl) ?_
  intro p e s m below meth c hsz hx hb hr hml hown hT hlocks hin hK A hA hE hw hS ls hl
  have hw : PW G cy K ln Ls A hp0 s.heap := hw
  have hown : s.vm.findClass "LieClockModel" = some m.cls := hown
  have hl : lv_has ls 4 [(0, .ref qa900), (1, .int zi901)] := hl
  obtain ⟨Q, hQ⟩ : ∃ Q : State → Prop, Q = MQ below (QBi (S := (Nat → Nat → Value)) (fun (r : Int32) (u : (Nat → Nat → Value)) => Ok K u ∧ Fr [] K hp0 u ∧ ((-2 : Int) ≤ r.toInt ∧ r.toInt ≤ 64)) G (fun u => va_pl Ls (cellOf cy K ln u)) A) ([.ref qa900, .int zi901] : List Value).toArray s 0 0 A := ⟨_, rfl⟩
  rw [← hQ]
  refine lv_aload_n hx hb dX12_looks_0 rfl (lv_at hl 0 rfl) ?_
  refine lv_iload_n hx hb dX12_looks_1 rfl (lv_at hl 1 rfl) ?_
  refine kq_i hw hS hA (va_runV (As := [.int zi901]) (rest := []) ⟨hx, hb, hml, hown, hT⟩ (cX12_isWord_0 l G cy ev K ln Ls hW _ hp0 ok0 qa900 zi901 kd900) (cwV 1 hT (good_V tb_1742 tb_1739 tb_1741 tb_76 tb_122) rfl rfl rfl (by decide +kernel) ⟨Nat.le_of_ble_eq_true rfl, Nat.le_of_ble_eq_true rfl⟩) (pool_preV (ci := 12) hK hE hS hA hw hW kd900 (by decide) rfl) rfl rfl hl.1 rfl (lv_room (Nat.le_of_ble_eq_true rfl)) dX12_looks_2 ⟨Nat.le_of_ble_eq_true rfl, Nat.le_of_ble_eq_true rfl⟩) (fun zi5 hp1 H locs hq4 hw hS => ?_)
  obtain ⟨ok2, F3, bd6, hc7⟩ := hq4
  obtain rfl : hp0 = hp1 := (Fr.nil F3).symm
  have hw : PW G cy K ln Ls A hp0 H := hw
  rcases b01 bd6 with cn8 | cn8
  · skip
    subst cn8
    refine lv_if_ne (tgt := 10) hx hb dX12_looks_5 (by decide) (fun c => absurd (d_eq bc_0 bc_0) c) (fun _ => ?_)
    refine lv_iconst (v := (-1)) hx hb dX12_looks_8 (by decide) ?_
    rw [hQ]
    exact kz_i hx hb hr hlocks hS rfl hp0 hw ⟨ok0, (Fr.rf), (b_wid2 bc_m1 (by decide) (by decide))⟩ (Nat.le_of_ble_eq_true rfl) (Nat.le_of_ble_eq_true rfl) dX12_looks_9
  · skip
    subst cn8
    have bd9 : (0 : Int) ≤ zi901.toInt ∧ zi901.toInt ≤ 15 := b_meet (b_all zi901) (hc7 rfl) (by decide) (by decide)
    refine lv_if_ne (tgt := 10) hx hb dX12_looks_5 (by decide) (fun _ => ?_) (fun c => absurd c (d_ne bc_1 bc_0 (by decide)))
    refine lv_bipush (v := (-2)) hx hb dX12_looks_10 (by decide) ?_
    refine lv_istore_n (lv' := [(2, .int (-2)), (0, .ref qa900), (1, .int zi901)]) hx hb dX12_looks_12 rfl hl (by decide) rfl (fun ls hl => ?_)
    refine lv_iconst (v := 0) hx hb dX12_looks_13 (by decide) ?_
    refine lv_istore_n (lv' := [(3, .int 0), (2, .int (-2)), (0, .ref qa900), (1, .int zi901)]) hx hb dX12_looks_14 rfl hl (by decide) rfl (fun ls hl => ?_)
    have lp1169 : ∀ (n1167 : Nat) (zi891 : Int32) (zi892 : Int32) (H : Heap) (locs : List Loc) (ls : Array Slot), 64 - zi892.toInt < (n1167 : Int) → ((-2 : Int) ≤ zi891.toInt ∧ zi891.toInt ≤ 64) → ((0 : Int) ≤ zi892.toInt ∧ zi892.toInt ≤ 64) → lv_has ls 4 [(0, .ref qa900), (1, .int zi901), (2, .int zi891), (3, .int zi892)] → PW G cy K ln Ls A hp0 H → va_S A s.heap H locs → W p l e ({ frames := 2, cells := 0, slots := 0, locals := 43 } : Room) s m ([.ref qa900, .int zi901] : List Value).toArray below meth c H locs 0 0 Q (F0 m 15 ls []) := by
      intro n1167
      induction n1167 with
      | zero =>
        intro zi891 zi892 H locs ls hm1170 bd893 bd894 hl hw hS
        exact absurd hm1170 (by have := bd894; omega)
      | succ n1167 ih1168 =>
        intro zi891 zi892 H locs ls hm1170 bd893 bd894 hl hw hS
        refine lv_iload_n hx hb dX12_looks_15 rfl (lv_at hl 3 rfl) ?_
        refine lv_iconst (v := 1) hx hb dX12_looks_16 (by decide) ?_
        refine lv_aload_n hx hb dX12_looks_17 rfl (lv_at hl 0 rfl) ?_
        obtain ⟨qa1172, eq1171, kd1173⟩ := rd_13024 ok0 kd900
        refine p_get (ci := 12) (v := .ref qa1172) (C := RX12) (T := TX12) (N := 69) hx hb hT iw_X12 hown hK hw hW kd900 (by decide) rfl rfl 24 (by decide) eq1171 (hT _ tb_1398) (fun _ h9 => h9) dX12_looks_18 ?_
        refine lv_aload_n hx hb dX12_looks_21 rfl (lv_at hl 0 rfl) ?_
        obtain ⟨zi1175, eq1174, bd1176⟩ := rd_13018 ok0 kd900
        refine p_get (ci := 12) (v := .int zi1175) (C := RX12) (T := TX12) (N := 69) hx hb hT iw_X12 hown hK hw hW kd900 (by decide) rfl rfl 18 (by decide) eq1174 (hT _ tb_1392) (fun _ h9 => h9) dX12_looks_22 ?_
        obtain ⟨zi1178, eq1177, bd1179⟩ := rd_70000 ok0 kd1173 ((zi1175 : Int32).toNatClampNeg)
        refine p_iald (v := zi1178) hx hb hK hw hW kd1173 (by decide) rfl (hW.len kd1173 (n := 2) rfl (by decide)) (vp_b bd1176 (by decide) (by decide)) eq1177 dX12_looks_25 ?_
        refine lv_ishl hx hb dX12_looks_26 (lv_topi (fun zi1180 ea1181 => ?_))
        have bd1182 : (1 : Int) ≤ zi1180.toInt ∧ zi1180.toInt ≤ 64 := b_shl1 6 ea1181 bd1179 (by decide) (by decide) (by decide) (by decide) (by decide)
        refine lv_icmp_ge (tgt := 90) hx hb dX12_looks_27 (by decide) (fun cn1183 => ?_) (fun cn1183 => ?_)
        · skip
          have bd1307 : (1 : Int) ≤ zi892.toInt ∧ zi892.toInt ≤ 64 := r_le_y cn1183 bd1182 bd894 (by decide) (by decide)
          refine lv_iload_n hx hb dX12_looks_90 rfl (lv_at hl 2 rfl) ?_
          rw [hQ]
          exact kz_i hx hb hr hlocks hS rfl hp0 hw ⟨ok0, (Fr.rf), (b_wid2 bd893 (by decide) (by decide))⟩ (Nat.le_of_ble_eq_true rfl) (Nat.le_of_ble_eq_true rfl) dX12_looks_91
        · skip
          have bd1308 : (0 : Int) ≤ zi892.toInt ∧ zi892.toInt ≤ 63 := r_lt_x (Int32.not_le.mp cn1183) bd894 bd1182 (by decide) (by decide)
          refine lv_iload_n hx hb dX12_looks_30 rfl (lv_at hl 3 rfl) ?_
          refine lv_aload_n hx hb dX12_looks_31 rfl (lv_at hl 0 rfl) ?_
          obtain ⟨qa1310, eq1309, kd1311⟩ := rd_13049 ok0 kd900
          refine p_get (ci := 12) (v := .ref qa1310) (C := RX12) (T := TX12) (N := 69) hx hb hT iw_X12 hown hK hw hW kd900 (by decide) rfl rfl 49 (by decide) eq1309 (hT _ tb_1423) (fun _ h9 => h9) dX12_looks_32 ?_
          refine lv_iconst (v := 3) hx hb dX12_looks_35 (by decide) ?_
          obtain ⟨zi1313, eq1312⟩ := rd_92000 ok0 kd1311 ((3 : Int32).toNatClampNeg)
          refine p_iald (v := zi1313) hx hb hK hw hW kd1311 (by decide) rfl (hW.len kd1311 (n := 40) rfl (by decide)) (vp_b bc_3 (by decide) (by decide)) eq1312 dX12_looks_36 ?_
          refine lv_iand hx hb dX12_looks_37 (lv_topi (fun zi1314 ea1315 => ?_))
          have bd1316 : (0 : Int) ≤ zi1314.toInt ∧ zi1314.toInt ≤ 63 := b_and_l ea1315 bd1308 (by decide) (by decide) (by decide)
          have jn1372 : ∀ (zi1370 : Int32) (H : Heap) (locs : List Loc) (ls : Array Slot), ((-2 : Int) ≤ zi1370.toInt ∧ zi1370.toInt ≤ 64) → lv_has ls 4 [(0, .ref qa900), (1, .int zi901), (2, .int zi1370), (3, .int zi892)] → PW G cy K ln Ls A hp0 H → va_S A s.heap H locs → W p l e ({ frames := 2, cells := 0, slots := 0, locals := 43 } : Room) s m ([.ref qa900, .int zi901] : List Value).toArray below meth c H locs 0 0 Q (F0 m 84 ls []) := by
            intro zi1370 H locs ls bd1371 hl hw hS
            obtain ⟨zi1373, ea1374⟩ : ∃ z : Int32, z = zi892 + 1 := ⟨_, rfl⟩
            have bd1375 : (1 : Int) ≤ zi1373.toInt ∧ zi1373.toInt ≤ 64 := b_iadd ea1374 bd1308 bc_1 (by decide) (by decide) (by decide) (by decide)
            have qe1376 : zi1373.toInt = (zi892 : Int32).toInt + (1 : Int32).toInt := e_iadd ea1374 bd1308 bc_1 (by decide) (by decide)
            have qe1377 : zi1373.toInt = zi892.toInt + 1 := by have ha : (1 : Int32).toInt = 1 := (by decide); rw [ha] at qe1376; exact qe1376
            refine lv_iinc (v := zi1373) (lv' := [(3, .int zi1373), (0, .ref qa900), (1, .int zi901), (2, .int zi1370)]) hx hb dX12_looks_84 hl (k := 3) rfl ea1374.symm (by decide) rfl (fun ls hl => ?_)
            refine lv_goto (tgt := 15) hx hb dX12_looks_87 (by decide) ?_
            exact ih1168 zi1370 zi1373 _ _ ls (by have := hm1170; have := qe1377; omega) (b_wid2 bd1371 (by decide) (by decide)) (b_wid2 bd1375 (by decide) (by decide)) (lv_sub hl [1, 2, 3, 0] rfl) hw hS
          refine lv_if_ne (tgt := 84) hx hb dX12_looks_38 (by decide) (fun cn1317 => ?_) (fun cn1317 => ?_)
          · skip
            have bd1378 : (1 : Int) ≤ zi1314.toInt ∧ zi1314.toInt ≤ 63 := r_ne_lo cn1317 bd1316 (toi bc_0) (by decide) (by decide)
            exact jn1372 zi891 _ _ ls (b_wid2 bd893 (by decide) (by decide)) (lv_sub hl [0, 1, 2, 3] rfl) hw hS
          · skip
            have bd1379 : (0 : Int) ≤ zi1314.toInt ∧ zi1314.toInt ≤ 0 := r_eq_x cn1317 bd1316 bc_0 (by decide) (by decide)
            refine lv_iload_n hx hb dX12_looks_41 rfl (lv_at hl 2 rfl) ?_
            refine lv_if_lt (tgt := 59) hx hb dX12_looks_42 (by decide) (fun cn1380 => ?_) (fun cn1380 => ?_)
            · skip
              have bd1381 : (-2 : Int) ≤ zi891.toInt ∧ zi891.toInt ≤ -1 := r_lt_x cn1380 bd893 bc_0 (by decide) (by decide)
              refine lv_aload_n hx hb dX12_looks_59 rfl (lv_at hl 0 rfl) ?_
              refine lv_aload_n hx hb dX12_looks_60 rfl (lv_at hl 0 rfl) ?_
              refine p_get (ci := 12) (v := .ref qa1310) (C := RX12) (T := TX12) (N := 69) hx hb hT iw_X12 hown hK hw hW kd900 (by decide) rfl rfl 49 (by decide) eq1309 (hT _ tb_1423) (fun _ h9 => h9) dX12_looks_61 ?_
              refine lv_iconst (v := 3) hx hb dX12_looks_64 (by decide) ?_
              refine p_iald (v := zi1313) hx hb hK hw hW kd1311 (by decide) rfl (hW.len kd1311 (n := 40) rfl (by decide)) (vp_b bc_3 (by decide) (by decide)) eq1312 dX12_looks_65 ?_
              refine lv_iload_n hx hb dX12_looks_66 rfl (lv_at hl 3 rfl) ?_
              refine lv_ior hx hb dX12_looks_67 (lv_topi (fun zi1382 ea1383 => ?_))
              refine kq_l hw hS hA (va_runV (As := [.int zi1382]) (rest := []) ⟨hx, hb, hml, hown, hT⟩ (cX12_mayBe_0 l G cy ev K ln Ls hW _ hp0 ok0 qa900 zi1382 kd900) (cwV 1 hT (good_V tb_1784 tb_1781 tb_1783 tb_84 tb_122) rfl rfl rfl (by decide +kernel) ⟨Nat.le_of_ble_eq_true rfl, Nat.le_of_ble_eq_true rfl⟩) (pool_preV (ci := 12) hK hE hS hA hw hW kd900 (by decide) rfl) rfl rfl hl.1 rfl (lv_room (Nat.le_of_ble_eq_true rfl)) dX12_looks_68 ⟨Nat.le_of_ble_eq_true rfl, Nat.le_of_ble_eq_true rfl⟩) (fun wl1388 hp1384 H locs hq1387 hw hS => ?_)
              obtain ⟨ok1385, F1386⟩ := hq1387
              obtain rfl : hp0 = hp1384 := (Fr.nil F1386).symm
              have hw : PW G cy K ln Ls A hp0 H := hw
              refine lv_aload_n hx hb dX12_looks_71 rfl (lv_at hl 0 rfl) ?_
              refine lv_iload_n hx hb dX12_looks_72 rfl (lv_at hl 1 rfl) ?_
              refine kq_l hw hS hA (va_runV (As := [.int zi901]) (rest := [.long wl1388]) ⟨hx, hb, hml, hown, hT⟩ (cX12_holdsOf_0 l G cy ev K ln Ls hW _ hp0 ok0 qa900 zi901 kd900 (b_wid2 bd9 (by decide) (by decide))) (cwV 1 hT (good_V tb_1750 tb_1747 tb_1749 tb_78 tb_122) rfl rfl rfl (by decide +kernel) ⟨Nat.le_of_ble_eq_true rfl, Nat.le_of_ble_eq_true rfl⟩) (pool_preV (ci := 12) hK hE hS hA hw hW kd900 (by decide) rfl) rfl rfl hl.1 rfl (lv_room (Nat.le_of_ble_eq_true rfl)) dX12_looks_73 ⟨Nat.le_of_ble_eq_true rfl, Nat.le_of_ble_eq_true rfl⟩) (fun wl1393 hp1389 H locs hq1392 hw hS => ?_)
              obtain ⟨ok1390, F1391⟩ := hq1392
              obtain rfl : hp0 = hp1389 := (Fr.nil F1391).symm
              have hw : PW G cy K ln Ls A hp0 H := hw
              refine lv_land hx hb dX12_looks_76 (lv_topl (fun wl1394 _ => ?_))
              refine lv_lconst (v := 0) hx hb dX12_looks_77 (by decide) ?_
              refine W.lcmp hx hb dX12_looks_78 (lv_topi (fun zi1395 ea1396 => ?_))
              refine lv_if_ne (tgt := 84) hx hb dX12_looks_79 (by decide) (fun cn1397 => ?_) (fun cn1397 => ?_)
              · skip
                exact jn1372 zi891 _ _ ls (b_wid2 bd1381 (by decide) (by decide)) (lv_sub hl [0, 1, 2, 3] rfl) hw hS
              · skip
                have bd1398 : (0 : Int) ≤ zi1395.toInt ∧ zi1395.toInt ≤ 0 := r_eq_x cn1397 (b_all zi1395) bc_0 (by decide) (by decide)
                refine lv_iload_n hx hb dX12_looks_82 rfl (lv_at hl 3 rfl) ?_
                refine lv_istore_n (lv' := [(2, .int zi892), (0, .ref qa900), (1, .int zi901), (3, .int zi892)]) hx hb dX12_looks_83 rfl hl (by decide) rfl (fun ls hl => ?_)
                exact jn1372 zi892 _ _ ls (b_wid2 bd1308 (by decide) (by decide)) (lv_sub hl [1, 2, 0, 3] rfl) hw hS
            · skip
              have bd1399 : (0 : Int) ≤ zi891.toInt ∧ zi891.toInt ≤ 64 := r_le_y (Int32.not_lt.mp cn1380) bc_0 bd893 (by decide) (by decide)
              refine lv_iload_n hx hb dX12_looks_45 rfl (lv_at hl 3 rfl) ?_
              refine kq_i hw hS hA (va_runS (As := [.int zi892]) (rest := []) ⟨hx, hb, hml, hown, hT⟩ (cX12_bits_0 l G cy ev K ln Ls hW _ hp0 ok0 zi892) (va_cwS 1 hT (good_S tb_1776 tb_1774 tb_1775 tb_122) rfl rfl rfl (by decide +kernel) ⟨Nat.le_of_ble_eq_true rfl, Nat.le_of_ble_eq_true rfl⟩) (PB2.preS hK hE hS hA hw) rfl rfl hl.1 rfl (lv_room (Nat.le_of_ble_eq_true rfl)) dX12_looks_46 ⟨Nat.le_of_ble_eq_true rfl, Nat.le_of_ble_eq_true rfl⟩) (fun zi1404 hp1400 H locs hq1403 hw hS => ?_)
              obtain ⟨ok1401, F1402⟩ := hq1403
              obtain rfl : hp0 = hp1400 := (Fr.nil F1402).symm
              have hw : PW G cy K ln Ls A hp0 H := hw
              refine lv_iload_n hx hb dX12_looks_49 rfl (lv_at hl 2 rfl) ?_
              refine kq_i hw hS hA (va_runS (As := [.int zi891]) (rest := [.int zi1404]) ⟨hx, hb, hml, hown, hT⟩ (cX12_bits_0 l G cy ev K ln Ls hW _ hp0 ok0 zi891) (va_cwS 1 hT (good_S tb_1776 tb_1774 tb_1775 tb_122) rfl rfl rfl (by decide +kernel) ⟨Nat.le_of_ble_eq_true rfl, Nat.le_of_ble_eq_true rfl⟩) (PB2.preS hK hE hS hA hw) rfl rfl hl.1 rfl (lv_room (Nat.le_of_ble_eq_true rfl)) dX12_looks_50 ⟨Nat.le_of_ble_eq_true rfl, Nat.le_of_ble_eq_true rfl⟩) (fun zi1409 hp1405 H locs hq1408 hw hS => ?_)
              obtain ⟨ok1406, F1407⟩ := hq1408
              obtain rfl : hp0 = hp1405 := (Fr.nil F1407).symm
              have hw : PW G cy K ln Ls A hp0 H := hw
              refine lv_icmp_lt (tgt := 59) hx hb dX12_looks_53 (by decide) (fun cn1410 => ?_) (fun cn1410 => ?_)
              · skip
                have bd1411 : (-2147483648 : Int) ≤ zi1404.toInt ∧ zi1404.toInt ≤ 2147483646 := r_lt_x cn1410 (b_all zi1404) (b_all zi1409) (by decide) (by decide)
                have bd1412 : (-2147483647 : Int) ≤ zi1409.toInt ∧ zi1409.toInt ≤ 2147483647 := r_lt_y cn1410 (b_all zi1404) (b_all zi1409) (by decide) (by decide)
                refine lv_aload_n hx hb dX12_looks_59 rfl (lv_at hl 0 rfl) ?_
                refine lv_aload_n hx hb dX12_looks_60 rfl (lv_at hl 0 rfl) ?_
                refine p_get (ci := 12) (v := .ref qa1310) (C := RX12) (T := TX12) (N := 69) hx hb hT iw_X12 hown hK hw hW kd900 (by decide) rfl rfl 49 (by decide) eq1309 (hT _ tb_1423) (fun _ h9 => h9) dX12_looks_61 ?_
                refine lv_iconst (v := 3) hx hb dX12_looks_64 (by decide) ?_
                refine p_iald (v := zi1313) hx hb hK hw hW kd1311 (by decide) rfl (hW.len kd1311 (n := 40) rfl (by decide)) (vp_b bc_3 (by decide) (by decide)) eq1312 dX12_looks_65 ?_
                refine lv_iload_n hx hb dX12_looks_66 rfl (lv_at hl 3 rfl) ?_
                refine lv_ior hx hb dX12_looks_67 (lv_topi (fun zi1413 ea1414 => ?_))
                refine kq_l hw hS hA (va_runV (As := [.int zi1413]) (rest := []) ⟨hx, hb, hml, hown, hT⟩ (cX12_mayBe_0 l G cy ev K ln Ls hW _ hp0 ok0 qa900 zi1413 kd900) (cwV 1 hT (good_V tb_1784 tb_1781 tb_1783 tb_84 tb_122) rfl rfl rfl (by decide +kernel) ⟨Nat.le_of_ble_eq_true rfl, Nat.le_of_ble_eq_true rfl⟩) (pool_preV (ci := 12) hK hE hS hA hw hW kd900 (by decide) rfl) rfl rfl hl.1 rfl (lv_room (Nat.le_of_ble_eq_true rfl)) dX12_looks_68 ⟨Nat.le_of_ble_eq_true rfl, Nat.le_of_ble_eq_true rfl⟩) (fun wl1419 hp1415 H locs hq1418 hw hS => ?_)
                obtain ⟨ok1416, F1417⟩ := hq1418
                obtain rfl : hp0 = hp1415 := (Fr.nil F1417).symm
                have hw : PW G cy K ln Ls A hp0 H := hw
                refine lv_aload_n hx hb dX12_looks_71 rfl (lv_at hl 0 rfl) ?_
                refine lv_iload_n hx hb dX12_looks_72 rfl (lv_at hl 1 rfl) ?_
                refine kq_l hw hS hA (va_runV (As := [.int zi901]) (rest := [.long wl1419]) ⟨hx, hb, hml, hown, hT⟩ (cX12_holdsOf_0 l G cy ev K ln Ls hW _ hp0 ok0 qa900 zi901 kd900 (b_wid2 bd9 (by decide) (by decide))) (cwV 1 hT (good_V tb_1750 tb_1747 tb_1749 tb_78 tb_122) rfl rfl rfl (by decide +kernel) ⟨Nat.le_of_ble_eq_true rfl, Nat.le_of_ble_eq_true rfl⟩) (pool_preV (ci := 12) hK hE hS hA hw hW kd900 (by decide) rfl) rfl rfl hl.1 rfl (lv_room (Nat.le_of_ble_eq_true rfl)) dX12_looks_73 ⟨Nat.le_of_ble_eq_true rfl, Nat.le_of_ble_eq_true rfl⟩) (fun wl1424 hp1420 H locs hq1423 hw hS => ?_)
                obtain ⟨ok1421, F1422⟩ := hq1423
                obtain rfl : hp0 = hp1420 := (Fr.nil F1422).symm
                have hw : PW G cy K ln Ls A hp0 H := hw
                refine lv_land hx hb dX12_looks_76 (lv_topl (fun wl1425 _ => ?_))
                refine lv_lconst (v := 0) hx hb dX12_looks_77 (by decide) ?_
                refine W.lcmp hx hb dX12_looks_78 (lv_topi (fun zi1426 ea1427 => ?_))
                refine lv_if_ne (tgt := 84) hx hb dX12_looks_79 (by decide) (fun cn1428 => ?_) (fun cn1428 => ?_)
                · skip
                  exact jn1372 zi891 _ _ ls (b_wid2 bd1399 (by decide) (by decide)) (lv_sub hl [0, 1, 2, 3] rfl) hw hS
                · skip
                  have bd1429 : (0 : Int) ≤ zi1426.toInt ∧ zi1426.toInt ≤ 0 := r_eq_x cn1428 (b_all zi1426) bc_0 (by decide) (by decide)
                  refine lv_iload_n hx hb dX12_looks_82 rfl (lv_at hl 3 rfl) ?_
                  refine lv_istore_n (lv' := [(2, .int zi892), (0, .ref qa900), (1, .int zi901), (3, .int zi892)]) hx hb dX12_looks_83 rfl hl (by decide) rfl (fun ls hl => ?_)
                  exact jn1372 zi892 _ _ ls (b_wid2 bd1308 (by decide) (by decide)) (lv_sub hl [1, 2, 0, 3] rfl) hw hS
              · skip
                refine lv_goto (tgt := 84) hx hb dX12_looks_56 (by decide) ?_
                exact jn1372 zi891 _ _ ls (b_wid2 bd1399 (by decide) (by decide)) (lv_sub hl [0, 1, 2, 3] rfl) hw hS
    exact lp1169 _ ((-2)) 0 _ _ ls (lp_in _) (b_wid2 bc_m2 (by decide) (by decide)) (b_wid2 bc_0 (by decide) (by decide)) (lv_sub hl [2, 3, 1, 0] rfl) hw hS

set_option maxRecDepth 100000 in
set_option maxHeartbeats 4000000 in
theorem cX12_in_7 (l : Launch) (G : va_G) (cy : Nat → ClassId) (ev : Ew) (K ln : Nat → Nat) (Ls : List Nat) (hW : SW K ln Ls) (sz : Nat) (hp0 : Nat → Nat → Value) (ok0 : Ok K hp0) (zi900 : Int32) (zi901 : Int32) (zi902 : Int32) (bd901 : ((-100000 : Int) ≤ zi901.toInt ∧ zi901.toInt ≤ -100000)) (bd902 : ((100000 : Int) ≤ zi902.toInt ∧ zi902.toInt ≤ 100000)) : Met l yX12_in (WS yX12_in cX12_in 3 (some .boolean)) { frames := 0, cells := 0, slots := 0, locals := 0 } (PB2 [.int zi900, .int zi901, .int zi902] sz G cy ev (va_pl Ls (cellOf cy K ln hp0))) (QBi (S := (Nat → Nat → Value)) (fun (r : Int32) (u : (Nat → Nat → Value)) => Ok K u ∧ Fr [] K hp0 u ∧ ((0 : Int) ≤ r.toInt ∧ r.toInt ≤ 1) ∧ (r = 1 → ((-100000 : Int) ≤ zi900.toInt ∧ zi900.toInt ≤ 100000))) G (fun u => va_pl Ls (cellOf cy K ln u)) (va_A (va_pl Ls (cellOf cy K ln hp0)) sz)) 0 0 (va_A (va_pl Ls (cellOf cy K ln hp0)) sz) := by
  refine met_of2 (y := yX12_in) (L := 3) (av := [.int zi900, .int zi901, .int zi902]) (Qc := fun A => QBi (S := (Nat → Nat → Value)) (fun (r : Int32) (u : (Nat → Nat → Value)) => Ok K u ∧ Fr [] K hp0 u ∧ ((0 : Int) ≤ r.toInt ∧ r.toInt ≤ 1) ∧ (r = 1 → ((-100000 : Int) ≤ zi900.toInt ∧ zi900.toInt ≤ 100000))) G (fun u => va_pl Ls (cellOf cy K ln u)) A) (plainFor_of_name (by decide)) (Nat.le_of_ble_eq_true rfl) ?_
  intro p e s m below meth c hsz hx hb hr hml hown hT hlocks hin hK A hA hE hw hS ls hl
  have hw : PW G cy K ln Ls A hp0 s.heap := hw
  have hown : s.vm.findClass "LieClockModel" = some m.cls := hown
  have hl : lv_has ls 3 [(0, .int zi900), (1, .int zi901), (2, .int zi902)] := hl
  obtain ⟨Q, hQ⟩ : ∃ Q : State → Prop, Q = MQ below (QBi (S := (Nat → Nat → Value)) (fun (r : Int32) (u : (Nat → Nat → Value)) => Ok K u ∧ Fr [] K hp0 u ∧ ((0 : Int) ≤ r.toInt ∧ r.toInt ≤ 1) ∧ (r = 1 → ((-100000 : Int) ≤ zi900.toInt ∧ zi900.toInt ≤ 100000))) G (fun u => va_pl Ls (cellOf cy K ln u)) A) ([.int zi900, .int zi901, .int zi902] : List Value).toArray s 0 0 A := ⟨_, rfl⟩
  rw [← hQ]
  refine lv_iload_n hx hb dX12_in_0 rfl (lv_at hl 0 rfl) ?_
  refine lv_iload_n hx hb dX12_in_1 rfl (lv_at hl 1 rfl) ?_
  refine lv_icmp_lt (tgt := 14) hx hb dX12_in_2 (by decide) (fun cn1 => ?_) (fun cn1 => ?_)
  · skip
    have bd2 : (-2147483648 : Int) ≤ zi900.toInt ∧ zi900.toInt ≤ -100001 := r_lt_x cn1 (b_all zi900) bd901 (by decide) (by decide)
    refine lv_iconst (v := 0) hx hb dX12_in_14 (by decide) ?_
    rw [hQ]
    exact kz_i hx hb hr hlocks hS (nz_n bc_0 (by decide) (by decide)) hp0 hw ⟨ok0, (Fr.rf), (b_wid2 bc_0 (by decide) (by decide)), (fun h => absurd h (by decide))⟩ (Nat.le_of_ble_eq_true rfl) (Nat.le_of_ble_eq_true rfl) dX12_in_15
  · skip
    have bd3 : (-100000 : Int) ≤ zi900.toInt ∧ zi900.toInt ≤ 2147483647 := r_le_y (Int32.not_lt.mp cn1) bd901 (b_all zi900) (by decide) (by decide)
    refine lv_iload_n hx hb dX12_in_5 rfl (lv_at hl 0 rfl) ?_
    refine lv_iload_n hx hb dX12_in_6 rfl (lv_at hl 2 rfl) ?_
    refine lv_icmp_gt (tgt := 14) hx hb dX12_in_7 (by decide) (fun cn4 => ?_) (fun cn4 => ?_)
    · skip
      have bd5 : (100001 : Int) ≤ zi900.toInt ∧ zi900.toInt ≤ 2147483647 := r_lt_y cn4 bd902 bd3 (by decide) (by decide)
      refine lv_iconst (v := 0) hx hb dX12_in_14 (by decide) ?_
      rw [hQ]
      exact kz_i hx hb hr hlocks hS (nz_n bc_0 (by decide) (by decide)) hp0 hw ⟨ok0, (Fr.rf), (b_wid2 bc_0 (by decide) (by decide)), (fun h => absurd h (by decide))⟩ (Nat.le_of_ble_eq_true rfl) (Nat.le_of_ble_eq_true rfl) dX12_in_15
    · skip
      have bd6 : (-100000 : Int) ≤ zi900.toInt ∧ zi900.toInt ≤ 100000 := r_le_x (Int32.not_lt.mp cn4) bd3 bd902 (by decide) (by decide)
      refine lv_iconst (v := 1) hx hb dX12_in_10 (by decide) ?_
      refine lv_goto (tgt := 15) hx hb dX12_in_11 (by decide) ?_
      rw [hQ]
      exact kz_i hx hb hr hlocks hS (nz_n bc_1 (by decide) (by decide)) hp0 hw ⟨ok0, (Fr.rf), (b_wid2 bc_1 (by decide) (by decide)), (fun _ => b_wid2 bd6 (by decide) (by decide))⟩ (Nat.le_of_ble_eq_true rfl) (Nat.le_of_ble_eq_true rfl) dX12_in_15

set_option maxRecDepth 100000 in
set_option maxHeartbeats 4000000 in
theorem cX12_write_0 (l : Launch) (G : va_G) (cy : Nat → ClassId) (ev : Ew) (K ln : Nat → Nat) (Ls : List Nat) (hW : SW K ln Ls) (sz : Nat) (hp0 : Nat → Nat → Value) (ok0 : Ok K hp0) (qa900 : Nat) (zi901 : Int32) (kd900 : K qa900 = 13) : Met l yX12_write (WS yX12_write cX12_write 2 (some .int)) { frames := 1, cells := 0, slots := 0, locals := 22 } (PB2 [.ref qa900, .int zi901] sz G cy ev (va_pl Ls (cellOf cy K ln hp0))) (QBi (S := (Nat → Nat → Value)) (fun (r : Int32) (u : (Nat → Nat → Value)) => Ok K u ∧ Fr [13061, 99000] K hp0 u ∧ ((-1 : Int) ≤ r.toInt ∧ r.toInt ≤ 4)) G (fun u => va_pl Ls (cellOf cy K ln u)) (va_A (va_pl Ls (cellOf cy K ln hp0)) sz)) 0 0 (va_A (va_pl Ls (cellOf cy K ln hp0)) sz) := by
  refine met_of2 (y := yX12_write) (L := 2) (av := [.ref qa900, .int zi901]) (Qc := fun A => QBi (S := (Nat → Nat → Value)) (fun (r : Int32) (u : (Nat → Nat → Value)) => Ok K u ∧ Fr [13061, 99000] K hp0 u ∧ ((-1 : Int) ≤ r.toInt ∧ r.toInt ≤ 4)) G (fun u => va_pl Ls (cellOf cy K ln u)) A) (plainFor_of_name (by decide)) (Nat.le_of_ble_eq_true rfl) ?_
  intro p e s m below meth c hsz hx hb hr hml hown hT hlocks hin hK A hA hE hw hS ls hl
  have hw : PW G cy K ln Ls A hp0 s.heap := hw
  have hown : s.vm.findClass "LieClockModel" = some m.cls := hown
  have hl : lv_has ls 2 [(0, .ref qa900), (1, .int zi901)] := hl
  obtain ⟨Q, hQ⟩ : ∃ Q : State → Prop, Q = MQ below (QBi (S := (Nat → Nat → Value)) (fun (r : Int32) (u : (Nat → Nat → Value)) => Ok K u ∧ Fr [13061, 99000] K hp0 u ∧ ((-1 : Int) ≤ r.toInt ∧ r.toInt ≤ 4)) G (fun u => va_pl Ls (cellOf cy K ln u)) A) ([.ref qa900, .int zi901] : List Value).toArray s 0 0 A := ⟨_, rfl⟩
  rw [← hQ]
  refine lv_aload_n hx hb dX12_write_0 rfl (lv_at hl 0 rfl) ?_
  obtain ⟨zi2, eq1, bd3⟩ := rd_13061 ok0 kd900
  refine p_get (ci := 12) (v := .int zi2) (C := RX12) (T := TX12) (N := 69) hx hb hT iw_X12 hown hK hw hW kd900 (by decide) rfl rfl 61 (by decide) eq1 (hT _ tb_1435) (fun _ h9 => h9) dX12_write_1 ?_
  refine lv_iconst (v := 5) hx hb dX12_write_4 (by decide) ?_
  refine lv_icmp_eq (tgt := 21) hx hb dX12_write_5 (by decide) (fun cn4 => ?_) (fun cn4 => ?_)
  · skip
    have bd5 : (5 : Int) ≤ zi2.toInt ∧ zi2.toInt ≤ 5 := r_eq_x cn4 bd3 bc_5 (by decide) (by decide)
    refine lv_iconst (v := (-1)) hx hb dX12_write_21 (by decide) ?_
    rw [hQ]
    exact kz_i hx hb hr hlocks hS rfl hp0 hw ⟨ok0, (Fr.rf), (b_wid2 bc_m1 (by decide) (by decide))⟩ (Nat.le_of_ble_eq_true rfl) (Nat.le_of_ble_eq_true rfl) dX12_write_22
  · skip
    have bd6 : (0 : Int) ≤ zi2.toInt ∧ zi2.toInt ≤ 4 := r_ne_hi cn4 bd3 (toi bc_5) (by decide) (by decide)
    refine lv_iload_n hx hb dX12_write_8 rfl (lv_at hl 1 rfl) ?_
    refine lv_ldcw (v := (-100000)) hx hb hown (hT _ tb_1831) dX12_write_9 ?_
    refine lv_ldcw (v := 100000) hx hb hown (hT _ tb_1814) dX12_write_12 ?_
    refine kq_i hw hS hA (va_runS (As := [.int zi901, .int (-100000), .int 100000]) (rest := []) ⟨hx, hb, hml, hown, hT⟩ (cX12_in_7 l G cy ev K ln Ls hW _ hp0 ok0 zi901 (-100000) 100000 (b_wid2 bc_m100000 (by decide) (by decide)) (b_wid2 bc_100000 (by decide) (by decide))) (va_cwS 3 hT (good_S tb_1734 tb_1732 tb_1733 tb_122) rfl rfl rfl (by decide +kernel) ⟨Nat.le_of_ble_eq_true rfl, Nat.le_of_ble_eq_true rfl⟩) (PB2.preS hK hE hS hA hw) rfl rfl hl.1 rfl (lv_room (Nat.le_of_ble_eq_true rfl)) dX12_write_15 ⟨Nat.le_of_ble_eq_true rfl, Nat.le_of_ble_eq_true rfl⟩) (fun zi11 hp7 H locs hq10 hw hS => ?_)
    obtain ⟨ok8, F9, bd12, hc13⟩ := hq10
    obtain rfl : hp0 = hp7 := (Fr.nil F9).symm
    have hw : PW G cy K ln Ls A hp0 H := hw
    rcases b01 bd12 with cn14 | cn14
    · skip
      subst cn14
      refine lv_if_ne (tgt := 23) hx hb dX12_write_18 (by decide) (fun c => absurd (d_eq bc_0 bc_0) c) (fun _ => ?_)
      refine lv_iconst (v := (-1)) hx hb dX12_write_21 (by decide) ?_
      rw [hQ]
      exact kz_i hx hb hr hlocks hS rfl hp0 hw ⟨ok0, (Fr.rf), (b_wid2 bc_m1 (by decide) (by decide))⟩ (Nat.le_of_ble_eq_true rfl) (Nat.le_of_ble_eq_true rfl) dX12_write_22
    · skip
      subst cn14
      have bd15 : (-100000 : Int) ≤ zi901.toInt ∧ zi901.toInt ≤ 100000 := b_meet (b_all zi901) (hc13 rfl) (by decide) (by decide)
      refine lv_if_ne (tgt := 23) hx hb dX12_write_18 (by decide) (fun _ => ?_) (fun c => absurd c (d_ne bc_1 bc_0 (by decide)))
      refine lv_aload_n hx hb dX12_write_23 rfl (lv_at hl 0 rfl) ?_
      obtain ⟨qa17, eq16, kd18⟩ := rd_13062 ok0 kd900
      refine p_get (ci := 12) (v := .ref qa17) (C := RX12) (T := TX12) (N := 69) hx hb hT iw_X12 hown hK hw hW kd900 (by decide) rfl rfl 62 (by decide) eq16 (hT _ tb_1436) (fun _ h9 => h9) dX12_write_24 ?_
      refine lv_aload_n hx hb dX12_write_27 rfl (lv_at hl 0 rfl) ?_
      refine p_get (ci := 12) (v := .int zi2) (C := RX12) (T := TX12) (N := 69) hx hb hT iw_X12 hown hK hw hW kd900 (by decide) rfl rfl 61 (by decide) eq1 (hT _ tb_1435) (fun _ h9 => h9) dX12_write_28 ?_
      refine lv_iload_n hx hb dX12_write_31 rfl (lv_at hl 1 rfl) ?_
      refine p_iast (x := zi901) hx hb hK hw hS hW kd18 (by decide) rfl (hW.len kd18 (n := 5) rfl (by decide)) (vp_b bd6 (by decide) (by decide)) dX12_write_32 (fun hp19 eh20 H locs hw hS => ?_)
      have ok21 := wr_99000 ok0 kd18 eh20
      refine lv_aload_n hx hb dX12_write_33 rfl (lv_at hl 0 rfl) ?_
      refine lv_dup hx hb dX12_write_34 rfl ?_
      have eq22 : hp19 qa900 61 = .int zi2 := Eq.trans (up_at eh20 (Or.inl (kd_ne kd900 kd18 (by decide)))) eq1
      refine p_get (ci := 12) (v := .int zi2) (C := RX12) (T := TX12) (N := 69) hx hb hT iw_X12 hown hK hw hW kd900 (by decide) rfl rfl 61 (by decide) eq22 (hT _ tb_1435) (fun _ h9 => h9) dX12_write_35 ?_
      refine lv_iconst (v := 1) hx hb dX12_write_38 (by decide) ?_
      refine lv_iadd hx hb dX12_write_39 (lv_topi (fun zi23 ea24 => ?_))
      have bd25 : (1 : Int) ≤ zi23.toInt ∧ zi23.toInt ≤ 5 := b_iadd ea24 bd6 bc_1 (by decide) (by decide) (by decide) (by decide)
      have qe26 : zi23.toInt = (zi2 : Int32).toInt + (1 : Int32).toInt := e_iadd ea24 bd6 bc_1 (by decide) (by decide)
      have qe27 : zi23.toInt = zi2.toInt + 1 := by have ha : (1 : Int32).toInt = 1 := (by decide); rw [ha] at qe26; exact qe26
      refine p_put (ci := 12) (v := .int zi23) (ty := .int) (C := RX12) (T := TX12) (N := 69) hx hb hT iw_X12 tyX12 tyX12_ok nmX12 hown hK hw hS hW kd900 (by decide) rfl rfl 61 (by decide) (hT _ tb_1435) (fun _ h9 => h9) rfl (by decide +kernel) rfl rfl dX12_write_40 (fun hp28 eh29 H locs hw hS => ?_)
      have ok30 := wr_13061 bd25 (by decide) (by decide) ok21 kd900 eh29
      refine lv_aload_n hx hb dX12_write_43 rfl (lv_at hl 0 rfl) ?_
      refine p_get (ci := 12) (v := .int zi23) (C := RX12) (T := TX12) (N := 69) hx hb hT iw_X12 hown hK hw hW kd900 (by decide) rfl rfl 61 (by decide) (hp_self eh29) (hT _ tb_1435) (fun _ h9 => h9) dX12_write_44 ?_
      refine lv_iconst (v := 1) hx hb dX12_write_47 (by decide) ?_
      refine lv_isub hx hb dX12_write_48 (lv_topi (fun zi31 ea32 => ?_))
      have bd33 : (0 : Int) ≤ zi31.toInt ∧ zi31.toInt ≤ 4 := b_isub ea32 bd25 bc_1 (by decide) (by decide) (by decide) (by decide)
      have qe34 : zi31.toInt = (zi23 : Int32).toInt - (1 : Int32).toInt := e_isub ea32 bd25 bc_1 (by decide) (by decide)
      have qe35 : zi31.toInt = zi23.toInt - 1 := by have ha : (1 : Int32).toInt = 1 := (by decide); rw [ha] at qe34; exact qe34
      rw [hQ]
      exact kz_i hx hb hr hlocks hS rfl hp28 hw ⟨ok30, (Fr.put (cq := 13061) (Fr.put (cq := 99000) (Fr.rf) eh20 kd18 (cd_a (by decide)) (by decide)) eh29 kd900 (cd_o (by decide)) (by decide)), (b_wid2 bd33 (by decide) (by decide))⟩ (Nat.le_of_ble_eq_true rfl) (Nat.le_of_ble_eq_true rfl) dX12_write_49

set_option maxRecDepth 100000 in
set_option maxHeartbeats 4000000 in
theorem cX12_burn_0 (l : Launch) (G : va_G) (cy : Nat → ClassId) (ev : Ew) (K ln : Nat → Nat) (Ls : List Nat) (hW : SW K ln Ls) (sz : Nat) (hp0 : Nat → Nat → Value) (ok0 : Ok K hp0) (qa900 : Nat) (kd900 : K qa900 = 13) : Met l yX12_burn (WS yX12_burn cX12_burn 2 (some .int)) { frames := 0, cells := 0, slots := 0, locals := 0 } (PB2 [.ref qa900] sz G cy ev (va_pl Ls (cellOf cy K ln hp0))) (QBi (S := (Nat → Nat → Value)) (fun (r : Int32) (u : (Nat → Nat → Value)) => Ok K u ∧ Fr [13061] K hp0 u ∧ ((0 : Int) ≤ r.toInt ∧ r.toInt ≤ 5)) G (fun u => va_pl Ls (cellOf cy K ln u)) (va_A (va_pl Ls (cellOf cy K ln hp0)) sz)) 0 0 (va_A (va_pl Ls (cellOf cy K ln hp0)) sz) := by
  refine met_of2 (y := yX12_burn) (L := 2) (av := [.ref qa900]) (Qc := fun A => QBi (S := (Nat → Nat → Value)) (fun (r : Int32) (u : (Nat → Nat → Value)) => Ok K u ∧ Fr [13061] K hp0 u ∧ ((0 : Int) ≤ r.toInt ∧ r.toInt ≤ 5)) G (fun u => va_pl Ls (cellOf cy K ln u)) A) (plainFor_of_name (by decide)) (Nat.le_of_ble_eq_true rfl) ?_
  intro p e s m below meth c hsz hx hb hr hml hown hT hlocks hin hK A hA hE hw hS ls hl
  have hw : PW G cy K ln Ls A hp0 s.heap := hw
  have hown : s.vm.findClass "LieClockModel" = some m.cls := hown
  have hl : lv_has ls 2 [(0, .ref qa900)] := hl
  obtain ⟨Q, hQ⟩ : ∃ Q : State → Prop, Q = MQ below (QBi (S := (Nat → Nat → Value)) (fun (r : Int32) (u : (Nat → Nat → Value)) => Ok K u ∧ Fr [13061] K hp0 u ∧ ((0 : Int) ≤ r.toInt ∧ r.toInt ≤ 5)) G (fun u => va_pl Ls (cellOf cy K ln u)) A) ([.ref qa900] : List Value).toArray s 0 0 A := ⟨_, rfl⟩
  rw [← hQ]
  refine lv_aload_n hx hb dX12_burn_0 rfl (lv_at hl 0 rfl) ?_
  obtain ⟨zi2, eq1, bd3⟩ := rd_13061 ok0 kd900
  refine p_get (ci := 12) (v := .int zi2) (C := RX12) (T := TX12) (N := 69) hx hb hT iw_X12 hown hK hw hW kd900 (by decide) rfl rfl 61 (by decide) eq1 (hT _ tb_1435) (fun _ h9 => h9) dX12_burn_1 ?_
  refine lv_istore_n (lv' := [(1, .int zi2), (0, .ref qa900)]) hx hb dX12_burn_4 rfl hl (by decide) rfl (fun ls hl => ?_)
  refine lv_aload_n hx hb dX12_burn_5 rfl (lv_at hl 1 rfl) ?_
  refine lv_iconst (v := 0) hx hb dX12_burn_6 (by decide) ?_
  refine p_put (ci := 12) (v := .int 0) (ty := .int) (C := RX12) (T := TX12) (N := 69) hx hb hT iw_X12 tyX12 tyX12_ok nmX12 hown hK hw hS hW kd900 (by decide) rfl rfl 61 (by decide) (hT _ tb_1435) (fun _ h9 => h9) rfl (by decide +kernel) rfl rfl dX12_burn_7 (fun hp4 eh5 H locs hw hS => ?_)
  have ok6 := wr_13061 bc_0 (by decide) (by decide) ok0 kd900 eh5
  refine lv_iload_n hx hb dX12_burn_10 rfl (lv_at hl 0 rfl) ?_
  rw [hQ]
  exact kz_i hx hb hr hlocks hS rfl hp4 hw ⟨ok6, (Fr.put (cq := 13061) (Fr.rf) eh5 kd900 (cd_o (by decide)) (by decide)), (b_wid2 bd3 (by decide) (by decide))⟩ (Nat.le_of_ble_eq_true rfl) (Nat.le_of_ble_eq_true rfl) dX12_burn_11

set_option maxRecDepth 100000 in
set_option maxHeartbeats 4000000 in
theorem cX12_fitsOne_0 (l : Launch) (G : va_G) (cy : Nat → ClassId) (ev : Ew) (K ln : Nat → Nat) (Ls : List Nat) (hW : SW K ln Ls) (sz : Nat) (hp0 : Nat → Nat → Value) (ok0 : Ok K hp0) (qa900 : Nat) (zi901 : Int32) (kd900 : K qa900 = 13) (bd901 : ((0 : Int) ≤ zi901.toInt ∧ zi901.toInt ≤ 5)) : Met l yX12_fitsOne (WS yX12_fitsOne cX12_fitsOne 5 none) { frames := 1, cells := 0, slots := 0, locals := 23 } (PB2 [.ref qa900, .int zi901] sz G cy ev (va_pl Ls (cellOf cy K ln hp0))) (QBv (S := (Nat → Nat → Value)) (fun u : (Nat → Nat → Value) => Ok K u ∧ Fr [13063, 13064, 13065] K hp0 u) G (fun u => va_pl Ls (cellOf cy K ln u)) (va_A (va_pl Ls (cellOf cy K ln hp0)) sz)) 0 0 (va_A (va_pl Ls (cellOf cy K ln hp0)) sz) := by
  refine met_of2 (y := yX12_fitsOne) (L := 5) (av := [.ref qa900, .int zi901]) (Qc := fun A => QBv (S := (Nat → Nat → Value)) (fun u : (Nat → Nat → Value) => Ok K u ∧ Fr [13063, 13064, 13065] K hp0 u) G (fun u => va_pl Ls (cellOf cy K ln u)) A) (plainFor_of_name (by decide)) (Nat.le_of_ble_eq_true rfl) ?_
  intro p e s m below meth c hsz hx hb hr hml hown hT hlocks hin hK A hA hE hw hS ls hl
  have hw : PW G cy K ln Ls A hp0 s.heap := hw
  have hown : s.vm.findClass "LieClockModel" = some m.cls := hown
  have hl : lv_has ls 5 [(0, .ref qa900), (1, .int zi901)] := hl
  obtain ⟨Q, hQ⟩ : ∃ Q : State → Prop, Q = MQ below (QBv (S := (Nat → Nat → Value)) (fun u : (Nat → Nat → Value) => Ok K u ∧ Fr [13063, 13064, 13065] K hp0 u) G (fun u => va_pl Ls (cellOf cy K ln u)) A) ([.ref qa900, .int zi901] : List Value).toArray s 0 0 A := ⟨_, rfl⟩
  rw [← hQ]
  refine lv_iconst (v := 0) hx hb dX12_fitsOne_0 (by decide) ?_
  refine lv_istore_n (lv' := [(2, .int 0), (0, .ref qa900), (1, .int zi901)]) hx hb dX12_fitsOne_1 rfl hl (by decide) rfl (fun ls hl => ?_)
  refine lv_iconst (v := 0) hx hb dX12_fitsOne_2 (by decide) ?_
  refine lv_istore_n (lv' := [(3, .int 0), (2, .int 0), (0, .ref qa900), (1, .int zi901)]) hx hb dX12_fitsOne_3 rfl hl (by decide) rfl (fun ls hl => ?_)
  have lp139 : ∀ (n137 : Nat) (zi98 : Int32) (zi99 : Int32) (H : Heap) (locs : List Loc) (ls : Array Slot), 5 - zi99.toInt < (n137 : Int) → ((0 : Int) ≤ zi99.toInt ∧ zi99.toInt ≤ 5) → lv_has ls 5 [(0, .ref qa900), (1, .int zi901), (2, .int zi98), (3, .int zi99)] → PW G cy K ln Ls A hp0 H → va_S A s.heap H locs → W p l e ({ frames := 1, cells := 0, slots := 0, locals := 23 } : Room) s m ([.ref qa900, .int zi901] : List Value).toArray below meth c H locs 0 0 Q (F0 m 4 ls []) := by
    intro n137
    induction n137 with
    | zero =>
      intro zi98 zi99 H locs ls hm140 bd100 hl hw hS
      exact absurd hm140 (by have := bd100; omega)
    | succ n137 ih138 =>
      intro zi98 zi99 H locs ls hm140 bd100 hl hw hS
      refine lv_iload_n hx hb dX12_fitsOne_4 rfl (lv_at hl 3 rfl) ?_
      refine lv_iload_n hx hb dX12_fitsOne_5 rfl (lv_at hl 1 rfl) ?_
      refine lv_icmp_ge (tgt := 26) hx hb dX12_fitsOne_6 (by decide) (fun cn141 => ?_) (fun cn141 => ?_)
      · skip
        refine lv_iconst (v := 0) hx hb dX12_fitsOne_26 (by decide) ?_
        refine lv_istore_n (lv' := [(3, .int 0), (0, .ref qa900), (1, .int zi901), (2, .int zi98)]) hx hb dX12_fitsOne_27 rfl hl (by decide) rfl (fun ls hl => ?_)
        refine lv_iconst (v := 0) hx hb dX12_fitsOne_28 (by decide) ?_
        refine lv_istore (lv' := [(4, .int 0), (3, .int 0), (0, .ref qa900), (1, .int zi901), (2, .int zi98)]) hx hb dX12_fitsOne_29 hl (by decide) rfl (fun ls hl => ?_)
        have lp471 : ∀ (n469 : Nat) (zi378 : Int32) (zi379 : Int32) (H : Heap) (locs : List Loc) (ls : Array Slot), 6 - zi379.toInt < (n469 : Int) → ((0 : Int) ≤ zi379.toInt ∧ zi379.toInt ≤ 6) → lv_has ls 5 [(0, .ref qa900), (2, .int zi98), (3, .int zi378), (4, .int zi379)] → PW G cy K ln Ls A hp0 H → va_S A s.heap H locs → W p l e ({ frames := 1, cells := 0, slots := 0, locals := 23 } : Room) s m ([.ref qa900, .int zi901] : List Value).toArray below meth c H locs 0 0 Q (F0 m 31 ls []) := by
          intro n469
          induction n469 with
          | zero =>
            intro zi378 zi379 H locs ls hm472 bd380 hl hw hS
            exact absurd hm472 (by have := bd380; omega)
          | succ n469 ih470 =>
            intro zi378 zi379 H locs ls hm472 bd380 hl hw hS
            refine lv_iload hx hb dX12_fitsOne_31 (lv_at hl 3 rfl) ?_
            refine lv_aload_n hx hb dX12_fitsOne_33 rfl (lv_at hl 0 rfl) ?_
            obtain ⟨qa474, eq473, kd475⟩ := rd_13027 ok0 kd900
            refine p_get (ci := 12) (v := .ref qa474) (C := RX12) (T := TX12) (N := 69) hx hb hT iw_X12 hown hK hw hW kd900 (by decide) rfl rfl 27 (by decide) eq473 (hT _ tb_1401) (fun _ h9 => h9) dX12_fitsOne_34 ?_
            refine lv_aload_n hx hb dX12_fitsOne_37 rfl (lv_at hl 0 rfl) ?_
            obtain ⟨zi477, eq476, bd478⟩ := rd_13018 ok0 kd900
            refine p_get (ci := 12) (v := .int zi477) (C := RX12) (T := TX12) (N := 69) hx hb hT iw_X12 hown hK hw hW kd900 (by decide) rfl rfl 18 (by decide) eq476 (hT _ tb_1392) (fun _ h9 => h9) dX12_fitsOne_38 ?_
            obtain ⟨zi480, eq479, bd481⟩ := rd_73000 ok0 kd475 ((zi477 : Int32).toNatClampNeg)
            refine p_iald (v := zi480) hx hb hK hw hW kd475 (by decide) rfl (hW.len kd475 (n := 2) rfl (by decide)) (vp_b bd478 (by decide) (by decide)) eq479 dX12_fitsOne_41 ?_
            refine lv_icmp_ge (tgt := 74) hx hb dX12_fitsOne_42 (by decide) (fun cn482 => ?_) (fun cn482 => ?_)
            · skip
              refine lv_aload_n hx hb dX12_fitsOne_74 rfl (lv_at hl 0 rfl) ?_
              refine lv_aload_n hx hb dX12_fitsOne_75 rfl (lv_at hl 0 rfl) ?_
              obtain ⟨wl518, eq517⟩ := rd_13063 ok0 kd900
              refine p_get (ci := 12) (v := .long wl518) (C := RX12) (T := TX12) (N := 69) hx hb hT iw_X12 hown hK hw hW kd900 (by decide) rfl rfl 63 (by decide) eq517 (hT _ tb_1437) (fun _ h9 => h9) dX12_fitsOne_76 ?_
              refine lv_lconst (v := 0) hx hb dX12_fitsOne_79 (by decide) ?_
              refine W.lcmp hx hb dX12_fitsOne_80 (lv_topi (fun zi519 ea520 => ?_))
              have jn528 : ∀ (zi527 : Int32) (H : Heap) (locs : List Loc) (ls : Array Slot), lv_has ls 5 [(0, .ref qa900), (3, .int zi378)] → PW G cy K ln Ls A hp0 H → va_S A s.heap H locs → W p l e ({ frames := 1, cells := 0, slots := 0, locals := 23 } : Room) s m ([.ref qa900, .int zi901] : List Value).toArray below meth c H locs 0 0 Q (F0 m 94 ls [.int zi527, .ref qa900]) := by
                intro zi527 H locs ls hl hw hS
                refine p_put (ci := 12) (v := .int zi527) (ty := .int) (C := RX12) (T := TX12) (N := 69) hx hb hT iw_X12 tyX12 tyX12_ok nmX12 hown hK hw hS hW kd900 (by decide) rfl rfl 64 (by decide) (hT _ tb_1438) (fun _ h9 => h9) rfl (by decide +kernel) rfl rfl dX12_fitsOne_94 (fun hp529 eh530 H locs hw hS => ?_)
                have ok531 := wr_13064 ok0 kd900 eh530
                refine lv_aload_n hx hb dX12_fitsOne_97 rfl (lv_at hl 0 rfl) ?_
                refine lv_aload_n hx hb dX12_fitsOne_98 rfl (lv_at hl 0 rfl) ?_
                have eq532 : hp529 qa900 63 = .long wl518 := Eq.trans (up_at eh530 (Or.inr (by decide))) eq517
                refine p_get (ci := 12) (v := .long wl518) (C := RX12) (T := TX12) (N := 69) hx hb hT iw_X12 hown hK hw hW kd900 (by decide) rfl rfl 63 (by decide) eq532 (hT _ tb_1437) (fun _ h9 => h9) dX12_fitsOne_99 ?_
                refine lv_lconst (v := 0) hx hb dX12_fitsOne_102 (by decide) ?_
                refine W.lcmp hx hb dX12_fitsOne_103 (lv_topi (fun zi533 ea534 => ?_))
                have jn542 : ∀ (zi541 : Int32) (H : Heap) (locs : List Loc) (ls : Array Slot), lv_has ls 5 [(0, .ref qa900)] → PW G cy K ln Ls A hp529 H → va_S A s.heap H locs → W p l e ({ frames := 1, cells := 0, slots := 0, locals := 23 } : Room) s m ([.ref qa900, .int zi901] : List Value).toArray below meth c H locs 0 0 Q (F0 m 117 ls [.int zi541, .ref qa900]) := by
                  intro zi541 H locs ls hl hw hS
                  refine p_put (ci := 12) (v := .int zi541) (ty := .int) (C := RX12) (T := TX12) (N := 69) hx hb hT iw_X12 tyX12 tyX12_ok nmX12 hown hK hw hS hW kd900 (by decide) rfl rfl 65 (by decide) (hT _ tb_1439) (fun _ h9 => h9) rfl (by decide +kernel) rfl rfl dX12_fitsOne_117 (fun hp543 eh544 H locs hw hS => ?_)
                  have ok545 := wr_13065 ok531 kd900 eh544
                  refine lv_aload_n hx hb dX12_fitsOne_120 rfl (lv_at hl 0 rfl) ?_
                  refine lv_dup hx hb dX12_fitsOne_121 rfl ?_
                  have eq546 : hp543 qa900 63 = .long wl518 := Eq.trans (up_at eh544 (Or.inr (by decide))) eq532
                  refine p_get (ci := 12) (v := .long wl518) (C := RX12) (T := TX12) (N := 69) hx hb hT iw_X12 hown hK hw hW kd900 (by decide) rfl rfl 63 (by decide) eq546 (hT _ tb_1437) (fun _ h9 => h9) dX12_fitsOne_122 ?_
                  refine lv_lconst (v := 1) hx hb dX12_fitsOne_125 (by decide) ?_
                  refine lv_ladd hx hb dX12_fitsOne_126 (lv_topl (fun wl547 _ => ?_))
                  refine p_put (ci := 12) (v := .long wl547) (ty := .long) (C := RX12) (T := TX12) (N := 69) hx hb hT iw_X12 tyX12 tyX12_ok nmX12 hown hK hw hS hW kd900 (by decide) rfl rfl 63 (by decide) (hT _ tb_1437) (fun _ h9 => h9) rfl (by decide +kernel) rfl rfl dX12_fitsOne_127 (fun hp548 eh549 H locs hw hS => ?_)
                  have ok550 := wr_13063 ok545 kd900 eh549
                  rw [hQ]
                  exact kz_v hx hb hr hlocks hS hp548 hw ⟨ok550, (Fr.put (cq := 13063) (Fr.put (cq := 13065) (Fr.put (cq := 13064) (Fr.rf) eh530 kd900 (cd_o (by decide)) (by decide)) eh544 kd900 (cd_o (by decide)) (by decide)) eh549 kd900 (cd_o (by decide)) (by decide))⟩ (Nat.le_of_ble_eq_true rfl) (Nat.le_of_ble_eq_true rfl) dX12_fitsOne_130
                refine lv_if_ne (tgt := 111) hx hb dX12_fitsOne_104 (by decide) (fun cn535 => ?_) (fun cn535 => ?_)
                · skip
                  refine lv_aload_n hx hb dX12_fitsOne_111 rfl (lv_at hl 0 rfl) ?_
                  obtain ⟨zi552, eq551⟩ := rd_13065 ok531 kd900
                  refine p_get (ci := 12) (v := .int zi552) (C := RX12) (T := TX12) (N := 69) hx hb hT iw_X12 hown hK hw hW kd900 (by decide) rfl rfl 65 (by decide) eq551 (hT _ tb_1439) (fun _ h9 => h9) dX12_fitsOne_112 ?_
                  refine lv_iload_n hx hb dX12_fitsOne_115 rfl (lv_at hl 1 rfl) ?_
                  refine lv_iand hx hb dX12_fitsOne_116 (lv_topi (fun zi553 ea554 => ?_))
                  exact jn542 zi553 _ _ ls (lv_sub hl [0] rfl) hw hS
                · skip
                  have bd555 : (0 : Int) ≤ zi533.toInt ∧ zi533.toInt ≤ 0 := r_eq_x cn535 (b_all zi533) bc_0 (by decide) (by decide)
                  refine lv_iload_n hx hb dX12_fitsOne_107 rfl (lv_at hl 1 rfl) ?_
                  refine lv_goto (tgt := 117) hx hb dX12_fitsOne_108 (by decide) ?_
                  exact jn542 zi378 _ _ ls (lv_sub hl [0] rfl) hw hS
              refine lv_if_ne (tgt := 88) hx hb dX12_fitsOne_81 (by decide) (fun cn521 => ?_) (fun cn521 => ?_)
              · skip
                refine lv_aload_n hx hb dX12_fitsOne_88 rfl (lv_at hl 0 rfl) ?_
                obtain ⟨zi557, eq556⟩ := rd_13064 ok0 kd900
                refine p_get (ci := 12) (v := .int zi557) (C := RX12) (T := TX12) (N := 69) hx hb hT iw_X12 hown hK hw hW kd900 (by decide) rfl rfl 64 (by decide) eq556 (hT _ tb_1438) (fun _ h9 => h9) dX12_fitsOne_89 ?_
                refine lv_iload_n hx hb dX12_fitsOne_92 rfl (lv_at hl 1 rfl) ?_
                refine lv_iand hx hb dX12_fitsOne_93 (lv_topi (fun zi558 ea559 => ?_))
                exact jn528 zi558 _ _ ls (lv_sub hl [0, 2] rfl) hw hS
              · skip
                have bd560 : (0 : Int) ≤ zi519.toInt ∧ zi519.toInt ≤ 0 := r_eq_x cn521 (b_all zi519) bc_0 (by decide) (by decide)
                refine lv_iload_n hx hb dX12_fitsOne_84 rfl (lv_at hl 1 rfl) ?_
                refine lv_goto (tgt := 94) hx hb dX12_fitsOne_85 (by decide) ?_
                exact jn528 zi98 _ _ ls (lv_sub hl [0, 2] rfl) hw hS
            · skip
              have bd561 : (0 : Int) ≤ zi379.toInt ∧ zi379.toInt ≤ 5 := r_lt_x (Int32.not_le.mp cn482) bd380 bd481 (by decide) (by decide)
              have bd562 : (1 : Int) ≤ zi480.toInt ∧ zi480.toInt ≤ 6 := r_lt_y (Int32.not_le.mp cn482) bd380 bd481 (by decide) (by decide)
              refine lv_aload_n hx hb dX12_fitsOne_45 rfl (lv_at hl 0 rfl) ?_
              obtain ⟨qa564, eq563, kd565⟩ := rd_13050 ok0 kd900
              refine p_get (ci := 12) (v := .ref qa564) (C := RX12) (T := TX12) (N := 69) hx hb hT iw_X12 hown hK hw hW kd900 (by decide) rfl rfl 50 (by decide) eq563 (hT _ tb_1424) (fun _ h9 => h9) dX12_fitsOne_46 ?_
              refine lv_iconst (v := 2) hx hb dX12_fitsOne_49 (by decide) ?_
              obtain ⟨zi567, eq566⟩ := rd_93000 ok0 kd565 ((2 : Int32).toNatClampNeg)
              refine p_iald (v := zi567) hx hb hK hw hW kd565 (by decide) rfl (hW.len kd565 (n := 40) rfl (by decide)) (vp_b bc_2 (by decide) (by decide)) eq566 dX12_fitsOne_50 ?_
              refine lv_aload_n hx hb dX12_fitsOne_51 rfl (lv_at hl 0 rfl) ?_
              refine lv_iload hx hb dX12_fitsOne_52 (lv_at hl 3 rfl) ?_
              refine kq_i hw hS hA (va_runV (As := [.int zi379]) (rest := [.int zi567]) ⟨hx, hb, hml, hown, hT⟩ (cX12_wordsOf_0 l G cy ev K ln Ls hW _ hp0 ok0 qa900 zi379 kd900) (cwV 1 hT (good_V tb_1773 tb_1770 tb_1772 tb_82 tb_122) rfl rfl rfl (by decide +kernel) ⟨Nat.le_of_ble_eq_true rfl, Nat.le_of_ble_eq_true rfl⟩) (pool_preV (ci := 12) hK hE hS hA hw hW kd900 (by decide) rfl) rfl rfl hl.1 rfl (lv_room (Nat.le_of_ble_eq_true rfl)) dX12_fitsOne_54 ⟨Nat.le_of_ble_eq_true rfl, Nat.le_of_ble_eq_true rfl⟩) (fun zi572 hp568 H locs hq571 hw hS => ?_)
              obtain ⟨ok569, F570⟩ := hq571
              obtain rfl : hp0 = hp568 := (Fr.nil F570).symm
              have hw : PW G cy K ln Ls A hp0 H := hw
              refine lv_iand hx hb dX12_fitsOne_57 (lv_topi (fun zi573 ea574 => ?_))
              have jn583 : ∀ (zi582 : Int32) (H : Heap) (locs : List Loc) (ls : Array Slot), lv_has ls 5 [(0, .ref qa900), (2, .int zi98), (3, .int zi582), (4, .int zi379)] → PW G cy K ln Ls A hp0 H → va_S A s.heap H locs → W p l e ({ frames := 1, cells := 0, slots := 0, locals := 23 } : Room) s m ([.ref qa900, .int zi901] : List Value).toArray below meth c H locs 0 0 Q (F0 m 68 ls []) := by
                intro zi582 H locs ls hl hw hS
                obtain ⟨zi584, ea585⟩ : ∃ z : Int32, z = zi379 + 1 := ⟨_, rfl⟩
                have bd586 : (1 : Int) ≤ zi584.toInt ∧ zi584.toInt ≤ 6 := b_iadd ea585 bd561 bc_1 (by decide) (by decide) (by decide) (by decide)
                have qe587 : zi584.toInt = (zi379 : Int32).toInt + (1 : Int32).toInt := e_iadd ea585 bd561 bc_1 (by decide) (by decide)
                have qe588 : zi584.toInt = zi379.toInt + 1 := by have ha : (1 : Int32).toInt = 1 := (by decide); rw [ha] at qe587; exact qe587
                refine lv_iinc (v := zi584) (lv' := [(4, .int zi584), (0, .ref qa900), (2, .int zi98), (3, .int zi582)]) hx hb dX12_fitsOne_68 hl (k := 3) rfl ea585.symm (by decide) rfl (fun ls hl => ?_)
                refine lv_goto (tgt := 31) hx hb dX12_fitsOne_71 (by decide) ?_
                exact ih470 zi582 zi584 _ _ ls (by have := hm472; have := qe588; omega) (b_wid2 bd586 (by decide) (by decide)) (lv_sub hl [1, 2, 3, 0] rfl) hw hS
              refine lv_if_eq (tgt := 68) hx hb dX12_fitsOne_58 (by decide) (fun cn575 => ?_) (fun cn575 => ?_)
              · skip
                have bd589 : (0 : Int) ≤ zi573.toInt ∧ zi573.toInt ≤ 0 := r_eq_x cn575 (b_all zi573) bc_0 (by decide) (by decide)
                exact jn583 zi378 _ _ ls (lv_sub hl [0, 1, 2, 3] rfl) hw hS
              · skip
                refine lv_iload_n hx hb dX12_fitsOne_61 rfl (lv_at hl 2 rfl) ?_
                refine lv_iconst (v := 1) hx hb dX12_fitsOne_62 (by decide) ?_
                refine lv_iload hx hb dX12_fitsOne_63 (lv_at hl 3 rfl) ?_
                refine lv_ishl hx hb dX12_fitsOne_65 (lv_topi (fun zi590 ea591 => ?_))
                have bd592 : (1 : Int) ≤ zi590.toInt ∧ zi590.toInt ≤ 32 := b_shl1 5 ea591 bd561 (by decide) (by decide) (by decide) (by decide) (by decide)
                refine lv_ior hx hb dX12_fitsOne_66 (lv_topi (fun zi593 ea594 => ?_))
                refine lv_istore_n (lv' := [(3, .int zi593), (0, .ref qa900), (2, .int zi98), (4, .int zi379)]) hx hb dX12_fitsOne_67 rfl hl (by decide) rfl (fun ls hl => ?_)
                exact jn583 zi593 _ _ ls (lv_sub hl [1, 2, 0, 3] rfl) hw hS
        exact lp471 _ 0 0 _ _ ls (lp_in _) (b_wid2 bc_0 (by decide) (by decide)) (lv_sub hl [2, 4, 1, 0] rfl) hw hS
      · skip
        have bd595 : (0 : Int) ≤ zi99.toInt ∧ zi99.toInt ≤ 4 := r_lt_x (Int32.not_le.mp cn141) bd100 bd901 (by decide) (by decide)
        have bd596 : (1 : Int) ≤ zi901.toInt ∧ zi901.toInt ≤ 5 := r_lt_y (Int32.not_le.mp cn141) bd100 bd901 (by decide) (by decide)
        refine lv_iload_n hx hb dX12_fitsOne_9 rfl (lv_at hl 2 rfl) ?_
        refine lv_iconst (v := 1) hx hb dX12_fitsOne_10 (by decide) ?_
        refine lv_aload_n hx hb dX12_fitsOne_11 rfl (lv_at hl 0 rfl) ?_
        obtain ⟨qa598, eq597, kd599⟩ := rd_13056 ok0 kd900
        refine p_get (ci := 12) (v := .ref qa598) (C := RX12) (T := TX12) (N := 69) hx hb hT iw_X12 hown hK hw hW kd900 (by decide) rfl rfl 56 (by decide) eq597 (hT _ tb_1430) (fun _ h9 => h9) dX12_fitsOne_12 ?_
        refine lv_iload_n hx hb dX12_fitsOne_15 rfl (lv_at hl 3 rfl) ?_
        obtain ⟨zi601, eq600, bd602⟩ := rd_95000 ok0 kd599 ((zi99 : Int32).toNatClampNeg)
        refine p_iald (v := zi601) hx hb hK hw hW kd599 (by decide) rfl (hW.len kd599 (n := 6) rfl (by decide)) (vp_b bd595 (by decide) (by decide)) eq600 dX12_fitsOne_16 ?_
        refine lv_ishl hx hb dX12_fitsOne_17 (lv_topi (fun zi603 ea604 => ?_))
        refine lv_ior hx hb dX12_fitsOne_18 (lv_topi (fun zi605 ea606 => ?_))
        refine lv_istore_n (lv' := [(2, .int zi605), (0, .ref qa900), (1, .int zi901), (3, .int zi99)]) hx hb dX12_fitsOne_19 rfl hl (by decide) rfl (fun ls hl => ?_)
        obtain ⟨zi607, ea608⟩ : ∃ z : Int32, z = zi99 + 1 := ⟨_, rfl⟩
        have bd609 : (1 : Int) ≤ zi607.toInt ∧ zi607.toInt ≤ 5 := b_iadd ea608 bd595 bc_1 (by decide) (by decide) (by decide) (by decide)
        have qe610 : zi607.toInt = (zi99 : Int32).toInt + (1 : Int32).toInt := e_iadd ea608 bd595 bc_1 (by decide) (by decide)
        have qe611 : zi607.toInt = zi99.toInt + 1 := by have ha : (1 : Int32).toInt = 1 := (by decide); rw [ha] at qe610; exact qe610
        refine lv_iinc (v := zi607) (lv' := [(3, .int zi607), (2, .int zi605), (0, .ref qa900), (1, .int zi901)]) hx hb dX12_fitsOne_20 hl (k := 3) rfl ea608.symm (by decide) rfl (fun ls hl => ?_)
        refine lv_goto (tgt := 4) hx hb dX12_fitsOne_23 (by decide) ?_
        exact ih138 zi605 zi607 _ _ ls (by have := hm140; have := qe611; omega) (b_wid2 bd609 (by decide) (by decide)) (lv_sub hl [2, 3, 1, 0] rfl) hw hS
  exact lp139 _ 0 0 _ _ ls (lp_in _) (b_wid2 bc_0 (by decide) (by decide)) (lv_sub hl [2, 3, 1, 0] rfl) hw hS
