set_option maxRecDepth 100000 in
set_option maxHeartbeats 4000000 in
theorem cX12_hearing_0 (l : Launch) (G : va_G) (cy : Nat → ClassId) (ev : Ew) (K ln : Nat → Nat) (Ls : List Nat) (hW : SW K ln Ls) (sz : Nat) (hp0 : Nat → Nat → Value) (ok0 : Ok K hp0) (qa900 : Nat) (zi901 : Int32) (zi902 : Int32) (kd900 : K qa900 = 13) : Met l yX12_hearing (WS yX12_hearing cX12_hearing 3 (some .int)) { frames := 2, cells := 0, slots := 0, locals := 49 } (PB2 [.ref qa900, .int zi901, .int zi902] sz G cy ev (va_pl Ls (cellOf cy K ln hp0))) (QBi (S := (Nat → Nat → Value)) (fun (r : Int32) (u : (Nat → Nat → Value)) => Ok K u ∧ Fr [93000] K hp0 u) G (fun u => va_pl Ls (cellOf cy K ln u)) (va_A (va_pl Ls (cellOf cy K ln hp0)) sz)) 0 0 (va_A (va_pl Ls (cellOf cy K ln hp0)) sz) := by
  refine met_of2 (y := yX12_hearing) (L := 3) (av := [.ref qa900, .int zi901, .int zi902]) (Qc := fun A => QBi (S := (Nat → Nat → Value)) (fun (r : Int32) (u : (Nat → Nat → Value)) => Ok K u ∧ Fr [93000] K hp0 u) G (fun u => va_pl Ls (cellOf cy K ln u)) A) (plainFor_of_name (by decide)) (Nat.le_of_ble_eq_true rfl) ?_
  intro p e s m below meth c hsz hx hb hr hml hown hT hlocks hin hK A hA hE hw hS ls hl
  have hw : PW G cy K ln Ls A hp0 s.heap := hw
  have hown : s.vm.findClass "LieClockModel" = some m.cls := hown
  have hl : lv_has ls 3 [(0, .ref qa900), (1, .int zi901), (2, .int zi902)] := hl
  obtain ⟨Q, hQ⟩ : ∃ Q : State → Prop, Q = MQ below (QBi (S := (Nat → Nat → Value)) (fun (r : Int32) (u : (Nat → Nat → Value)) => Ok K u ∧ Fr [93000] K hp0 u) G (fun u => va_pl Ls (cellOf cy K ln u)) A) ([.ref qa900, .int zi901, .int zi902] : List Value).toArray s 0 0 A := ⟨_, rfl⟩
  rw [← hQ]
  refine lv_aload_n hx hb dX12_hearing_0 rfl (lv_at hl 0 rfl) ?_
  refine lv_iload_n hx hb dX12_hearing_1 rfl (lv_at hl 1 rfl) ?_
  refine kq_i hw hS hA (va_runV (As := [.int zi901]) (rest := []) ⟨hx, hb, hml, hown, hT⟩ (cX12_isCase_0 l G cy ev K ln Ls hW _ hp0 ok0 qa900 zi901 kd900) (cwV 1 hT (good_V tb_1797 tb_1794 tb_1796 tb_85 tb_122) rfl rfl rfl (by decide +kernel) ⟨Nat.le_of_ble_eq_true rfl, Nat.le_of_ble_eq_true rfl⟩) (pool_preV (ci := 12) hK hE hS hA hw hW kd900 (by decide) rfl) rfl rfl hl.1 rfl (lv_room (Nat.le_of_ble_eq_true rfl)) dX12_hearing_2 ⟨Nat.le_of_ble_eq_true rfl, Nat.le_of_ble_eq_true rfl⟩) (fun zi5 hp1 H locs hq4 hw hS => ?_)
  obtain ⟨ok2, F3, bd6, hc7⟩ := hq4
  obtain rfl : hp0 = hp1 := (Fr.nil F3).symm
  have hw : PW G cy K ln Ls A hp0 H := hw
  rcases b01 bd6 with cn8 | cn8
  · skip
    subst cn8
    refine lv_if_ne (tgt := 10) hx hb dX12_hearing_5 (by decide) (fun c => absurd (d_eq bc_0 bc_0) c) (fun _ => ?_)
    refine lv_iconst (v := (-1)) hx hb dX12_hearing_8 (by decide) ?_
    rw [hQ]
    exact kz_i hx hb hr hlocks hS rfl hp0 hw ⟨ok0, (Fr.rf)⟩ (Nat.le_of_ble_eq_true rfl) (Nat.le_of_ble_eq_true rfl) dX12_hearing_9
  · skip
    subst cn8
    have bd9 : (0 : Int) ≤ zi901.toInt ∧ zi901.toInt ≤ 7 := b_meet (b_all zi901) (hc7 rfl) (by decide) (by decide)
    refine lv_if_ne (tgt := 10) hx hb dX12_hearing_5 (by decide) (fun _ => ?_) (fun c => absurd c (d_ne bc_1 bc_0 (by decide)))
    refine lv_aload_n hx hb dX12_hearing_10 rfl (lv_at hl 0 rfl) ?_
    refine kq_v hw hS hA (va_runV (As := []) (rest := []) ⟨hx, hb, hml, hown, hT⟩ (cX12_copies_0 l G cy ev K ln Ls hW _ hp0 ok0 qa900 kd900) (cwV 0 hT (good_V tb_1769 tb_1766 tb_1768 tb_81 tb_122) rfl rfl rfl (by decide +kernel) ⟨Nat.le_of_ble_eq_true rfl, Nat.le_of_ble_eq_true rfl⟩) (pool_preV (ci := 12) hK hE hS hA hw hW kd900 (by decide) rfl) rfl rfl hl.1 rfl (lv_room (Nat.le_of_ble_eq_true rfl)) dX12_hearing_11 ⟨Nat.le_of_ble_eq_true rfl, Nat.le_of_ble_eq_true rfl⟩) (fun hp10 H locs hq13 hw hS => ?_)
    obtain ⟨ok11, F12⟩ := hq13
    have hw : PW G cy K ln Ls A hp10 H := hw
    refine lv_iload_n hx hb dX12_hearing_14 rfl (lv_at hl 2 rfl) ?_
    by_cases cn15 : zi902 = 0
    · skip
      refine lv_tableIn (tgt := 44) hx hb dX12_hearing_15 (by rw [cn15]; decide) (by rw [cn15]; decide) (by rw [cn15]; rfl) (by decide) ?_
      have bd23 : (0 : Int) ≤ zi902.toInt ∧ zi902.toInt ≤ 0 := r_eq_x cn15 (b_all zi902) bc_0 (by decide) (by decide)
      refine lv_aload_n hx hb dX12_hearing_44 rfl (lv_at hl 0 rfl) ?_
      obtain ⟨qa25, eq24, kd26⟩ := rd_13033 ok11 kd900
      refine p_get (ci := 12) (v := .ref qa25) (C := RX12) (T := TX12) (N := 69) hx hb hT iw_X12 hown hK hw hW kd900 (by decide) rfl rfl 33 (by decide) eq24 (hT _ tb_1407) (fun _ h9 => h9) dX12_hearing_45 ?_
      refine lv_bipush (v := 8) hx hb dX12_hearing_48 (by decide) ?_
      refine lv_aload_n hx hb dX12_hearing_50 rfl (lv_at hl 0 rfl) ?_
      obtain ⟨zi28, eq27, bd29⟩ := rd_13018 ok11 kd900
      refine p_get (ci := 12) (v := .int zi28) (C := RX12) (T := TX12) (N := 69) hx hb hT iw_X12 hown hK hw hW kd900 (by decide) rfl rfl 18 (by decide) eq27 (hT _ tb_1392) (fun _ h9 => h9) dX12_hearing_51 ?_
      refine lv_imul hx hb dX12_hearing_54 (lv_topi (fun zi30 ea31 => ?_))
      have bd32 : (0 : Int) ≤ zi30.toInt ∧ zi30.toInt ≤ 8 := b_imul ea31 bc_8 bd29 (by decide) (by decide) (by decide) (by decide) (by decide)
      refine lv_iload_n hx hb dX12_hearing_55 rfl (lv_at hl 1 rfl) ?_
      refine lv_iadd hx hb dX12_hearing_56 (lv_topi (fun zi33 ea34 => ?_))
      have bd35 : (0 : Int) ≤ zi33.toInt ∧ zi33.toInt ≤ 15 := b_iadd ea34 bd32 bd9 (by decide) (by decide) (by decide) (by decide)
      obtain ⟨zi37, eq36⟩ := rd_79000 ok11 kd26 ((zi33 : Int32).toNatClampNeg)
      refine p_iald (v := zi37) hx hb hK hw hW kd26 (by decide) rfl (hW.len kd26 (n := 16) rfl (by decide)) (vp_b bd35 (by decide) (by decide)) eq36 dX12_hearing_57 ?_
      rw [hQ]
      exact kz_i hx hb hr hlocks hS rfl hp10 hw ⟨ok11, (Fr.tr (Fr.rf) F12 (by decide))⟩ (Nat.le_of_ble_eq_true rfl) (Nat.le_of_ble_eq_true rfl) dX12_hearing_58
    by_cases cn16 : zi902 = 1
    · skip
      refine lv_tableIn (tgt := 59) hx hb dX12_hearing_15 (by rw [cn16]; decide) (by rw [cn16]; decide) (by rw [cn16]; rfl) (by decide) ?_
      have bd38 : (1 : Int) ≤ zi902.toInt ∧ zi902.toInt ≤ 1 := r_eq_x cn16 (b_all zi902) bc_1 (by decide) (by decide)
      refine lv_aload_n hx hb dX12_hearing_59 rfl (lv_at hl 0 rfl) ?_
      obtain ⟨qa40, eq39, kd41⟩ := rd_13050 ok11 kd900
      refine p_get (ci := 12) (v := .ref qa40) (C := RX12) (T := TX12) (N := 69) hx hb hT iw_X12 hown hK hw hW kd900 (by decide) rfl rfl 50 (by decide) eq39 (hT _ tb_1424) (fun _ h9 => h9) dX12_hearing_60 ?_
      refine lv_iconst (v := 4) hx hb dX12_hearing_63 (by decide) ?_
      refine lv_iload_n hx hb dX12_hearing_64 rfl (lv_at hl 1 rfl) ?_
      refine lv_iadd hx hb dX12_hearing_65 (lv_topi (fun zi42 ea43 => ?_))
      have bd44 : (4 : Int) ≤ zi42.toInt ∧ zi42.toInt ≤ 11 := b_iadd ea43 bc_4 bd9 (by decide) (by decide) (by decide) (by decide)
      obtain ⟨zi46, eq45⟩ := rd_93000 ok11 kd41 ((zi42 : Int32).toNatClampNeg)
      refine p_iald (v := zi46) hx hb hK hw hW kd41 (by decide) rfl (hW.len kd41 (n := 40) rfl (by decide)) (vp_b bd44 (by decide) (by decide)) eq45 dX12_hearing_66 ?_
      rw [hQ]
      exact kz_i hx hb hr hlocks hS rfl hp10 hw ⟨ok11, (Fr.tr (Fr.rf) F12 (by decide))⟩ (Nat.le_of_ble_eq_true rfl) (Nat.le_of_ble_eq_true rfl) dX12_hearing_67
    by_cases cn17 : zi902 = 2
    · skip
      refine lv_tableIn (tgt := 68) hx hb dX12_hearing_15 (by rw [cn17]; decide) (by rw [cn17]; decide) (by rw [cn17]; rfl) (by decide) ?_
      have bd47 : (2 : Int) ≤ zi902.toInt ∧ zi902.toInt ≤ 2 := r_eq_x cn17 (b_all zi902) bc_2 (by decide) (by decide)
      refine lv_aload_n hx hb dX12_hearing_68 rfl (lv_at hl 0 rfl) ?_
      obtain ⟨qa49, eq48, kd50⟩ := rd_13050 ok11 kd900
      refine p_get (ci := 12) (v := .ref qa49) (C := RX12) (T := TX12) (N := 69) hx hb hT iw_X12 hown hK hw hW kd900 (by decide) rfl rfl 50 (by decide) eq48 (hT _ tb_1424) (fun _ h9 => h9) dX12_hearing_69 ?_
      refine lv_bipush (v := 12) hx hb dX12_hearing_72 (by decide) ?_
      refine lv_iload_n hx hb dX12_hearing_74 rfl (lv_at hl 1 rfl) ?_
      refine lv_iadd hx hb dX12_hearing_75 (lv_topi (fun zi51 ea52 => ?_))
      have bd53 : (12 : Int) ≤ zi51.toInt ∧ zi51.toInt ≤ 19 := b_iadd ea52 bc_12 bd9 (by decide) (by decide) (by decide) (by decide)
      obtain ⟨zi55, eq54⟩ := rd_93000 ok11 kd50 ((zi51 : Int32).toNatClampNeg)
      refine p_iald (v := zi55) hx hb hK hw hW kd50 (by decide) rfl (hW.len kd50 (n := 40) rfl (by decide)) (vp_b bd53 (by decide) (by decide)) eq54 dX12_hearing_76 ?_
      rw [hQ]
      exact kz_i hx hb hr hlocks hS rfl hp10 hw ⟨ok11, (Fr.tr (Fr.rf) F12 (by decide))⟩ (Nat.le_of_ble_eq_true rfl) (Nat.le_of_ble_eq_true rfl) dX12_hearing_77
    by_cases cn18 : zi902 = 3
    · skip
      refine lv_tableIn (tgt := 78) hx hb dX12_hearing_15 (by rw [cn18]; decide) (by rw [cn18]; decide) (by rw [cn18]; rfl) (by decide) ?_
      have bd56 : (3 : Int) ≤ zi902.toInt ∧ zi902.toInt ≤ 3 := r_eq_x cn18 (b_all zi902) bc_3 (by decide) (by decide)
      refine lv_aload_n hx hb dX12_hearing_78 rfl (lv_at hl 0 rfl) ?_
      refine lv_iload_n hx hb dX12_hearing_79 rfl (lv_at hl 1 rfl) ?_
      refine kq_i hw hS hA (va_runV (As := [.int zi901]) (rest := []) ⟨hx, hb, hml, hown, hT⟩ (cX12_verdictOf_0 l G cy ev K ln Ls hW _ hp10 ok11 qa900 zi901 kd900 (b_wid2 bd9 (by decide) (by decide))) (cwV 1 hT (good_V tb_1801 tb_1798 tb_1800 tb_86 tb_122) rfl rfl rfl (by decide +kernel) ⟨Nat.le_of_ble_eq_true rfl, Nat.le_of_ble_eq_true rfl⟩) (pool_preV (ci := 12) hK hE hS hA hw hW kd900 (by decide) rfl) rfl rfl hl.1 rfl (lv_room (Nat.le_of_ble_eq_true rfl)) dX12_hearing_80 ⟨Nat.le_of_ble_eq_true rfl, Nat.le_of_ble_eq_true rfl⟩) (fun zi61 hp57 H locs hq60 hw hS => ?_)
      obtain ⟨ok58, F59, bd62⟩ := hq60
      obtain rfl : hp10 = hp57 := (Fr.nil F59).symm
      have hw : PW G cy K ln Ls A hp10 H := hw
      rw [hQ]
      exact kz_i hx hb hr hlocks hS rfl hp10 hw ⟨ok11, (Fr.tr (Fr.rf) F12 (by decide))⟩ (Nat.le_of_ble_eq_true rfl) (Nat.le_of_ble_eq_true rfl) dX12_hearing_83
    have nn19 : zi902.toInt ≠ 0 := fun e => cn15 (Int32.toInt_inj.mp (e.trans (by decide)))
    have nn20 : zi902.toInt ≠ 1 := fun e => cn16 (Int32.toInt_inj.mp (e.trans (by decide)))
    have nn21 : zi902.toInt ≠ 2 := fun e => cn17 (Int32.toInt_inj.mp (e.trans (by decide)))
    have nn22 : zi902.toInt ≠ 3 := fun e => cn18 (Int32.toInt_inj.mp (e.trans (by decide)))
    refine lv_tableOut (tgt := 84) hx hb dX12_hearing_15 (by have := (b_all zi902); omega) (by decide) ?_
    refine lv_iconst (v := (-1)) hx hb dX12_hearing_84 (by decide) ?_
    rw [hQ]
    exact kz_i hx hb hr hlocks hS rfl hp10 hw ⟨ok11, (Fr.tr (Fr.rf) F12 (by decide))⟩ (Nat.le_of_ble_eq_true rfl) (Nat.le_of_ble_eq_true rfl) dX12_hearing_85

set_option maxRecDepth 100000 in
set_option maxHeartbeats 4000000 in
theorem cX12_keeps_0 (l : Launch) (G : va_G) (cy : Nat → ClassId) (ev : Ew) (K ln : Nat → Nat) (Ls : List Nat) (hW : SW K ln Ls) (sz : Nat) (hp0 : Nat → Nat → Value) (ok0 : Ok K hp0) (qa900 : Nat) (kd900 : K qa900 = 13) : Met l yX12_keeps (WS yX12_keeps cX12_keeps 2 none) { frames := 0, cells := 0, slots := 0, locals := 0 } (PB2 [.ref qa900] sz G cy ev (va_pl Ls (cellOf cy K ln hp0))) (QBv (S := (Nat → Nat → Value)) (fun u : (Nat → Nat → Value) => Ok K u ∧ Fr [13053, 92000, 94000] K hp0 u ∧ (∃ z : Int32, u qa900 53 = .int z ∧ ((1 : Int) ≤ z.toInt ∧ z.toInt ≤ 40))) G (fun u => va_pl Ls (cellOf cy K ln u)) (va_A (va_pl Ls (cellOf cy K ln hp0)) sz)) 0 0 (va_A (va_pl Ls (cellOf cy K ln hp0)) sz) := by
  refine met_of2 (y := yX12_keeps) (L := 2) (av := [.ref qa900]) (Qc := fun A => QBv (S := (Nat → Nat → Value)) (fun u : (Nat → Nat → Value) => Ok K u ∧ Fr [13053, 92000, 94000] K hp0 u ∧ (∃ z : Int32, u qa900 53 = .int z ∧ ((1 : Int) ≤ z.toInt ∧ z.toInt ≤ 40))) G (fun u => va_pl Ls (cellOf cy K ln u)) A) (plainFor_of_name (by decide)) (Nat.le_of_ble_eq_true rfl) ?_
  intro p e s m below meth c hsz hx hb hr hml hown hT hlocks hin hK A hA hE hw hS ls hl
  have hw : PW G cy K ln Ls A hp0 s.heap := hw
  have hown : s.vm.findClass "LieClockModel" = some m.cls := hown
  have hl : lv_has ls 2 [(0, .ref qa900)] := hl
  obtain ⟨Q, hQ⟩ : ∃ Q : State → Prop, Q = MQ below (QBv (S := (Nat → Nat → Value)) (fun u : (Nat → Nat → Value) => Ok K u ∧ Fr [13053, 92000, 94000] K hp0 u ∧ (∃ z : Int32, u qa900 53 = .int z ∧ ((1 : Int) ≤ z.toInt ∧ z.toInt ≤ 40))) G (fun u => va_pl Ls (cellOf cy K ln u)) A) ([.ref qa900] : List Value).toArray s 0 0 A := ⟨_, rfl⟩
  rw [← hQ]
  refine lv_aload_n hx hb dX12_keeps_0 rfl (lv_at hl 0 rfl) ?_
  obtain ⟨zi2, eq1, bd3⟩ := rd_13053 ok0 kd900
  refine p_get (ci := 12) (v := .int zi2) (C := RX12) (T := TX12) (N := 69) hx hb hT iw_X12 hown hK hw hW kd900 (by decide) rfl rfl 53 (by decide) eq1 (hT _ tb_1427) (fun _ h9 => h9) dX12_keeps_1 ?_
  refine lv_bipush (v := 40) hx hb dX12_keeps_4 (by decide) ?_
  have jn289 : ∀ (hp283 : Nat → Nat → Value) (zi287 : Int32) (H : Heap) (locs : List Loc) (ls : Array Slot), Ok K hp283 → Fr [13053, 94000] K hp0 hp283 → ((0 : Int) ≤ zi287.toInt ∧ zi287.toInt ≤ 39) → hp283 qa900 53 = .int zi287 → lv_has ls 2 [(0, .ref qa900)] → PW G cy K ln Ls A hp283 H → va_S A s.heap H locs → W p l e ({ frames := 0, cells := 0, slots := 0, locals := 0 } : Room) s m ([.ref qa900] : List Value).toArray below meth c H locs 0 0 Q (F0 m 49 ls []) := by
    intro hp283 zi287 H locs ls ok285 F284 bd288 eq286 hl hw hS
    refine lv_iconst (v := 0) hx hb dX12_keeps_49 (by decide) ?_
    refine lv_istore_n (lv' := [(1, .int 0), (0, .ref qa900)]) hx hb dX12_keeps_50 rfl hl (by decide) rfl (fun ls hl => ?_)
    have lp514 : ∀ (n512 : Nat) (hp456 : Nat → Nat → Value) (zi455 : Int32) (H : Heap) (locs : List Loc) (ls : Array Slot), 40 - zi455.toInt < (n512 : Int) → Ok K hp456 → Fr [94000] K hp283 hp456 → ((0 : Int) ≤ zi455.toInt ∧ zi455.toInt ≤ 40) → lv_has ls 2 [(0, .ref qa900), (1, .int zi455)] → PW G cy K ln Ls A hp456 H → va_S A s.heap H locs → W p l e ({ frames := 0, cells := 0, slots := 0, locals := 0 } : Room) s m ([.ref qa900] : List Value).toArray below meth c H locs 0 0 Q (F0 m 51 ls []) := by
      intro n512
      induction n512 with
      | zero =>
        intro hp456 zi455 H locs ls hm515 ok458 F457 bd459 hl hw hS
        exact absurd hm515 (by have := bd459; omega)
      | succ n512 ih513 =>
        intro hp456 zi455 H locs ls hm515 ok458 F457 bd459 hl hw hS
        refine lv_iload_n hx hb dX12_keeps_51 rfl (lv_at hl 1 rfl) ?_
        refine lv_bipush (v := 40) hx hb dX12_keeps_52 (by decide) ?_
        refine lv_icmp_ge (tgt := 83) hx hb dX12_keeps_54 (by decide) (fun cn516 => ?_) (fun cn516 => ?_)
        · skip
          have bd542 : (40 : Int) ≤ zi455.toInt ∧ zi455.toInt ≤ 40 := r_le_y cn516 bc_40 bd459 (by decide) (by decide)
          refine lv_aload_n hx hb dX12_keeps_83 rfl (lv_at hl 0 rfl) ?_
          refine lv_dup hx hb dX12_keeps_84 rfl ?_
          have eq543 : hp456 qa900 53 = .int zi287 := Eq.trans (Fr.at (cq := 13053) F457 kd900 (cd_o (by decide)) (by decide)) eq286
          refine p_get (ci := 12) (v := .int zi287) (C := RX12) (T := TX12) (N := 69) hx hb hT iw_X12 hown hK hw hW kd900 (by decide) rfl rfl 53 (by decide) eq543 (hT _ tb_1427) (fun _ h9 => h9) dX12_keeps_85 ?_
          refine lv_iconst (v := 1) hx hb dX12_keeps_88 (by decide) ?_
          refine lv_iadd hx hb dX12_keeps_89 (lv_topi (fun zi544 ea545 => ?_))
          have bd546 : (1 : Int) ≤ zi544.toInt ∧ zi544.toInt ≤ 40 := b_iadd ea545 bd288 bc_1 (by decide) (by decide) (by decide) (by decide)
          have qe547 : zi544.toInt = (zi287 : Int32).toInt + (1 : Int32).toInt := e_iadd ea545 bd288 bc_1 (by decide) (by decide)
          have qe548 : zi544.toInt = zi287.toInt + 1 := by have ha : (1 : Int32).toInt = 1 := (by decide); rw [ha] at qe547; exact qe547
          refine p_put (ci := 12) (v := .int zi544) (ty := .int) (C := RX12) (T := TX12) (N := 69) hx hb hT iw_X12 tyX12 tyX12_ok nmX12 hown hK hw hS hW kd900 (by decide) rfl rfl 53 (by decide) (hT _ tb_1427) (fun _ h9 => h9) rfl (by decide +kernel) rfl rfl dX12_keeps_90 (fun hp549 eh550 H locs hw hS => ?_)
          have ok551 := wr_13053 bd546 (by decide) (by decide) ok458 kd900 eh550
          refine lv_iconst (v := 0) hx hb dX12_keeps_93 (by decide) ?_
          refine lv_istore_n (lv' := [(1, .int 0), (0, .ref qa900)]) hx hb dX12_keeps_94 rfl hl (by decide) rfl (fun ls hl => ?_)
          have lp719 : ∀ (n717 : Nat) (hp675 : Nat → Nat → Value) (zi674 : Int32) (H : Heap) (locs : List Loc) (ls : Array Slot), 40 - zi674.toInt < (n717 : Int) → Ok K hp675 → Fr [92000] K hp549 hp675 → ((0 : Int) ≤ zi674.toInt ∧ zi674.toInt ≤ 40) → lv_has ls 2 [(0, .ref qa900), (1, .int zi674)] → PW G cy K ln Ls A hp675 H → va_S A s.heap H locs → W p l e ({ frames := 0, cells := 0, slots := 0, locals := 0 } : Room) s m ([.ref qa900] : List Value).toArray below meth c H locs 0 0 Q (F0 m 95 ls []) := by
            intro n717
            induction n717 with
            | zero =>
              intro hp675 zi674 H locs ls hm720 ok677 F676 bd678 hl hw hS
              exact absurd hm720 (by have := bd678; omega)
            | succ n717 ih718 =>
              intro hp675 zi674 H locs ls hm720 ok677 F676 bd678 hl hw hS
              refine lv_iload_n hx hb dX12_keeps_95 rfl (lv_at hl 1 rfl) ?_
              refine lv_bipush (v := 40) hx hb dX12_keeps_96 (by decide) ?_
              refine lv_icmp_ge (tgt := 119) hx hb dX12_keeps_98 (by decide) (fun cn721 => ?_) (fun cn721 => ?_)
              · skip
                have bd722 : (40 : Int) ≤ zi674.toInt ∧ zi674.toInt ≤ 40 := r_le_y cn721 bc_40 bd678 (by decide) (by decide)
                have eq723 : hp675 qa900 53 = .int zi544 := Eq.trans (Fr.at (cq := 13053) F676 kd900 (cd_o (by decide)) (by decide)) (hp_self eh550)
                rw [hQ]
                exact kz_v hx hb hr hlocks hS hp675 hw ⟨ok677, (Fr.tr (Fr.put (cq := 13053) (Fr.tr (Fr.tr (Fr.rf) F284 (by decide)) F457 (by decide)) eh550 kd900 (cd_o (by decide)) (by decide)) F676 (by decide)), ⟨_, eq723, b_wid2 bd546 (by decide) (by decide)⟩⟩ (Nat.le_of_ble_eq_true rfl) (Nat.le_of_ble_eq_true rfl) dX12_keeps_119
              · skip
                have bd724 : (0 : Int) ≤ zi674.toInt ∧ zi674.toInt ≤ 39 := r_lt_x (Int32.not_le.mp cn721) bd678 bc_40 (by decide) (by decide)
                refine lv_aload_n hx hb dX12_keeps_101 rfl (lv_at hl 0 rfl) ?_
                obtain ⟨qa726, eq725, kd727⟩ := rd_13049 ok677 kd900
                refine p_get (ci := 12) (v := .ref qa726) (C := RX12) (T := TX12) (N := 69) hx hb hT iw_X12 hown hK hw hW kd900 (by decide) rfl rfl 49 (by decide) eq725 (hT _ tb_1423) (fun _ h9 => h9) dX12_keeps_102 ?_
                refine lv_iload_n hx hb dX12_keeps_105 rfl (lv_at hl 1 rfl) ?_
                refine lv_aload_n hx hb dX12_keeps_106 rfl (lv_at hl 0 rfl) ?_
                obtain ⟨qa729, eq728, kd730⟩ := rd_13050 ok677 kd900
                refine p_get (ci := 12) (v := .ref qa729) (C := RX12) (T := TX12) (N := 69) hx hb hT iw_X12 hown hK hw hW kd900 (by decide) rfl rfl 50 (by decide) eq728 (hT _ tb_1424) (fun _ h9 => h9) dX12_keeps_107 ?_
                refine lv_iload_n hx hb dX12_keeps_110 rfl (lv_at hl 1 rfl) ?_
                obtain ⟨zi732, eq731⟩ := rd_93000 ok677 kd730 ((zi674 : Int32).toNatClampNeg)
                refine p_iald (v := zi732) hx hb hK hw hW kd730 (by decide) rfl (hW.len kd730 (n := 40) rfl (by decide)) (vp_b bd724 (by decide) (by decide)) eq731 dX12_keeps_111 ?_
                refine p_iast (x := zi732) hx hb hK hw hS hW kd727 (by decide) rfl (hW.len kd727 (n := 40) rfl (by decide)) (vp_b bd724 (by decide) (by decide)) dX12_keeps_112 (fun hp733 eh734 H locs hw hS => ?_)
                have ok735 := wr_92000 ok677 kd727 eh734
                obtain ⟨zi736, ea737⟩ : ∃ z : Int32, z = zi674 + 1 := ⟨_, rfl⟩
                have bd738 : (1 : Int) ≤ zi736.toInt ∧ zi736.toInt ≤ 40 := b_iadd ea737 bd724 bc_1 (by decide) (by decide) (by decide) (by decide)
                have qe739 : zi736.toInt = (zi674 : Int32).toInt + (1 : Int32).toInt := e_iadd ea737 bd724 bc_1 (by decide) (by decide)
                have qe740 : zi736.toInt = zi674.toInt + 1 := by have ha : (1 : Int32).toInt = 1 := (by decide); rw [ha] at qe739; exact qe739
                refine lv_iinc (v := zi736) (lv' := [(1, .int zi736), (0, .ref qa900)]) hx hb dX12_keeps_113 hl (k := 1) rfl ea737.symm (by decide) rfl (fun ls hl => ?_)
                refine lv_goto (tgt := 95) hx hb dX12_keeps_116 (by decide) ?_
                exact ih718 hp733 zi736 _ _ ls (by have := hm720; have := qe740; omega) ok735 (Fr.put (cq := 92000) (Fr.tr (Fr.rf) F676 (by decide)) eh734 kd727 (cd_a (by decide)) (by decide)) (b_wid2 bd738 (by decide) (by decide)) (lv_sub hl [1, 0] rfl) hw hS
          exact lp719 _ hp549 0 _ _ ls (lp_in _) ok551 (Fr.rf) (b_wid2 bc_0 (by decide) (by decide)) (lv_sub hl [1, 0] rfl) hw hS
        · skip
          have bd741 : (0 : Int) ≤ zi455.toInt ∧ zi455.toInt ≤ 39 := r_lt_x (Int32.not_le.mp cn516) bd459 bc_40 (by decide) (by decide)
          refine lv_aload_n hx hb dX12_keeps_57 rfl (lv_at hl 0 rfl) ?_
          obtain ⟨qa743, eq742, kd744⟩ := rd_13054 ok458 kd900
          refine p_get (ci := 12) (v := .ref qa743) (C := RX12) (T := TX12) (N := 69) hx hb hT iw_X12 hown hK hw hW kd900 (by decide) rfl rfl 54 (by decide) eq742 (hT _ tb_1428) (fun _ h9 => h9) dX12_keeps_58 ?_
          refine lv_bipush (v := 40) hx hb dX12_keeps_61 (by decide) ?_
          refine lv_aload_n hx hb dX12_keeps_63 rfl (lv_at hl 0 rfl) ?_
          have eq745 : hp456 qa900 53 = .int zi287 := Eq.trans (Fr.at (cq := 13053) F457 kd900 (cd_o (by decide)) (by decide)) eq286
          refine p_get (ci := 12) (v := .int zi287) (C := RX12) (T := TX12) (N := 69) hx hb hT iw_X12 hown hK hw hW kd900 (by decide) rfl rfl 53 (by decide) eq745 (hT _ tb_1427) (fun _ h9 => h9) dX12_keeps_64 ?_
          refine lv_imul hx hb dX12_keeps_67 (lv_topi (fun zi746 ea747 => ?_))
          have bd748 : (0 : Int) ≤ zi746.toInt ∧ zi746.toInt ≤ 1560 := b_imul ea747 bc_40 bd288 (by decide) (by decide) (by decide) (by decide) (by decide)
          refine lv_iload_n hx hb dX12_keeps_68 rfl (lv_at hl 1 rfl) ?_
          refine lv_iadd hx hb dX12_keeps_69 (lv_topi (fun zi749 ea750 => ?_))
          have bd751 : (0 : Int) ≤ zi749.toInt ∧ zi749.toInt ≤ 1599 := b_iadd ea750 bd748 bd741 (by decide) (by decide) (by decide) (by decide)
          refine lv_aload_n hx hb dX12_keeps_70 rfl (lv_at hl 0 rfl) ?_
          obtain ⟨qa753, eq752, kd754⟩ := rd_13049 ok458 kd900
          refine p_get (ci := 12) (v := .ref qa753) (C := RX12) (T := TX12) (N := 69) hx hb hT iw_X12 hown hK hw hW kd900 (by decide) rfl rfl 49 (by decide) eq752 (hT _ tb_1423) (fun _ h9 => h9) dX12_keeps_71 ?_
          refine lv_iload_n hx hb dX12_keeps_74 rfl (lv_at hl 1 rfl) ?_
          obtain ⟨zi756, eq755⟩ := rd_92000 ok458 kd754 ((zi455 : Int32).toNatClampNeg)
          refine p_iald (v := zi756) hx hb hK hw hW kd754 (by decide) rfl (hW.len kd754 (n := 40) rfl (by decide)) (vp_b bd741 (by decide) (by decide)) eq755 dX12_keeps_75 ?_
          refine p_iast (x := zi756) hx hb hK hw hS hW kd744 (by decide) rfl (hW.len kd744 (n := 1600) rfl (by decide)) (vp_b bd751 (by decide) (by decide)) dX12_keeps_76 (fun hp757 eh758 H locs hw hS => ?_)
          have ok759 := wr_94000 ok458 kd744 eh758
          obtain ⟨zi760, ea761⟩ : ∃ z : Int32, z = zi455 + 1 := ⟨_, rfl⟩
          have bd762 : (1 : Int) ≤ zi760.toInt ∧ zi760.toInt ≤ 40 := b_iadd ea761 bd741 bc_1 (by decide) (by decide) (by decide) (by decide)
          have qe763 : zi760.toInt = (zi455 : Int32).toInt + (1 : Int32).toInt := e_iadd ea761 bd741 bc_1 (by decide) (by decide)
          have qe764 : zi760.toInt = zi455.toInt + 1 := by have ha : (1 : Int32).toInt = 1 := (by decide); rw [ha] at qe763; exact qe763
          refine lv_iinc (v := zi760) (lv' := [(1, .int zi760), (0, .ref qa900)]) hx hb dX12_keeps_77 hl (k := 1) rfl ea761.symm (by decide) rfl (fun ls hl => ?_)
          refine lv_goto (tgt := 51) hx hb dX12_keeps_80 (by decide) ?_
          exact ih513 hp757 zi760 _ _ ls (by have := hm515; have := qe764; omega) ok759 (Fr.put (cq := 94000) (Fr.tr (Fr.rf) F457 (by decide)) eh758 kd744 (cd_a (by decide)) (by decide)) (b_wid2 bd762 (by decide) (by decide)) (lv_sub hl [1, 0] rfl) hw hS
    exact lp514 _ hp283 0 _ _ ls (lp_in _) ok285 (Fr.rf) (b_wid2 bc_0 (by decide) (by decide)) (lv_sub hl [1, 0] rfl) hw hS
  refine lv_icmp_ne (tgt := 49) hx hb dX12_keeps_6 (by decide) (fun cn4 => ?_) (fun cn4 => ?_)
  · skip
    have bd765 : (0 : Int) ≤ zi2.toInt ∧ zi2.toInt ≤ 39 := r_ne_hi cn4 bd3 (toi bc_40) (by decide) (by decide)
    exact jn289 hp0 zi2 _ _ ls ok0 (Fr.rf) (b_wid2 bd765 (by decide) (by decide)) eq1 (lv_sub hl [0] rfl) hw hS
  · skip
    have bd766 : (40 : Int) ≤ zi2.toInt ∧ zi2.toInt ≤ 40 := r_eq_x cn4 bd3 bc_40 (by decide) (by decide)
    refine lv_iconst (v := 0) hx hb dX12_keeps_9 (by decide) ?_
    refine lv_istore_n (lv' := [(1, .int 0), (0, .ref qa900)]) hx hb dX12_keeps_10 rfl hl (by decide) rfl (fun ls hl => ?_)
    have lp991 : ∀ (n989 : Nat) (hp943 : Nat → Nat → Value) (zi942 : Int32) (H : Heap) (locs : List Loc) (ls : Array Slot), 1560 - zi942.toInt < (n989 : Int) → Ok K hp943 → Fr [94000] K hp0 hp943 → ((0 : Int) ≤ zi942.toInt ∧ zi942.toInt ≤ 1560) → lv_has ls 2 [(0, .ref qa900), (1, .int zi942)] → PW G cy K ln Ls A hp943 H → va_S A s.heap H locs → W p l e ({ frames := 0, cells := 0, slots := 0, locals := 0 } : Room) s m ([.ref qa900] : List Value).toArray below meth c H locs 0 0 Q (F0 m 11 ls []) := by
      intro n989
      induction n989 with
      | zero =>
        intro hp943 zi942 H locs ls hm992 ok945 F944 bd946 hl hw hS
        exact absurd hm992 (by have := bd946; omega)
      | succ n989 ih990 =>
        intro hp943 zi942 H locs ls hm992 ok945 F944 bd946 hl hw hS
        refine lv_iload_n hx hb dX12_keeps_11 rfl (lv_at hl 1 rfl) ?_
        refine lv_sipush (v := 1560) hx hb dX12_keeps_12 (by decide) ?_
        refine lv_icmp_ge (tgt := 39) hx hb dX12_keeps_15 (by decide) (fun cn993 => ?_) (fun cn993 => ?_)
        · skip
          have bd1014 : (1560 : Int) ≤ zi942.toInt ∧ zi942.toInt ≤ 1560 := r_le_y cn993 bc_1560 bd946 (by decide) (by decide)
          refine lv_aload_n hx hb dX12_keeps_39 rfl (lv_at hl 0 rfl) ?_
          refine lv_dup hx hb dX12_keeps_40 rfl ?_
          have eq1015 : hp943 qa900 53 = .int zi2 := Eq.trans (Fr.at (cq := 13053) F944 kd900 (cd_o (by decide)) (by decide)) eq1
          refine p_get (ci := 12) (v := .int zi2) (C := RX12) (T := TX12) (N := 69) hx hb hT iw_X12 hown hK hw hW kd900 (by decide) rfl rfl 53 (by decide) eq1015 (hT _ tb_1427) (fun _ h9 => h9) dX12_keeps_41 ?_
          refine lv_iconst (v := 1) hx hb dX12_keeps_44 (by decide) ?_
          refine lv_isub hx hb dX12_keeps_45 (lv_topi (fun zi1016 ea1017 => ?_))
          have bd1018 : (39 : Int) ≤ zi1016.toInt ∧ zi1016.toInt ≤ 39 := b_isub ea1017 bd766 bc_1 (by decide) (by decide) (by decide) (by decide)
          have qe1019 : zi1016.toInt = (zi2 : Int32).toInt - (1 : Int32).toInt := e_isub ea1017 bd766 bc_1 (by decide) (by decide)
          have qe1020 : zi1016.toInt = zi2.toInt - 1 := by have ha : (1 : Int32).toInt = 1 := (by decide); rw [ha] at qe1019; exact qe1019
          refine p_put (ci := 12) (v := .int zi1016) (ty := .int) (C := RX12) (T := TX12) (N := 69) hx hb hT iw_X12 tyX12 tyX12_ok nmX12 hown hK hw hS hW kd900 (by decide) rfl rfl 53 (by decide) (hT _ tb_1427) (fun _ h9 => h9) rfl (by decide +kernel) rfl rfl dX12_keeps_46 (fun hp1021 eh1022 H locs hw hS => ?_)
          have ok1023 := wr_13053 bd1018 (by decide) (by decide) ok945 kd900 eh1022
          exact jn289 hp1021 zi1016 _ _ ls ok1023 (Fr.put (cq := 13053) (Fr.tr (Fr.rf) F944 (by decide)) eh1022 kd900 (cd_o (by decide)) (by decide)) (b_wid2 bd1018 (by decide) (by decide)) (hp_self eh1022) (lv_sub hl [0] rfl) hw hS
        · skip
          have bd1024 : (0 : Int) ≤ zi942.toInt ∧ zi942.toInt ≤ 1559 := r_lt_x (Int32.not_le.mp cn993) bd946 bc_1560 (by decide) (by decide)
          refine lv_aload_n hx hb dX12_keeps_18 rfl (lv_at hl 0 rfl) ?_
          obtain ⟨qa1026, eq1025, kd1027⟩ := rd_13054 ok945 kd900
          refine p_get (ci := 12) (v := .ref qa1026) (C := RX12) (T := TX12) (N := 69) hx hb hT iw_X12 hown hK hw hW kd900 (by decide) rfl rfl 54 (by decide) eq1025 (hT _ tb_1428) (fun _ h9 => h9) dX12_keeps_19 ?_
          refine lv_iload_n hx hb dX12_keeps_22 rfl (lv_at hl 1 rfl) ?_
          refine lv_aload_n hx hb dX12_keeps_23 rfl (lv_at hl 0 rfl) ?_
          refine p_get (ci := 12) (v := .ref qa1026) (C := RX12) (T := TX12) (N := 69) hx hb hT iw_X12 hown hK hw hW kd900 (by decide) rfl rfl 54 (by decide) eq1025 (hT _ tb_1428) (fun _ h9 => h9) dX12_keeps_24 ?_
          refine lv_iload_n hx hb dX12_keeps_27 rfl (lv_at hl 1 rfl) ?_
          refine lv_bipush (v := 40) hx hb dX12_keeps_28 (by decide) ?_
          refine lv_iadd hx hb dX12_keeps_30 (lv_topi (fun zi1028 ea1029 => ?_))
          have bd1030 : (40 : Int) ≤ zi1028.toInt ∧ zi1028.toInt ≤ 1599 := b_iadd ea1029 bd1024 bc_40 (by decide) (by decide) (by decide) (by decide)
          have qe1031 : zi1028.toInt = (zi942 : Int32).toInt + (40 : Int32).toInt := e_iadd ea1029 bd1024 bc_40 (by decide) (by decide)
          have qe1032 : zi1028.toInt = zi942.toInt + 40 := by have ha : (40 : Int32).toInt = 40 := (by decide); rw [ha] at qe1031; exact qe1031
          obtain ⟨zi1034, eq1033⟩ := rd_94000 ok945 kd1027 ((zi1028 : Int32).toNatClampNeg)
          refine p_iald (v := zi1034) hx hb hK hw hW kd1027 (by decide) rfl (hW.len kd1027 (n := 1600) rfl (by decide)) (vp_b bd1030 (by decide) (by decide)) eq1033 dX12_keeps_31 ?_
          refine p_iast (x := zi1034) hx hb hK hw hS hW kd1027 (by decide) rfl (hW.len kd1027 (n := 1600) rfl (by decide)) (vp_b bd1024 (by decide) (by decide)) dX12_keeps_32 (fun hp1035 eh1036 H locs hw hS => ?_)
          have ok1037 := wr_94000 ok945 kd1027 eh1036
          obtain ⟨zi1038, ea1039⟩ : ∃ z : Int32, z = zi942 + 1 := ⟨_, rfl⟩
          have bd1040 : (1 : Int) ≤ zi1038.toInt ∧ zi1038.toInt ≤ 1560 := b_iadd ea1039 bd1024 bc_1 (by decide) (by decide) (by decide) (by decide)
          have qe1041 : zi1038.toInt = (zi942 : Int32).toInt + (1 : Int32).toInt := e_iadd ea1039 bd1024 bc_1 (by decide) (by decide)
          have qe1042 : zi1038.toInt = zi942.toInt + 1 := by have ha : (1 : Int32).toInt = 1 := (by decide); rw [ha] at qe1041; exact qe1041
          refine lv_iinc (v := zi1038) (lv' := [(1, .int zi1038), (0, .ref qa900)]) hx hb dX12_keeps_33 hl (k := 1) rfl ea1039.symm (by decide) rfl (fun ls hl => ?_)
          refine lv_goto (tgt := 11) hx hb dX12_keeps_36 (by decide) ?_
          exact ih990 hp1035 zi1038 _ _ ls (by have := hm992; have := qe1042; omega) ok1037 (Fr.put (cq := 94000) (Fr.tr (Fr.rf) F944 (by decide)) eh1036 kd1027 (cd_a (by decide)) (by decide)) (b_wid2 bd1040 (by decide) (by decide)) (lv_sub hl [1, 0] rfl) hw hS
    exact lp991 _ hp0 0 _ _ ls (lp_in _) ok0 (Fr.rf) (b_wid2 bc_0 (by decide) (by decide)) (lv_sub hl [1, 0] rfl) hw hS

set_option maxRecDepth 100000 in
set_option maxHeartbeats 4000000 in
theorem cX12_say_0 (l : Launch) (G : va_G) (cy : Nat → ClassId) (ev : Ew) (K ln : Nat → Nat) (Ls : List Nat) (hW : SW K ln Ls) (sz : Nat) (hp0 : Nat → Nat → Value) (ok0 : Ok K hp0) (qa900 : Nat) (zi901 : Int32) (kd900 : K qa900 = 13) (pdLW : LW hp0 qa900) : Met l yX12_say (WS yX12_say cX12_say 3 (some .int)) { frames := 4, cells := 0, slots := 0, locals := 103 } (PB2 [.ref qa900, .int zi901] sz G cy ev (va_pl Ls (cellOf cy K ln hp0))) (QBi (S := (Nat → Nat → Value)) (fun (r : Int32) (u : (Nat → Nat → Value)) => Ok K u ∧ Fr [13048, 13051, 13053, 90000, 91000, 92000, 93000, 94000] K hp0 u ∧ ((-1 : Int) ≤ r.toInt ∧ r.toInt ≤ 2)) G (fun u => va_pl Ls (cellOf cy K ln u)) (va_A (va_pl Ls (cellOf cy K ln hp0)) sz)) 0 0 (va_A (va_pl Ls (cellOf cy K ln hp0)) sz) := by
  refine met_of2 (y := yX12_say) (L := 3) (av := [.ref qa900, .int zi901]) (Qc := fun A => QBi (S := (Nat → Nat → Value)) (fun (r : Int32) (u : (Nat → Nat → Value)) => Ok K u ∧ Fr [13048, 13051, 13053, 90000, 91000, 92000, 93000, 94000] K hp0 u ∧ ((-1 : Int) ≤ r.toInt ∧ r.toInt ≤ 2)) G (fun u => va_pl Ls (cellOf cy K ln u)) A) (plainFor_of_name (by decide)) (Nat.le_of_ble_eq_true rfl) ?_
  intro p e s m below meth c hsz hx hb hr hml hown hT hlocks hin hK A hA hE hw hS ls hl
  have hw : PW G cy K ln Ls A hp0 s.heap := hw
  have hown : s.vm.findClass "LieClockModel" = some m.cls := hown
  have hl : lv_has ls 3 [(0, .ref qa900), (1, .int zi901)] := hl
  obtain ⟨Q, hQ⟩ : ∃ Q : State → Prop, Q = MQ below (QBi (S := (Nat → Nat → Value)) (fun (r : Int32) (u : (Nat → Nat → Value)) => Ok K u ∧ Fr [13048, 13051, 13053, 90000, 91000, 92000, 93000, 94000] K hp0 u ∧ ((-1 : Int) ≤ r.toInt ∧ r.toInt ≤ 2)) G (fun u => va_pl Ls (cellOf cy K ln u)) A) ([.ref qa900, .int zi901] : List Value).toArray s 0 0 A := ⟨_, rfl⟩
  rw [← hQ]
  refine lv_aload_n hx hb dX12_say_0 rfl (lv_at hl 0 rfl) ?_
  refine lv_iload_n hx hb dX12_say_1 rfl (lv_at hl 1 rfl) ?_
  refine kq_i hw hS hA (va_runV (As := [.int zi901]) (rest := []) ⟨hx, hb, hml, hown, hT⟩ (cX12_isWord_0 l G cy ev K ln Ls hW _ hp0 ok0 qa900 zi901 kd900) (cwV 1 hT (good_V tb_1742 tb_1739 tb_1741 tb_76 tb_122) rfl rfl rfl (by decide +kernel) ⟨Nat.le_of_ble_eq_true rfl, Nat.le_of_ble_eq_true rfl⟩) (pool_preV (ci := 12) hK hE hS hA hw hW kd900 (by decide) rfl) rfl rfl hl.1 rfl (lv_room (Nat.le_of_ble_eq_true rfl)) dX12_say_2 ⟨Nat.le_of_ble_eq_true rfl, Nat.le_of_ble_eq_true rfl⟩) (fun zi5 hp1 H locs hq4 hw hS => ?_)
  obtain ⟨ok2, F3, bd6, hc7⟩ := hq4
  obtain rfl : hp0 = hp1 := (Fr.nil F3).symm
  have hw : PW G cy K ln Ls A hp0 H := hw
  rcases b01 bd6 with cn8 | cn8
  · skip
    subst cn8
    refine lv_if_ne (tgt := 10) hx hb dX12_say_5 (by decide) (fun c => absurd (d_eq bc_0 bc_0) c) (fun _ => ?_)
    refine lv_iconst (v := (-1)) hx hb dX12_say_8 (by decide) ?_
    rw [hQ]
    exact kz_i hx hb hr hlocks hS rfl hp0 hw ⟨ok0, (Fr.rf), (b_wid2 bc_m1 (by decide) (by decide))⟩ (Nat.le_of_ble_eq_true rfl) (Nat.le_of_ble_eq_true rfl) dX12_say_9
  · skip
    subst cn8
    have bd9 : (0 : Int) ≤ zi901.toInt ∧ zi901.toInt ≤ 15 := b_meet (b_all zi901) (hc7 rfl) (by decide) (by decide)
    refine lv_if_ne (tgt := 10) hx hb dX12_say_5 (by decide) (fun _ => ?_) (fun c => absurd c (d_ne bc_1 bc_0 (by decide)))
    refine lv_aload_n hx hb dX12_say_10 rfl (lv_at hl 0 rfl) ?_
    refine kq_v hw hS hA (va_runV (As := []) (rest := []) ⟨hx, hb, hml, hown, hT⟩ (cX12_copies_0 l G cy ev K ln Ls hW _ hp0 ok0 qa900 kd900) (cwV 0 hT (good_V tb_1769 tb_1766 tb_1768 tb_81 tb_122) rfl rfl rfl (by decide +kernel) ⟨Nat.le_of_ble_eq_true rfl, Nat.le_of_ble_eq_true rfl⟩) (pool_preV (ci := 12) hK hE hS hA hw hW kd900 (by decide) rfl) rfl rfl hl.1 rfl (lv_room (Nat.le_of_ble_eq_true rfl)) dX12_say_11 ⟨Nat.le_of_ble_eq_true rfl, Nat.le_of_ble_eq_true rfl⟩) (fun hp10 H locs hq13 hw hS => ?_)
    obtain ⟨ok11, F12⟩ := hq13
    have hw : PW G cy K ln Ls A hp10 H := hw
    refine lv_aload_n hx hb dX12_say_14 rfl (lv_at hl 0 rfl) ?_
    refine lv_iload_n hx hb dX12_say_15 rfl (lv_at hl 1 rfl) ?_
    have pd15 : LW hp10 qa900 := LW_fr ok0 kd900 (show Fr [93000] K hp0 hp10 from (Fr.tr (Fr.rf) F12 (by decide))) (by decide) pdLW
    refine kq_i hw hS hA (va_runV (As := [.int zi901]) (rest := []) ⟨hx, hb, hml, hown, hT⟩ (cX12_sayNow_0 l G cy ev K ln Ls hW _ hp10 ok11 qa900 zi901 kd900 (b_wid2 bd9 (by decide) (by decide)) pd15) (cwV 1 hT (good_V tb_1809 tb_1806 tb_1808 tb_87 tb_122) rfl rfl rfl (by decide +kernel) ⟨Nat.le_of_ble_eq_true rfl, Nat.le_of_ble_eq_true rfl⟩) (pool_preV (ci := 12) hK hE hS hA hw hW kd900 (by decide) rfl) rfl rfl hl.1 rfl (lv_room (Nat.le_of_ble_eq_true rfl)) dX12_say_16 ⟨Nat.le_of_ble_eq_true rfl, Nat.le_of_ble_eq_true rfl⟩) (fun zi20 hp16 H locs hq19 hw hS => ?_)
    obtain ⟨ok17, F18, bd21⟩ := hq19
    have hw : PW G cy K ln Ls A hp16 H := hw
    refine lv_istore_n (lv' := [(2, .int zi20), (0, .ref qa900), (1, .int zi901)]) hx hb dX12_say_19 rfl hl (by decide) rfl (fun ls hl => ?_)
    refine lv_aload_n hx hb dX12_say_20 rfl (lv_at hl 1 rfl) ?_
    refine kq_v hw hS hA (va_runV (As := []) (rest := []) ⟨hx, hb, hml, hown, hT⟩ (cX12_keeps_0 l G cy ev K ln Ls hW _ hp16 ok17 qa900 kd900) (cwV 0 hT (good_V tb_1835 tb_1832 tb_1834 tb_93 tb_122) rfl rfl rfl (by decide +kernel) ⟨Nat.le_of_ble_eq_true rfl, Nat.le_of_ble_eq_true rfl⟩) (pool_preV (ci := 12) hK hE hS hA hw hW kd900 (by decide) rfl) rfl rfl hl.1 rfl (lv_room (Nat.le_of_ble_eq_true rfl)) dX12_say_21 ⟨Nat.le_of_ble_eq_true rfl, Nat.le_of_ble_eq_true rfl⟩) (fun hp22 H locs hq25 hw hS => ?_)
    obtain ⟨ok23, F24, ⟨zi27, eq28, bd29⟩⟩ := hq25
    have hw : PW G cy K ln Ls A hp22 H := hw
    refine lv_iload_n hx hb dX12_say_24 rfl (lv_at hl 0 rfl) ?_
    rw [hQ]
    exact kz_i hx hb hr hlocks hS rfl hp22 hw ⟨ok23, (Fr.tr (Fr.tr (Fr.tr (Fr.rf) F12 (by decide)) F18 (by decide)) F24 (by decide)), (b_wid2 bd21 (by decide) (by decide))⟩ (Nat.le_of_ble_eq_true rfl) (Nat.le_of_ble_eq_true rfl) dX12_say_25

set_option maxRecDepth 100000 in
set_option maxHeartbeats 4000000 in
theorem cX12_look_0 (l : Launch) (G : va_G) (cy : Nat → ClassId) (ev : Ew) (K ln : Nat → Nat) (Ls : List Nat) (hW : SW K ln Ls) (sz : Nat) (hp0 : Nat → Nat → Value) (ok0 : Ok K hp0) (qa900 : Nat) (zi901 : Int32) (kd900 : K qa900 = 13) (pdLW : LW hp0 qa900) : Met l yX12_look (WS yX12_look cX12_look 4 (some .int)) { frames := 3, cells := 0, slots := 0, locals := 78 } (PB2 [.ref qa900, .int zi901] sz G cy ev (va_pl Ls (cellOf cy K ln hp0))) (QBi (S := (Nat → Nat → Value)) (fun (r : Int32) (u : (Nat → Nat → Value)) => Ok K u ∧ Fr [13048, 13051, 13053, 90000, 91000, 92000, 93000, 94000] K hp0 u) G (fun u => va_pl Ls (cellOf cy K ln u)) (va_A (va_pl Ls (cellOf cy K ln hp0)) sz)) 0 0 (va_A (va_pl Ls (cellOf cy K ln hp0)) sz) := by
  refine met_of2 (y := yX12_look) (L := 4) (av := [.ref qa900, .int zi901]) (Qc := fun A => QBi (S := (Nat → Nat → Value)) (fun (r : Int32) (u : (Nat → Nat → Value)) => Ok K u ∧ Fr [13048, 13051, 13053, 90000, 91000, 92000, 93000, 94000] K hp0 u) G (fun u => va_pl Ls (cellOf cy K ln u)) A) (plainFor_of_name (by decide)) (Nat.le_of_ble_eq_true rfl) ?_
  intro p e s m below meth c hsz hx hb hr hml hown hT hlocks hin hK A hA hE hw hS ls hl
  have hw : PW G cy K ln Ls A hp0 s.heap := hw
  have hown : s.vm.findClass "LieClockModel" = some m.cls := hown
  have hl : lv_has ls 4 [(0, .ref qa900), (1, .int zi901)] := hl
  obtain ⟨Q, hQ⟩ : ∃ Q : State → Prop, Q = MQ below (QBi (S := (Nat → Nat → Value)) (fun (r : Int32) (u : (Nat → Nat → Value)) => Ok K u ∧ Fr [13048, 13051, 13053, 90000, 91000, 92000, 93000, 94000] K hp0 u) G (fun u => va_pl Ls (cellOf cy K ln u)) A) ([.ref qa900, .int zi901] : List Value).toArray s 0 0 A := ⟨_, rfl⟩
  rw [← hQ]
  refine lv_iload_n hx hb dX12_look_0 rfl (lv_at hl 1 rfl) ?_
  refine lv_iconst (v := 0) hx hb dX12_look_1 (by decide) ?_
  refine lv_aload_n hx hb dX12_look_2 rfl (lv_at hl 0 rfl) ?_
  obtain ⟨qa2, eq1, kd3⟩ := rd_13024 ok0 kd900
  refine p_get (ci := 12) (v := .ref qa2) (C := RX12) (T := TX12) (N := 69) hx hb hT iw_X12 hown hK hw hW kd900 (by decide) rfl rfl 24 (by decide) eq1 (hT _ tb_1398) (fun _ h9 => h9) dX12_look_3 ?_
  refine lv_aload_n hx hb dX12_look_6 rfl (lv_at hl 0 rfl) ?_
  obtain ⟨zi5, eq4, bd6⟩ := rd_13018 ok0 kd900
  refine p_get (ci := 12) (v := .int zi5) (C := RX12) (T := TX12) (N := 69) hx hb hT iw_X12 hown hK hw hW kd900 (by decide) rfl rfl 18 (by decide) eq4 (hT _ tb_1392) (fun _ h9 => h9) dX12_look_7 ?_
  obtain ⟨zi8, eq7, bd9⟩ := rd_70000 ok0 kd3 ((zi5 : Int32).toNatClampNeg)
  refine p_iald (v := zi8) hx hb hK hw hW kd3 (by decide) rfl (hW.len kd3 (n := 2) rfl (by decide)) (vp_b bd6 (by decide) (by decide)) eq7 dX12_look_10 ?_
  refine lv_iconst (v := 1) hx hb dX12_look_11 (by decide) ?_
  refine lv_isub hx hb dX12_look_12 (lv_topi (fun zi10 ea11 => ?_))
  have bd12 : (-1 : Int) ≤ zi10.toInt ∧ zi10.toInt ≤ 5 := b_isub ea11 bd9 bc_1 (by decide) (by decide) (by decide) (by decide)
  have qe13 : zi10.toInt = (zi8 : Int32).toInt - (1 : Int32).toInt := e_isub ea11 bd9 bc_1 (by decide) (by decide)
  have qe14 : zi10.toInt = zi8.toInt - 1 := by have ha : (1 : Int32).toInt = 1 := (by decide); rw [ha] at qe13; exact qe13
  refine kq_i hw hS hA (va_runS (As := [.int zi901, .int 0, .int zi10]) (rest := []) ⟨hx, hb, hml, hown, hT⟩ (cX12_in_2 l G cy ev K ln Ls hW _ hp0 ok0 zi901 0 zi10 (b_wid2 bc_0 (by decide) (by decide)) (b_wid2 bd12 (by decide) (by decide))) (va_cwS 3 hT (good_S tb_1734 tb_1732 tb_1733 tb_122) rfl rfl rfl (by decide +kernel) ⟨Nat.le_of_ble_eq_true rfl, Nat.le_of_ble_eq_true rfl⟩) (PB2.preS hK hE hS hA hw) rfl rfl hl.1 rfl (lv_room (Nat.le_of_ble_eq_true rfl)) dX12_look_13 ⟨Nat.le_of_ble_eq_true rfl, Nat.le_of_ble_eq_true rfl⟩) (fun zi19 hp15 H locs hq18 hw hS => ?_)
  obtain ⟨ok16, F17, bd20, hc21, hc22⟩ := hq18
  obtain rfl : hp0 = hp15 := (Fr.nil F17).symm
  have hw : PW G cy K ln Ls A hp0 H := hw
  rcases b01 bd20 with cn23 | cn23
  · skip
    subst cn23
    refine lv_if_ne (tgt := 21) hx hb dX12_look_16 (by decide) (fun c => absurd (d_eq bc_0 bc_0) c) (fun _ => ?_)
    refine lv_iconst (v := (-1)) hx hb dX12_look_19 (by decide) ?_
    rw [hQ]
    exact kz_i hx hb hr hlocks hS rfl hp0 hw ⟨ok0, (Fr.rf)⟩ (Nat.le_of_ble_eq_true rfl) (Nat.le_of_ble_eq_true rfl) dX12_look_20
  · skip
    subst cn23
    have bd24 : (0 : Int) ≤ zi901.toInt ∧ zi901.toInt ≤ 5 := b_meet (b_all zi901) (hc21 rfl) (by decide) (by decide)
    have bd25 : (0 : Int) ≤ zi10.toInt ∧ zi10.toInt ≤ 5 := b_meet bd12 (hc22 rfl) (by decide) (by decide)
    have bd26 : (1 : Int) ≤ zi8.toInt ∧ zi8.toInt ≤ 6 := (by have := qe14; have := bd25; have := bd9; have := bc_1; omega)
    refine lv_if_ne (tgt := 21) hx hb dX12_look_16 (by decide) (fun _ => ?_) (fun c => absurd c (d_ne bc_1 bc_0 (by decide)))
    refine lv_aload_n hx hb dX12_look_21 rfl (lv_at hl 0 rfl) ?_
    obtain ⟨qa28, eq27, kd29⟩ := rd_13049 ok0 kd900
    refine p_get (ci := 12) (v := .ref qa28) (C := RX12) (T := TX12) (N := 69) hx hb hT iw_X12 hown hK hw hW kd900 (by decide) rfl rfl 49 (by decide) eq27 (hT _ tb_1423) (fun _ h9 => h9) dX12_look_22 ?_
    refine lv_iconst (v := 3) hx hb dX12_look_25 (by decide) ?_
    obtain ⟨zi31, eq30⟩ := rd_92000 ok0 kd29 ((3 : Int32).toNatClampNeg)
    refine p_iald (v := zi31) hx hb hK hw hW kd29 (by decide) rfl (hW.len kd29 (n := 40) rfl (by decide)) (vp_b bc_3 (by decide) (by decide)) eq30 dX12_look_26 ?_
    refine lv_iload_n hx hb dX12_look_27 rfl (lv_at hl 1 rfl) ?_
    refine lv_ishr hx hb dX12_look_28 (lv_topi (fun zi32 ea33 => ?_))
    refine lv_iconst (v := 1) hx hb dX12_look_29 (by decide) ?_
    refine lv_iand hx hb dX12_look_30 (lv_topi (fun zi34 ea35 => ?_))
    have bd36 : (0 : Int) ≤ zi34.toInt ∧ zi34.toInt ≤ 1 := b_and_r ea35 bc_1 (by decide) (by decide) (by decide)
    refine lv_iconst (v := 1) hx hb dX12_look_31 (by decide) ?_
    refine lv_icmp_ne (tgt := 38) hx hb dX12_look_32 (by decide) (fun cn37 => ?_) (fun cn37 => ?_)
    · skip
      have bd38 : (0 : Int) ≤ zi34.toInt ∧ zi34.toInt ≤ 0 := r_ne_hi cn37 bd36 (toi bc_1) (by decide) (by decide)
      refine lv_aload_n hx hb dX12_look_38 rfl (lv_at hl 0 rfl) ?_
      refine kq_v hw hS hA (va_runV (As := []) (rest := []) ⟨hx, hb, hml, hown, hT⟩ (cX12_copies_0 l G cy ev K ln Ls hW _ hp0 ok0 qa900 kd900) (cwV 0 hT (good_V tb_1769 tb_1766 tb_1768 tb_81 tb_122) rfl rfl rfl (by decide +kernel) ⟨Nat.le_of_ble_eq_true rfl, Nat.le_of_ble_eq_true rfl⟩) (pool_preV (ci := 12) hK hE hS hA hw hW kd900 (by decide) rfl) rfl rfl hl.1 rfl (lv_room (Nat.le_of_ble_eq_true rfl)) dX12_look_39 ⟨Nat.le_of_ble_eq_true rfl, Nat.le_of_ble_eq_true rfl⟩) (fun hp39 H locs hq42 hw hS => ?_)
      obtain ⟨ok40, F41⟩ := hq42
      have hw : PW G cy K ln Ls A hp39 H := hw
      refine lv_aload_n hx hb dX12_look_42 rfl (lv_at hl 0 rfl) ?_
      refine lv_iconst (v := 1) hx hb dX12_look_43 (by decide) ?_
      refine kq_v hw hS hA (va_runV (As := [.int 1]) (rest := []) ⟨hx, hb, hml, hown, hT⟩ (cX12_forward_0 l G cy ev K ln Ls hW _ hp39 ok40 qa900 1 kd900) (cwV 1 hT (good_V tb_1813 tb_1810 tb_1812 tb_88 tb_122) rfl rfl rfl (by decide +kernel) ⟨Nat.le_of_ble_eq_true rfl, Nat.le_of_ble_eq_true rfl⟩) (pool_preV (ci := 12) hK hE hS hA hw hW kd900 (by decide) rfl) rfl rfl hl.1 rfl (lv_room (Nat.le_of_ble_eq_true rfl)) dX12_look_44 ⟨Nat.le_of_ble_eq_true rfl, Nat.le_of_ble_eq_true rfl⟩) (fun hp44 H locs hq47 hw hS => ?_)
      obtain ⟨ok45, F46⟩ := hq47
      have hw : PW G cy K ln Ls A hp44 H := hw
      refine lv_aload_n hx hb dX12_look_47 rfl (lv_at hl 0 rfl) ?_
      obtain ⟨qa50, eq49, kd51⟩ := rd_13050 ok45 kd900
      refine p_get (ci := 12) (v := .ref qa50) (C := RX12) (T := TX12) (N := 69) hx hb hT iw_X12 hown hK hw hW kd900 (by decide) rfl rfl 50 (by decide) eq49 (hT _ tb_1424) (fun _ h9 => h9) dX12_look_48 ?_
      refine lv_iconst (v := 3) hx hb dX12_look_51 (by decide) ?_
      refine lv_dup2_11 hx hb dX12_look_52 rfl rfl ?_
      obtain ⟨zi53, eq52⟩ := rd_93000 ok45 kd51 ((3 : Int32).toNatClampNeg)
      refine p_iald (v := zi53) hx hb hK hw hW kd51 (by decide) rfl (hW.len kd51 (n := 40) rfl (by decide)) (vp_b bc_3 (by decide) (by decide)) eq52 dX12_look_53 ?_
      refine lv_iconst (v := 1) hx hb dX12_look_54 (by decide) ?_
      refine lv_iload_n hx hb dX12_look_55 rfl (lv_at hl 1 rfl) ?_
      refine lv_ishl hx hb dX12_look_56 (lv_topi (fun zi54 ea55 => ?_))
      have bd56 : (1 : Int) ≤ zi54.toInt ∧ zi54.toInt ≤ 32 := b_shl1 5 ea55 bd24 (by decide) (by decide) (by decide) (by decide) (by decide)
      refine lv_ior hx hb dX12_look_57 (lv_topi (fun zi57 ea58 => ?_))
      refine p_iast (x := zi57) hx hb hK hw hS hW kd51 (by decide) rfl (hW.len kd51 (n := 40) rfl (by decide)) (vp_b bc_3 (by decide) (by decide)) dX12_look_58 (fun hp59 eh60 H locs hw hS => ?_)
      have ok61 := wr_93000 ok45 kd51 eh60
      refine lv_iconst (v := 0) hx hb dX12_look_59 (by decide) ?_
      refine lv_istore_n (lv' := [(2, .int 0), (0, .ref qa900), (1, .int zi901)]) hx hb dX12_look_60 rfl hl (by decide) rfl (fun ls hl => ?_)
      refine lv_iconst (v := 0) hx hb dX12_look_61 (by decide) ?_
      refine lv_istore_n (lv' := [(3, .int 0), (2, .int 0), (0, .ref qa900), (1, .int zi901)]) hx hb dX12_look_62 rfl hl (by decide) rfl (fun ls hl => ?_)
      have lp250 : ∀ (n248 : Nat) (hp198 : Nat → Nat → Value) (zi196 : Int32) (zi197 : Int32) (H : Heap) (locs : List Loc) (ls : Array Slot), 6 - zi197.toInt < (n248 : Int) → Ok K hp198 → Fr [13048, 90000, 91000, 93000] K hp59 hp198 → ((0 : Int) ≤ zi197.toInt ∧ zi197.toInt ≤ 6) → lv_has ls 4 [(0, .ref qa900), (2, .int zi196), (3, .int zi197)] → PW G cy K ln Ls A hp198 H → va_S A s.heap H locs → W p l e ({ frames := 3, cells := 0, slots := 0, locals := 78 } : Room) s m ([.ref qa900, .int zi901] : List Value).toArray below meth c H locs 0 0 Q (F0 m 63 ls []) := by
        intro n248
        induction n248 with
        | zero =>
          intro hp198 zi196 zi197 H locs ls hm251 ok200 F199 bd201 hl hw hS
          exact absurd hm251 (by have := bd201; omega)
        | succ n248 ih249 =>
          intro hp198 zi196 zi197 H locs ls hm251 ok200 F199 bd201 hl hw hS
          refine lv_iload_n hx hb dX12_look_63 rfl (lv_at hl 2 rfl) ?_
          refine lv_aload_n hx hb dX12_look_64 rfl (lv_at hl 0 rfl) ?_
          obtain ⟨qa253, eq252, kd254⟩ := rd_13027 ok200 kd900
          refine p_get (ci := 12) (v := .ref qa253) (C := RX12) (T := TX12) (N := 69) hx hb hT iw_X12 hown hK hw hW kd900 (by decide) rfl rfl 27 (by decide) eq252 (hT _ tb_1401) (fun _ h9 => h9) dX12_look_65 ?_
          refine lv_aload_n hx hb dX12_look_68 rfl (lv_at hl 0 rfl) ?_
          have eq255 : hp198 qa900 18 = .int zi5 := Eq.trans (Fr.at (cq := 13018) F199 kd900 (cd_o (by decide)) (by decide)) (Eq.trans (up_at eh60 (Or.inl (kd_ne kd900 kd51 (by decide)))) (Eq.trans (Fr.at (cq := 13018) F46 kd900 (cd_o (by decide)) (by decide)) (Eq.trans (Fr.at (cq := 13018) F41 kd900 (cd_o (by decide)) (by decide)) eq4)))
          refine p_get (ci := 12) (v := .int zi5) (C := RX12) (T := TX12) (N := 69) hx hb hT iw_X12 hown hK hw hW kd900 (by decide) rfl rfl 18 (by decide) eq255 (hT _ tb_1392) (fun _ h9 => h9) dX12_look_69 ?_
          obtain ⟨zi257, eq256, bd258⟩ := rd_73000 ok200 kd254 ((zi5 : Int32).toNatClampNeg)
          refine p_iald (v := zi257) hx hb hK hw hW kd254 (by decide) rfl (hW.len kd254 (n := 2) rfl (by decide)) (vp_b bd6 (by decide) (by decide)) eq256 dX12_look_72 ?_
          refine lv_icmp_ge (tgt := 90) hx hb dX12_look_73 (by decide) (fun cn259 => ?_) (fun cn259 => ?_)
          · skip
            refine lv_aload_n hx hb dX12_look_90 rfl (lv_at hl 0 rfl) ?_
            refine kq_v hw hS hA (va_runV (As := []) (rest := []) ⟨hx, hb, hml, hown, hT⟩ (cX12_keeps_0 l G cy ev K ln Ls hW _ hp198 ok200 qa900 kd900) (cwV 0 hT (good_V tb_1835 tb_1832 tb_1834 tb_93 tb_122) rfl rfl rfl (by decide +kernel) ⟨Nat.le_of_ble_eq_true rfl, Nat.le_of_ble_eq_true rfl⟩) (pool_preV (ci := 12) hK hE hS hA hw hW kd900 (by decide) rfl) rfl rfl hl.1 rfl (lv_room (Nat.le_of_ble_eq_true rfl)) dX12_look_91 ⟨Nat.le_of_ble_eq_true rfl, Nat.le_of_ble_eq_true rfl⟩) (fun hp275 H locs hq278 hw hS => ?_)
            obtain ⟨ok276, F277, ⟨zi280, eq281, bd282⟩⟩ := hq278
            have hw : PW G cy K ln Ls A hp275 H := hw
            refine lv_iload_n hx hb dX12_look_94 rfl (lv_at hl 1 rfl) ?_
            rw [hQ]
            exact kz_i hx hb hr hlocks hS rfl hp275 hw ⟨ok276, (Fr.tr (Fr.tr (Fr.put (cq := 93000) (Fr.tr (Fr.tr (Fr.rf) F41 (by decide)) F46 (by decide)) eh60 kd51 (cd_a (by decide)) (by decide)) F199 (by decide)) F277 (by decide))⟩ (Nat.le_of_ble_eq_true rfl) (Nat.le_of_ble_eq_true rfl) dX12_look_95
          · skip
            have bd283 : (0 : Int) ≤ zi197.toInt ∧ zi197.toInt ≤ 5 := r_lt_x (Int32.not_le.mp cn259) bd201 bd258 (by decide) (by decide)
            have bd284 : (1 : Int) ≤ zi257.toInt ∧ zi257.toInt ≤ 6 := r_lt_y (Int32.not_le.mp cn259) bd201 bd258 (by decide) (by decide)
            refine lv_iload_n hx hb dX12_look_76 rfl (lv_at hl 1 rfl) ?_
            refine lv_aload_n hx hb dX12_look_77 rfl (lv_at hl 0 rfl) ?_
            refine lv_iload_n hx hb dX12_look_78 rfl (lv_at hl 2 rfl) ?_
            have pd285 : LW hp198 qa900 := LW_fr ok0 kd900 (show Fr [13048, 13051, 90000, 91000, 93000] K hp0 hp198 from (Fr.tr (Fr.put (cq := 93000) (Fr.tr (Fr.tr (Fr.rf) F41 (by decide)) F46 (by decide)) eh60 kd51 (cd_a (by decide)) (by decide)) F199 (by decide))) (by decide) pdLW
            refine kq_i hw hS hA (va_runV (As := [.int zi197]) (rest := [.int zi196]) ⟨hx, hb, hml, hown, hT⟩ (cX12_looksAt_0 l G cy ev K ln Ls hW _ hp198 ok200 qa900 zi197 kd900 (b_wid2 bd283 (by decide) (by decide)) pd285) (cwV 1 hT (good_V tb_1830 tb_1827 tb_1829 tb_92 tb_122) rfl rfl rfl (by decide +kernel) ⟨Nat.le_of_ble_eq_true rfl, Nat.le_of_ble_eq_true rfl⟩) (pool_preV (ci := 12) hK hE hS hA hw hW kd900 (by decide) rfl) rfl rfl hl.1 rfl (lv_room (Nat.le_of_ble_eq_true rfl)) dX12_look_79 ⟨Nat.le_of_ble_eq_true rfl, Nat.le_of_ble_eq_true rfl⟩) (fun zi290 hp286 H locs hq289 hw hS => ?_)
            obtain ⟨ok287, F288⟩ := hq289
            have hw : PW G cy K ln Ls A hp286 H := hw
            refine lv_iadd hx hb dX12_look_82 (lv_topi (fun zi291 ea292 => ?_))
            refine lv_istore_n (lv' := [(2, .int zi291), (0, .ref qa900), (3, .int zi197)]) hx hb dX12_look_83 rfl hl (by decide) rfl (fun ls hl => ?_)
            obtain ⟨zi293, ea294⟩ : ∃ z : Int32, z = zi197 + 1 := ⟨_, rfl⟩
            have bd295 : (1 : Int) ≤ zi293.toInt ∧ zi293.toInt ≤ 6 := b_iadd ea294 bd283 bc_1 (by decide) (by decide) (by decide) (by decide)
            have qe296 : zi293.toInt = (zi197 : Int32).toInt + (1 : Int32).toInt := e_iadd ea294 bd283 bc_1 (by decide) (by decide)
            have qe297 : zi293.toInt = zi197.toInt + 1 := by have ha : (1 : Int32).toInt = 1 := (by decide); rw [ha] at qe296; exact qe296
            refine lv_iinc (v := zi293) (lv' := [(3, .int zi293), (2, .int zi291), (0, .ref qa900)]) hx hb dX12_look_84 hl (k := 2) rfl ea294.symm (by decide) rfl (fun ls hl => ?_)
            refine lv_goto (tgt := 63) hx hb dX12_look_87 (by decide) ?_
            exact ih249 hp286 zi291 zi293 _ _ ls (by have := hm251; have := qe297; omega) ok287 (Fr.tr (Fr.tr (Fr.rf) F199 (by decide)) F288 (by decide)) (b_wid2 bd295 (by decide) (by decide)) (lv_sub hl [2, 1, 0] rfl) hw hS
      exact lp250 _ hp59 0 0 _ _ ls (lp_in _) ok61 (Fr.rf) (b_wid2 bc_0 (by decide) (by decide)) (lv_sub hl [2, 1, 0] rfl) hw hS
    · skip
      have bd298 : (1 : Int) ≤ zi34.toInt ∧ zi34.toInt ≤ 1 := r_eq_x cn37 bd36 bc_1 (by decide) (by decide)
      refine lv_bipush (v := (-2)) hx hb dX12_look_35 (by decide) ?_
      rw [hQ]
      exact kz_i hx hb hr hlocks hS rfl hp0 hw ⟨ok0, (Fr.rf)⟩ (Nat.le_of_ble_eq_true rfl) (Nat.le_of_ble_eq_true rfl) dX12_look_37

set_option maxRecDepth 100000 in
set_option maxHeartbeats 4000000 in
theorem cX12_in_4 (l : Launch) (G : va_G) (cy : Nat → ClassId) (ev : Ew) (K ln : Nat → Nat) (Ls : List Nat) (hW : SW K ln Ls) (sz : Nat) (hp0 : Nat → Nat → Value) (ok0 : Ok K hp0) (zi900 : Int32) (zi901 : Int32) (zi902 : Int32) (bd901 : ((0 : Int) ≤ zi901.toInt ∧ zi901.toInt ≤ 0)) (bd902 : ((3000 : Int) ≤ zi902.toInt ∧ zi902.toInt ≤ 3000)) : Met l yX12_in (WS yX12_in cX12_in 3 (some .boolean)) { frames := 0, cells := 0, slots := 0, locals := 0 } (PB2 [.int zi900, .int zi901, .int zi902] sz G cy ev (va_pl Ls (cellOf cy K ln hp0))) (QBi (S := (Nat → Nat → Value)) (fun (r : Int32) (u : (Nat → Nat → Value)) => Ok K u ∧ Fr [] K hp0 u ∧ ((0 : Int) ≤ r.toInt ∧ r.toInt ≤ 1) ∧ (r = 1 → ((0 : Int) ≤ zi900.toInt ∧ zi900.toInt ≤ 3000))) G (fun u => va_pl Ls (cellOf cy K ln u)) (va_A (va_pl Ls (cellOf cy K ln hp0)) sz)) 0 0 (va_A (va_pl Ls (cellOf cy K ln hp0)) sz) := by
  refine met_of2 (y := yX12_in) (L := 3) (av := [.int zi900, .int zi901, .int zi902]) (Qc := fun A => QBi (S := (Nat → Nat → Value)) (fun (r : Int32) (u : (Nat → Nat → Value)) => Ok K u ∧ Fr [] K hp0 u ∧ ((0 : Int) ≤ r.toInt ∧ r.toInt ≤ 1) ∧ (r = 1 → ((0 : Int) ≤ zi900.toInt ∧ zi900.toInt ≤ 3000))) G (fun u => va_pl Ls (cellOf cy K ln u)) A) (plainFor_of_name (by decide)) (Nat.le_of_ble_eq_true rfl) ?_
  intro p e s m below meth c hsz hx hb hr hml hown hT hlocks hin hK A hA hE hw hS ls hl
  have hw : PW G cy K ln Ls A hp0 s.heap := hw
  have hown : s.vm.findClass "LieClockModel" = some m.cls := hown
  have hl : lv_has ls 3 [(0, .int zi900), (1, .int zi901), (2, .int zi902)] := hl
  obtain ⟨Q, hQ⟩ : ∃ Q : State → Prop, Q = MQ below (QBi (S := (Nat → Nat → Value)) (fun (r : Int32) (u : (Nat → Nat → Value)) => Ok K u ∧ Fr [] K hp0 u ∧ ((0 : Int) ≤ r.toInt ∧ r.toInt ≤ 1) ∧ (r = 1 → ((0 : Int) ≤ zi900.toInt ∧ zi900.toInt ≤ 3000))) G (fun u => va_pl Ls (cellOf cy K ln u)) A) ([.int zi900, .int zi901, .int zi902] : List Value).toArray s 0 0 A := ⟨_, rfl⟩
  rw [← hQ]
  refine lv_iload_n hx hb dX12_in_0 rfl (lv_at hl 0 rfl) ?_
  refine lv_iload_n hx hb dX12_in_1 rfl (lv_at hl 1 rfl) ?_
  refine lv_icmp_lt (tgt := 14) hx hb dX12_in_2 (by decide) (fun cn1 => ?_) (fun cn1 => ?_)
  · skip
    have bd2 : (-2147483648 : Int) ≤ zi900.toInt ∧ zi900.toInt ≤ -1 := r_lt_x cn1 (b_all zi900) bd901 (by decide) (by decide)
    refine lv_iconst (v := 0) hx hb dX12_in_14 (by decide) ?_
    rw [hQ]
    exact kz_i hx hb hr hlocks hS (nz_n bc_0 (by decide) (by decide)) hp0 hw ⟨ok0, (Fr.rf), (b_wid2 bc_0 (by decide) (by decide)), (fun h => absurd h (by decide))⟩ (Nat.le_of_ble_eq_true rfl) (Nat.le_of_ble_eq_true rfl) dX12_in_15
  · skip
    have bd3 : (0 : Int) ≤ zi900.toInt ∧ zi900.toInt ≤ 2147483647 := r_le_y (Int32.not_lt.mp cn1) bd901 (b_all zi900) (by decide) (by decide)
    refine lv_iload_n hx hb dX12_in_5 rfl (lv_at hl 0 rfl) ?_
    refine lv_iload_n hx hb dX12_in_6 rfl (lv_at hl 2 rfl) ?_
    refine lv_icmp_gt (tgt := 14) hx hb dX12_in_7 (by decide) (fun cn4 => ?_) (fun cn4 => ?_)
    · skip
      have bd5 : (3001 : Int) ≤ zi900.toInt ∧ zi900.toInt ≤ 2147483647 := r_lt_y cn4 bd902 bd3 (by decide) (by decide)
      refine lv_iconst (v := 0) hx hb dX12_in_14 (by decide) ?_
      rw [hQ]
      exact kz_i hx hb hr hlocks hS (nz_n bc_0 (by decide) (by decide)) hp0 hw ⟨ok0, (Fr.rf), (b_wid2 bc_0 (by decide) (by decide)), (fun h => absurd h (by decide))⟩ (Nat.le_of_ble_eq_true rfl) (Nat.le_of_ble_eq_true rfl) dX12_in_15
    · skip
      have bd6 : (0 : Int) ≤ zi900.toInt ∧ zi900.toInt ≤ 3000 := r_le_x (Int32.not_lt.mp cn4) bd3 bd902 (by decide) (by decide)
      refine lv_iconst (v := 1) hx hb dX12_in_10 (by decide) ?_
      refine lv_goto (tgt := 15) hx hb dX12_in_11 (by decide) ?_
      rw [hQ]
      exact kz_i hx hb hr hlocks hS (nz_n bc_1 (by decide) (by decide)) hp0 hw ⟨ok0, (Fr.rf), (b_wid2 bc_1 (by decide) (by decide)), (fun _ => b_wid2 bd6 (by decide) (by decide))⟩ (Nat.le_of_ble_eq_true rfl) (Nat.le_of_ble_eq_true rfl) dX12_in_15

set_option maxRecDepth 100000 in
set_option maxHeartbeats 4000000 in
theorem cX12_pause_0 (l : Launch) (G : va_G) (cy : Nat → ClassId) (ev : Ew) (K ln : Nat → Nat) (Ls : List Nat) (hW : SW K ln Ls) (sz : Nat) (hp0 : Nat → Nat → Value) (ok0 : Ok K hp0) (qa900 : Nat) (zi901 : Int32) (kd900 : K qa900 = 13) : Met l yX12_pause (WS yX12_pause cX12_pause 2 (some .int)) { frames := 3, cells := 0, slots := 0, locals := 72 } (PB2 [.ref qa900, .int zi901] sz G cy ev (va_pl Ls (cellOf cy K ln hp0))) (QBi (S := (Nat → Nat → Value)) (fun (r : Int32) (u : (Nat → Nat → Value)) => Ok K u ∧ Fr [13051, 13053, 92000, 93000, 94000] K hp0 u) G (fun u => va_pl Ls (cellOf cy K ln u)) (va_A (va_pl Ls (cellOf cy K ln hp0)) sz)) 0 0 (va_A (va_pl Ls (cellOf cy K ln hp0)) sz) := by
  refine met_of2 (y := yX12_pause) (L := 2) (av := [.ref qa900, .int zi901]) (Qc := fun A => QBi (S := (Nat → Nat → Value)) (fun (r : Int32) (u : (Nat → Nat → Value)) => Ok K u ∧ Fr [13051, 13053, 92000, 93000, 94000] K hp0 u) G (fun u => va_pl Ls (cellOf cy K ln u)) A) (plainFor_of_name (by decide)) (Nat.le_of_ble_eq_true rfl) ?_
  intro p e s m below meth c hsz hx hb hr hml hown hT hlocks hin hK A hA hE hw hS ls hl
  have hw : PW G cy K ln Ls A hp0 s.heap := hw
  have hown : s.vm.findClass "LieClockModel" = some m.cls := hown
  have hl : lv_has ls 2 [(0, .ref qa900), (1, .int zi901)] := hl
  obtain ⟨Q, hQ⟩ : ∃ Q : State → Prop, Q = MQ below (QBi (S := (Nat → Nat → Value)) (fun (r : Int32) (u : (Nat → Nat → Value)) => Ok K u ∧ Fr [13051, 13053, 92000, 93000, 94000] K hp0 u) G (fun u => va_pl Ls (cellOf cy K ln u)) A) ([.ref qa900, .int zi901] : List Value).toArray s 0 0 A := ⟨_, rfl⟩
  rw [← hQ]
  refine lv_iload_n hx hb dX12_pause_0 rfl (lv_at hl 1 rfl) ?_
  refine lv_iconst (v := 0) hx hb dX12_pause_1 (by decide) ?_
  refine lv_sipush (v := 3000) hx hb dX12_pause_2 (by decide) ?_
  refine kq_i hw hS hA (va_runS (As := [.int zi901, .int 0, .int 3000]) (rest := []) ⟨hx, hb, hml, hown, hT⟩ (cX12_in_4 l G cy ev K ln Ls hW _ hp0 ok0 zi901 0 3000 (b_wid2 bc_0 (by decide) (by decide)) (b_wid2 bc_3000 (by decide) (by decide))) (va_cwS 3 hT (good_S tb_1734 tb_1732 tb_1733 tb_122) rfl rfl rfl (by decide +kernel) ⟨Nat.le_of_ble_eq_true rfl, Nat.le_of_ble_eq_true rfl⟩) (PB2.preS hK hE hS hA hw) rfl rfl hl.1 rfl (lv_room (Nat.le_of_ble_eq_true rfl)) dX12_pause_5 ⟨Nat.le_of_ble_eq_true rfl, Nat.le_of_ble_eq_true rfl⟩) (fun zi5 hp1 H locs hq4 hw hS => ?_)
  obtain ⟨ok2, F3, bd6, hc7⟩ := hq4
  obtain rfl : hp0 = hp1 := (Fr.nil F3).symm
  have hw : PW G cy K ln Ls A hp0 H := hw
  rcases b01 bd6 with cn8 | cn8
  · skip
    subst cn8
    refine lv_if_ne (tgt := 15) hx hb dX12_pause_8 (by decide) (fun c => absurd (d_eq bc_0 bc_0) c) (fun _ => ?_)
    refine lv_ldcw (v := (-1000000)) hx hb hown (hT _ tb_1789) dX12_pause_11 ?_
    rw [hQ]
    exact kz_i hx hb hr hlocks hS rfl hp0 hw ⟨ok0, (Fr.rf)⟩ (Nat.le_of_ble_eq_true rfl) (Nat.le_of_ble_eq_true rfl) dX12_pause_14
  · skip
    subst cn8
    have bd9 : (0 : Int) ≤ zi901.toInt ∧ zi901.toInt ≤ 3000 := b_meet (b_all zi901) (hc7 rfl) (by decide) (by decide)
    refine lv_if_ne (tgt := 15) hx hb dX12_pause_8 (by decide) (fun _ => ?_) (fun c => absurd c (d_ne bc_1 bc_0 (by decide)))
    refine lv_iload_n hx hb dX12_pause_15 rfl (lv_at hl 1 rfl) ?_
    refine lv_if_ne (tgt := 26) hx hb dX12_pause_16 (by decide) (fun cn10 => ?_) (fun cn10 => ?_)
    · skip
      have bd11 : (1 : Int) ≤ zi901.toInt ∧ zi901.toInt ≤ 3000 := r_ne_lo cn10 bd9 (toi bc_0) (by decide) (by decide)
      refine lv_aload_n hx hb dX12_pause_26 rfl (lv_at hl 0 rfl) ?_
      refine kq_v hw hS hA (va_runV (As := []) (rest := []) ⟨hx, hb, hml, hown, hT⟩ (cX12_copies_0 l G cy ev K ln Ls hW _ hp0 ok0 qa900 kd900) (cwV 0 hT (good_V tb_1769 tb_1766 tb_1768 tb_81 tb_122) rfl rfl rfl (by decide +kernel) ⟨Nat.le_of_ble_eq_true rfl, Nat.le_of_ble_eq_true rfl⟩) (pool_preV (ci := 12) hK hE hS hA hw hW kd900 (by decide) rfl) rfl rfl hl.1 rfl (lv_room (Nat.le_of_ble_eq_true rfl)) dX12_pause_27 ⟨Nat.le_of_ble_eq_true rfl, Nat.le_of_ble_eq_true rfl⟩) (fun hp12 H locs hq15 hw hS => ?_)
      obtain ⟨ok13, F14⟩ := hq15
      have hw : PW G cy K ln Ls A hp12 H := hw
      refine lv_aload_n hx hb dX12_pause_30 rfl (lv_at hl 0 rfl) ?_
      refine lv_iload_n hx hb dX12_pause_31 rfl (lv_at hl 1 rfl) ?_
      refine kq_v hw hS hA (va_runV (As := [.int zi901]) (rest := []) ⟨hx, hb, hml, hown, hT⟩ (cX12_forward_0 l G cy ev K ln Ls hW _ hp12 ok13 qa900 zi901 kd900) (cwV 1 hT (good_V tb_1813 tb_1810 tb_1812 tb_88 tb_122) rfl rfl rfl (by decide +kernel) ⟨Nat.le_of_ble_eq_true rfl, Nat.le_of_ble_eq_true rfl⟩) (pool_preV (ci := 12) hK hE hS hA hw hW kd900 (by decide) rfl) rfl rfl hl.1 rfl (lv_room (Nat.le_of_ble_eq_true rfl)) dX12_pause_32 ⟨Nat.le_of_ble_eq_true rfl, Nat.le_of_ble_eq_true rfl⟩) (fun hp17 H locs hq20 hw hS => ?_)
      obtain ⟨ok18, F19⟩ := hq20
      have hw : PW G cy K ln Ls A hp17 H := hw
      refine lv_aload_n hx hb dX12_pause_35 rfl (lv_at hl 0 rfl) ?_
      refine kq_v hw hS hA (va_runV (As := []) (rest := []) ⟨hx, hb, hml, hown, hT⟩ (cX12_keeps_0 l G cy ev K ln Ls hW _ hp17 ok18 qa900 kd900) (cwV 0 hT (good_V tb_1835 tb_1832 tb_1834 tb_93 tb_122) rfl rfl rfl (by decide +kernel) ⟨Nat.le_of_ble_eq_true rfl, Nat.le_of_ble_eq_true rfl⟩) (pool_preV (ci := 12) hK hE hS hA hw hW kd900 (by decide) rfl) rfl rfl hl.1 rfl (lv_room (Nat.le_of_ble_eq_true rfl)) dX12_pause_36 ⟨Nat.le_of_ble_eq_true rfl, Nat.le_of_ble_eq_true rfl⟩) (fun hp22 H locs hq25 hw hS => ?_)
      obtain ⟨ok23, F24, ⟨zi27, eq28, bd29⟩⟩ := hq25
      have hw : PW G cy K ln Ls A hp22 H := hw
      refine lv_aload_n hx hb dX12_pause_39 rfl (lv_at hl 0 rfl) ?_
      obtain ⟨qa31, eq30, kd32⟩ := rd_13049 ok23 kd900
      refine p_get (ci := 12) (v := .ref qa31) (C := RX12) (T := TX12) (N := 69) hx hb hT iw_X12 hown hK hw hW kd900 (by decide) rfl rfl 49 (by decide) eq30 (hT _ tb_1423) (fun _ h9 => h9) dX12_pause_40 ?_
      refine lv_iconst (v := 0) hx hb dX12_pause_43 (by decide) ?_
      obtain ⟨zi34, eq33⟩ := rd_92000 ok23 kd32 ((0 : Int32).toNatClampNeg)
      refine p_iald (v := zi34) hx hb hK hw hW kd32 (by decide) rfl (hW.len kd32 (n := 40) rfl (by decide)) (vp_b bc_0 (by decide) (by decide)) eq33 dX12_pause_44 ?_
      rw [hQ]
      exact kz_i hx hb hr hlocks hS rfl hp22 hw ⟨ok23, (Fr.tr (Fr.tr (Fr.tr (Fr.rf) F14 (by decide)) F19 (by decide)) F24 (by decide))⟩ (Nat.le_of_ble_eq_true rfl) (Nat.le_of_ble_eq_true rfl) dX12_pause_45
    · skip
      have bd35 : (0 : Int) ≤ zi901.toInt ∧ zi901.toInt ≤ 0 := r_eq_x cn10 bd9 bc_0 (by decide) (by decide)
      refine lv_aload_n hx hb dX12_pause_19 rfl (lv_at hl 0 rfl) ?_
      obtain ⟨qa37, eq36, kd38⟩ := rd_13049 ok0 kd900
      refine p_get (ci := 12) (v := .ref qa37) (C := RX12) (T := TX12) (N := 69) hx hb hT iw_X12 hown hK hw hW kd900 (by decide) rfl rfl 49 (by decide) eq36 (hT _ tb_1423) (fun _ h9 => h9) dX12_pause_20 ?_
      refine lv_iconst (v := 0) hx hb dX12_pause_23 (by decide) ?_
      obtain ⟨zi40, eq39⟩ := rd_92000 ok0 kd38 ((0 : Int32).toNatClampNeg)
      refine p_iald (v := zi40) hx hb hK hw hW kd38 (by decide) rfl (hW.len kd38 (n := 40) rfl (by decide)) (vp_b bc_0 (by decide) (by decide)) eq39 dX12_pause_24 ?_
      rw [hQ]
      exact kz_i hx hb hr hlocks hS rfl hp0 hw ⟨ok0, (Fr.rf)⟩ (Nat.le_of_ble_eq_true rfl) (Nat.le_of_ble_eq_true rfl) dX12_pause_25

set_option maxRecDepth 100000 in
set_option maxHeartbeats 4000000 in
theorem cX12_undo_0 (l : Launch) (G : va_G) (cy : Nat → ClassId) (ev : Ew) (K ln : Nat → Nat) (Ls : List Nat) (hW : SW K ln Ls) (sz : Nat) (hp0 : Nat → Nat → Value) (ok0 : Ok K hp0) (qa900 : Nat) (kd900 : K qa900 = 13) : Met l yX12_undo (WS yX12_undo cX12_undo 2 (some .boolean)) { frames := 0, cells := 0, slots := 0, locals := 0 } (PB2 [.ref qa900] sz G cy ev (va_pl Ls (cellOf cy K ln hp0))) (QBi (S := (Nat → Nat → Value)) (fun (r : Int32) (u : (Nat → Nat → Value)) => Ok K u ∧ Fr [13053, 92000] K hp0 u ∧ ((0 : Int) ≤ r.toInt ∧ r.toInt ≤ 1) ∧ (∃ z : Int32, u qa900 53 = .int z ∧ ((0 : Int) ≤ z.toInt ∧ z.toInt ≤ 39)) ∧ (r = 0 → ∃ z : Int32, u qa900 53 = .int z ∧ ((0 : Int) ≤ z.toInt ∧ z.toInt ≤ 0))) G (fun u => va_pl Ls (cellOf cy K ln u)) (va_A (va_pl Ls (cellOf cy K ln hp0)) sz)) 0 0 (va_A (va_pl Ls (cellOf cy K ln hp0)) sz) := by
  refine met_of2 (y := yX12_undo) (L := 2) (av := [.ref qa900]) (Qc := fun A => QBi (S := (Nat → Nat → Value)) (fun (r : Int32) (u : (Nat → Nat → Value)) => Ok K u ∧ Fr [13053, 92000] K hp0 u ∧ ((0 : Int) ≤ r.toInt ∧ r.toInt ≤ 1) ∧ (∃ z : Int32, u qa900 53 = .int z ∧ ((0 : Int) ≤ z.toInt ∧ z.toInt ≤ 39)) ∧ (r = 0 → ∃ z : Int32, u qa900 53 = .int z ∧ ((0 : Int) ≤ z.toInt ∧ z.toInt ≤ 0))) G (fun u => va_pl Ls (cellOf cy K ln u)) A) (plainFor_of_name (by decide)) (Nat.le_of_ble_eq_true rfl) ?_
  intro p e s m below meth c hsz hx hb hr hml hown hT hlocks hin hK A hA hE hw hS ls hl
  have hw : PW G cy K ln Ls A hp0 s.heap := hw
  have hown : s.vm.findClass "LieClockModel" = some m.cls := hown
  have hl : lv_has ls 2 [(0, .ref qa900)] := hl
  obtain ⟨Q, hQ⟩ : ∃ Q : State → Prop, Q = MQ below (QBi (S := (Nat → Nat → Value)) (fun (r : Int32) (u : (Nat → Nat → Value)) => Ok K u ∧ Fr [13053, 92000] K hp0 u ∧ ((0 : Int) ≤ r.toInt ∧ r.toInt ≤ 1) ∧ (∃ z : Int32, u qa900 53 = .int z ∧ ((0 : Int) ≤ z.toInt ∧ z.toInt ≤ 39)) ∧ (r = 0 → ∃ z : Int32, u qa900 53 = .int z ∧ ((0 : Int) ≤ z.toInt ∧ z.toInt ≤ 0))) G (fun u => va_pl Ls (cellOf cy K ln u)) A) ([.ref qa900] : List Value).toArray s 0 0 A := ⟨_, rfl⟩
  rw [← hQ]
  refine lv_aload_n hx hb dX12_undo_0 rfl (lv_at hl 0 rfl) ?_
  obtain ⟨zi2, eq1, bd3⟩ := rd_13053 ok0 kd900
  refine p_get (ci := 12) (v := .int zi2) (C := RX12) (T := TX12) (N := 69) hx hb hT iw_X12 hown hK hw hW kd900 (by decide) rfl rfl 53 (by decide) eq1 (hT _ tb_1427) (fun _ h9 => h9) dX12_undo_1 ?_
  refine lv_if_ne (tgt := 9) hx hb dX12_undo_4 (by decide) (fun cn4 => ?_) (fun cn4 => ?_)
  · skip
    have bd5 : (1 : Int) ≤ zi2.toInt ∧ zi2.toInt ≤ 40 := r_ne_lo cn4 bd3 (toi bc_0) (by decide) (by decide)
    refine lv_aload_n hx hb dX12_undo_9 rfl (lv_at hl 0 rfl) ?_
    refine lv_dup hx hb dX12_undo_10 rfl ?_
    refine p_get (ci := 12) (v := .int zi2) (C := RX12) (T := TX12) (N := 69) hx hb hT iw_X12 hown hK hw hW kd900 (by decide) rfl rfl 53 (by decide) eq1 (hT _ tb_1427) (fun _ h9 => h9) dX12_undo_11 ?_
    refine lv_iconst (v := 1) hx hb dX12_undo_14 (by decide) ?_
    refine lv_isub hx hb dX12_undo_15 (lv_topi (fun zi6 ea7 => ?_))
    have bd8 : (0 : Int) ≤ zi6.toInt ∧ zi6.toInt ≤ 39 := b_isub ea7 bd5 bc_1 (by decide) (by decide) (by decide) (by decide)
    have qe9 : zi6.toInt = (zi2 : Int32).toInt - (1 : Int32).toInt := e_isub ea7 bd5 bc_1 (by decide) (by decide)
    have qe10 : zi6.toInt = zi2.toInt - 1 := by have ha : (1 : Int32).toInt = 1 := (by decide); rw [ha] at qe9; exact qe9
    refine p_put (ci := 12) (v := .int zi6) (ty := .int) (C := RX12) (T := TX12) (N := 69) hx hb hT iw_X12 tyX12 tyX12_ok nmX12 hown hK hw hS hW kd900 (by decide) rfl rfl 53 (by decide) (hT _ tb_1427) (fun _ h9 => h9) rfl (by decide +kernel) rfl rfl dX12_undo_16 (fun hp11 eh12 H locs hw hS => ?_)
    have ok13 := wr_13053 bd8 (by decide) (by decide) ok0 kd900 eh12
    refine lv_iconst (v := 0) hx hb dX12_undo_19 (by decide) ?_
    refine lv_istore_n (lv' := [(1, .int 0), (0, .ref qa900)]) hx hb dX12_undo_20 rfl hl (by decide) rfl (fun ls hl => ?_)
    have lp238 : ∀ (n236 : Nat) (hp180 : Nat → Nat → Value) (zi179 : Int32) (H : Heap) (locs : List Loc) (ls : Array Slot), 40 - zi179.toInt < (n236 : Int) → Ok K hp180 → Fr [92000] K hp11 hp180 → ((0 : Int) ≤ zi179.toInt ∧ zi179.toInt ≤ 40) → lv_has ls 2 [(0, .ref qa900), (1, .int zi179)] → PW G cy K ln Ls A hp180 H → va_S A s.heap H locs → W p l e ({ frames := 0, cells := 0, slots := 0, locals := 0 } : Room) s m ([.ref qa900] : List Value).toArray below meth c H locs 0 0 Q (F0 m 21 ls []) := by
      intro n236
      induction n236 with
      | zero =>
        intro hp180 zi179 H locs ls hm239 ok182 F181 bd183 hl hw hS
        exact absurd hm239 (by have := bd183; omega)
      | succ n236 ih237 =>
        intro hp180 zi179 H locs ls hm239 ok182 F181 bd183 hl hw hS
        refine lv_iload_n hx hb dX12_undo_21 rfl (lv_at hl 1 rfl) ?_
        refine lv_bipush (v := 40) hx hb dX12_undo_22 (by decide) ?_
        refine lv_icmp_ge (tgt := 53) hx hb dX12_undo_24 (by decide) (fun cn240 => ?_) (fun cn240 => ?_)
        · skip
          have bd266 : (40 : Int) ≤ zi179.toInt ∧ zi179.toInt ≤ 40 := r_le_y cn240 bc_40 bd183 (by decide) (by decide)
          refine lv_iconst (v := 1) hx hb dX12_undo_53 (by decide) ?_
          have eq267 : hp180 qa900 53 = .int zi6 := Eq.trans (Fr.at (cq := 13053) F181 kd900 (cd_o (by decide)) (by decide)) (hp_self eh12)
          rw [hQ]
          exact kz_i hx hb hr hlocks hS (nz_n bc_1 (by decide) (by decide)) hp180 hw ⟨ok182, (Fr.tr (Fr.put (cq := 13053) (Fr.rf) eh12 kd900 (cd_o (by decide)) (by decide)) F181 (by decide)), (b_wid2 bc_1 (by decide) (by decide)), ⟨_, eq267, b_wid2 bd8 (by decide) (by decide)⟩, (fun h => absurd h (by decide))⟩ (Nat.le_of_ble_eq_true rfl) (Nat.le_of_ble_eq_true rfl) dX12_undo_54
        · skip
          have bd268 : (0 : Int) ≤ zi179.toInt ∧ zi179.toInt ≤ 39 := r_lt_x (Int32.not_le.mp cn240) bd183 bc_40 (by decide) (by decide)
          refine lv_aload_n hx hb dX12_undo_27 rfl (lv_at hl 0 rfl) ?_
          obtain ⟨qa270, eq269, kd271⟩ := rd_13049 ok182 kd900
          refine p_get (ci := 12) (v := .ref qa270) (C := RX12) (T := TX12) (N := 69) hx hb hT iw_X12 hown hK hw hW kd900 (by decide) rfl rfl 49 (by decide) eq269 (hT _ tb_1423) (fun _ h9 => h9) dX12_undo_28 ?_
          refine lv_iload_n hx hb dX12_undo_31 rfl (lv_at hl 1 rfl) ?_
          refine lv_aload_n hx hb dX12_undo_32 rfl (lv_at hl 0 rfl) ?_
          obtain ⟨qa273, eq272, kd274⟩ := rd_13054 ok182 kd900
          refine p_get (ci := 12) (v := .ref qa273) (C := RX12) (T := TX12) (N := 69) hx hb hT iw_X12 hown hK hw hW kd900 (by decide) rfl rfl 54 (by decide) eq272 (hT _ tb_1428) (fun _ h9 => h9) dX12_undo_33 ?_
          refine lv_bipush (v := 40) hx hb dX12_undo_36 (by decide) ?_
          refine lv_aload_n hx hb dX12_undo_38 rfl (lv_at hl 0 rfl) ?_
          have eq275 : hp180 qa900 53 = .int zi6 := Eq.trans (Fr.at (cq := 13053) F181 kd900 (cd_o (by decide)) (by decide)) (hp_self eh12)
          refine p_get (ci := 12) (v := .int zi6) (C := RX12) (T := TX12) (N := 69) hx hb hT iw_X12 hown hK hw hW kd900 (by decide) rfl rfl 53 (by decide) eq275 (hT _ tb_1427) (fun _ h9 => h9) dX12_undo_39 ?_
          refine lv_imul hx hb dX12_undo_42 (lv_topi (fun zi276 ea277 => ?_))
          have bd278 : (0 : Int) ≤ zi276.toInt ∧ zi276.toInt ≤ 1560 := b_imul ea277 bc_40 bd8 (by decide) (by decide) (by decide) (by decide) (by decide)
          refine lv_iload_n hx hb dX12_undo_43 rfl (lv_at hl 1 rfl) ?_
          refine lv_iadd hx hb dX12_undo_44 (lv_topi (fun zi279 ea280 => ?_))
          have bd281 : (0 : Int) ≤ zi279.toInt ∧ zi279.toInt ≤ 1599 := b_iadd ea280 bd278 bd268 (by decide) (by decide) (by decide) (by decide)
          obtain ⟨zi283, eq282⟩ := rd_94000 ok182 kd274 ((zi279 : Int32).toNatClampNeg)
          refine p_iald (v := zi283) hx hb hK hw hW kd274 (by decide) rfl (hW.len kd274 (n := 1600) rfl (by decide)) (vp_b bd281 (by decide) (by decide)) eq282 dX12_undo_45 ?_
          refine p_iast (x := zi283) hx hb hK hw hS hW kd271 (by decide) rfl (hW.len kd271 (n := 40) rfl (by decide)) (vp_b bd268 (by decide) (by decide)) dX12_undo_46 (fun hp284 eh285 H locs hw hS => ?_)
          have ok286 := wr_92000 ok182 kd271 eh285
          obtain ⟨zi287, ea288⟩ : ∃ z : Int32, z = zi179 + 1 := ⟨_, rfl⟩
          have bd289 : (1 : Int) ≤ zi287.toInt ∧ zi287.toInt ≤ 40 := b_iadd ea288 bd268 bc_1 (by decide) (by decide) (by decide) (by decide)
          have qe290 : zi287.toInt = (zi179 : Int32).toInt + (1 : Int32).toInt := e_iadd ea288 bd268 bc_1 (by decide) (by decide)
          have qe291 : zi287.toInt = zi179.toInt + 1 := by have ha : (1 : Int32).toInt = 1 := (by decide); rw [ha] at qe290; exact qe290
          refine lv_iinc (v := zi287) (lv' := [(1, .int zi287), (0, .ref qa900)]) hx hb dX12_undo_47 hl (k := 1) rfl ea288.symm (by decide) rfl (fun ls hl => ?_)
          refine lv_goto (tgt := 21) hx hb dX12_undo_50 (by decide) ?_
          exact ih237 hp284 zi287 _ _ ls (by have := hm239; have := qe291; omega) ok286 (Fr.put (cq := 92000) (Fr.tr (Fr.rf) F181 (by decide)) eh285 kd271 (cd_a (by decide)) (by decide)) (b_wid2 bd289 (by decide) (by decide)) (lv_sub hl [1, 0] rfl) hw hS
    exact lp238 _ hp11 0 _ _ ls (lp_in _) ok13 (Fr.rf) (b_wid2 bc_0 (by decide) (by decide)) (lv_sub hl [1, 0] rfl) hw hS
  · skip
    have bd292 : (0 : Int) ≤ zi2.toInt ∧ zi2.toInt ≤ 0 := r_eq_x cn4 bd3 bc_0 (by decide) (by decide)
    refine lv_iconst (v := 0) hx hb dX12_undo_7 (by decide) ?_
    rw [hQ]
    exact kz_i hx hb hr hlocks hS (nz_n bc_0 (by decide) (by decide)) hp0 hw ⟨ok0, (Fr.rf), (b_wid2 bc_0 (by decide) (by decide)), ⟨_, eq1, b_wid2 bd292 (by decide) (by decide)⟩, (fun _ => ⟨_, eq1, b_wid2 bd292 (by decide) (by decide)⟩)⟩ (Nat.le_of_ble_eq_true rfl) (Nat.le_of_ble_eq_true rfl) dX12_undo_8

set_option maxRecDepth 100000 in
set_option maxHeartbeats 4000000 in
theorem cX12_would_0 (l : Launch) (G : va_G) (cy : Nat → ClassId) (ev : Ew) (K ln : Nat → Nat) (Ls : List Nat) (hW : SW K ln Ls) (sz : Nat) (hp0 : Nat → Nat → Value) (ok0 : Ok K hp0) (qa900 : Nat) (zi901 : Int32) (kd900 : K qa900 = 13) (pdLW : LW hp0 qa900) : Met l yX12_would (WS yX12_would cX12_would 2 (some .int)) { frames := 4, cells := 0, slots := 0, locals := 103 } (PB2 [.ref qa900, .int zi901] sz G cy ev (va_pl Ls (cellOf cy K ln hp0))) (QBi (S := (Nat → Nat → Value)) (fun (r : Int32) (u : (Nat → Nat → Value)) => Ok K u ∧ Fr [13048, 13051, 90000, 91000, 93000] K hp0 u) G (fun u => va_pl Ls (cellOf cy K ln u)) (va_A (va_pl Ls (cellOf cy K ln hp0)) sz)) 0 0 (va_A (va_pl Ls (cellOf cy K ln hp0)) sz) := by
  refine met_of2 (y := yX12_would) (L := 2) (av := [.ref qa900, .int zi901]) (Qc := fun A => QBi (S := (Nat → Nat → Value)) (fun (r : Int32) (u : (Nat → Nat → Value)) => Ok K u ∧ Fr [13048, 13051, 90000, 91000, 93000] K hp0 u) G (fun u => va_pl Ls (cellOf cy K ln u)) A) (plainFor_of_name (by decide)) (Nat.le_of_ble_eq_true rfl) ?_
  intro p e s m below meth c hsz hx hb hr hml hown hT hlocks hin hK A hA hE hw hS ls hl
  have hw : PW G cy K ln Ls A hp0 s.heap := hw
  have hown : s.vm.findClass "LieClockModel" = some m.cls := hown
  have hl : lv_has ls 2 [(0, .ref qa900), (1, .int zi901)] := hl
  obtain ⟨Q, hQ⟩ : ∃ Q : State → Prop, Q = MQ below (QBi (S := (Nat → Nat → Value)) (fun (r : Int32) (u : (Nat → Nat → Value)) => Ok K u ∧ Fr [13048, 13051, 90000, 91000, 93000] K hp0 u) G (fun u => va_pl Ls (cellOf cy K ln u)) A) ([.ref qa900, .int zi901] : List Value).toArray s 0 0 A := ⟨_, rfl⟩
  rw [← hQ]
  refine lv_aload_n hx hb dX12_would_0 rfl (lv_at hl 0 rfl) ?_
  refine lv_iload_n hx hb dX12_would_1 rfl (lv_at hl 1 rfl) ?_
  refine kq_i hw hS hA (va_runV (As := [.int zi901]) (rest := []) ⟨hx, hb, hml, hown, hT⟩ (cX12_isWord_0 l G cy ev K ln Ls hW _ hp0 ok0 qa900 zi901 kd900) (cwV 1 hT (good_V tb_1742 tb_1739 tb_1741 tb_76 tb_122) rfl rfl rfl (by decide +kernel) ⟨Nat.le_of_ble_eq_true rfl, Nat.le_of_ble_eq_true rfl⟩) (pool_preV (ci := 12) hK hE hS hA hw hW kd900 (by decide) rfl) rfl rfl hl.1 rfl (lv_room (Nat.le_of_ble_eq_true rfl)) dX12_would_2 ⟨Nat.le_of_ble_eq_true rfl, Nat.le_of_ble_eq_true rfl⟩) (fun zi5 hp1 H locs hq4 hw hS => ?_)
  obtain ⟨ok2, F3, bd6, hc7⟩ := hq4
  obtain rfl : hp0 = hp1 := (Fr.nil F3).symm
  have hw : PW G cy K ln Ls A hp0 H := hw
  rcases b01 bd6 with cn8 | cn8
  · skip
    subst cn8
    refine lv_if_ne (tgt := 12) hx hb dX12_would_5 (by decide) (fun c => absurd (d_eq bc_0 bc_0) c) (fun _ => ?_)
    refine lv_ldcw (v := (-1000000)) hx hb hown (hT _ tb_1789) dX12_would_8 ?_
    rw [hQ]
    exact kz_i hx hb hr hlocks hS rfl hp0 hw ⟨ok0, (Fr.rf)⟩ (Nat.le_of_ble_eq_true rfl) (Nat.le_of_ble_eq_true rfl) dX12_would_11
  · skip
    subst cn8
    have bd9 : (0 : Int) ≤ zi901.toInt ∧ zi901.toInt ≤ 15 := b_meet (b_all zi901) (hc7 rfl) (by decide) (by decide)
    refine lv_if_ne (tgt := 12) hx hb dX12_would_5 (by decide) (fun _ => ?_) (fun c => absurd c (d_ne bc_1 bc_0 (by decide)))
    refine lv_aload_n hx hb dX12_would_12 rfl (lv_at hl 0 rfl) ?_
    refine kq_v hw hS hA (va_runV (As := []) (rest := []) ⟨hx, hb, hml, hown, hT⟩ (cX12_copies_0 l G cy ev K ln Ls hW _ hp0 ok0 qa900 kd900) (cwV 0 hT (good_V tb_1769 tb_1766 tb_1768 tb_81 tb_122) rfl rfl rfl (by decide +kernel) ⟨Nat.le_of_ble_eq_true rfl, Nat.le_of_ble_eq_true rfl⟩) (pool_preV (ci := 12) hK hE hS hA hw hW kd900 (by decide) rfl) rfl rfl hl.1 rfl (lv_room (Nat.le_of_ble_eq_true rfl)) dX12_would_13 ⟨Nat.le_of_ble_eq_true rfl, Nat.le_of_ble_eq_true rfl⟩) (fun hp10 H locs hq13 hw hS => ?_)
    obtain ⟨ok11, F12⟩ := hq13
    have hw : PW G cy K ln Ls A hp10 H := hw
    refine lv_aload_n hx hb dX12_would_16 rfl (lv_at hl 0 rfl) ?_
    refine lv_iload_n hx hb dX12_would_17 rfl (lv_at hl 1 rfl) ?_
    have pd15 : LW hp10 qa900 := LW_fr ok0 kd900 (show Fr [93000] K hp0 hp10 from (Fr.tr (Fr.rf) F12 (by decide))) (by decide) pdLW
    refine kq_i hw hS hA (va_runV (As := [.int zi901]) (rest := []) ⟨hx, hb, hml, hown, hT⟩ (cX12_sayNow_0 l G cy ev K ln Ls hW _ hp10 ok11 qa900 zi901 kd900 (b_wid2 bd9 (by decide) (by decide)) pd15) (cwV 1 hT (good_V tb_1809 tb_1806 tb_1808 tb_87 tb_122) rfl rfl rfl (by decide +kernel) ⟨Nat.le_of_ble_eq_true rfl, Nat.le_of_ble_eq_true rfl⟩) (pool_preV (ci := 12) hK hE hS hA hw hW kd900 (by decide) rfl) rfl rfl hl.1 rfl (lv_room (Nat.le_of_ble_eq_true rfl)) dX12_would_18 ⟨Nat.le_of_ble_eq_true rfl, Nat.le_of_ble_eq_true rfl⟩) (fun zi20 hp16 H locs hq19 hw hS => ?_)
    obtain ⟨ok17, F18, bd21⟩ := hq19
    have hw : PW G cy K ln Ls A hp16 H := hw
    refine lv_pop hx hb dX12_would_21 rfl ?_
    refine lv_aload_n hx hb dX12_would_22 rfl (lv_at hl 0 rfl) ?_
    obtain ⟨qa23, eq22, kd24⟩ := rd_13050 ok17 kd900
    refine p_get (ci := 12) (v := .ref qa23) (C := RX12) (T := TX12) (N := 69) hx hb hT iw_X12 hown hK hw hW kd900 (by decide) rfl rfl 50 (by decide) eq22 (hT _ tb_1424) (fun _ h9 => h9) dX12_would_23 ?_
    refine lv_iconst (v := 0) hx hb dX12_would_26 (by decide) ?_
    obtain ⟨zi26, eq25⟩ := rd_93000 ok17 kd24 ((0 : Int32).toNatClampNeg)
    refine p_iald (v := zi26) hx hb hK hw hW kd24 (by decide) rfl (hW.len kd24 (n := 40) rfl (by decide)) (vp_b bc_0 (by decide) (by decide)) eq25 dX12_would_27 ?_
    rw [hQ]
    exact kz_i hx hb hr hlocks hS rfl hp16 hw ⟨ok17, (Fr.tr (Fr.tr (Fr.rf) F12 (by decide)) F18 (by decide))⟩ (Nat.le_of_ble_eq_true rfl) (Nat.le_of_ble_eq_true rfl) dX12_would_28

set_option maxRecDepth 100000 in
set_option maxHeartbeats 4000000 in
theorem cX12_nextRow_0 (l : Launch) (G : va_G) (cy : Nat → ClassId) (ev : Ew) (K ln : Nat → Nat) (Ls : List Nat) (hW : SW K ln Ls) (sz : Nat) (hp0 : Nat → Nat → Value) (ok0 : Ok K hp0) (qa900 : Nat) (kd900 : K qa900 = 13) (rp0 : (gi hp0 qa900 55) ≤ 0 ∨ (0 ≤ (ga hp0 qa900 56 0) ∧ (ga hp0 qa900 56 0) ≤ (ge hp0 qa900 28 18) - 1)) (rp1 : (gi hp0 qa900 55) ≤ 1 ∨ (0 ≤ (ga hp0 qa900 56 1) ∧ (ga hp0 qa900 56 1) ≤ (ge hp0 qa900 28 18) - 1)) (rp2 : (gi hp0 qa900 55) ≤ 2 ∨ (0 ≤ (ga hp0 qa900 56 2) ∧ (ga hp0 qa900 56 2) ≤ (ge hp0 qa900 28 18) - 1)) (rp3 : (gi hp0 qa900 55) ≤ 3 ∨ (0 ≤ (ga hp0 qa900 56 3) ∧ (ga hp0 qa900 56 3) ≤ (ge hp0 qa900 28 18) - 1)) (rp4 : 1 ≤ (gi hp0 qa900 55)) (rp5 : (gi hp0 qa900 55) ≤ 4) : Met l yX12_nextRow (WS yX12_nextRow cX12_nextRow 2 (some .boolean)) { frames := 0, cells := 0, slots := 0, locals := 0 } (PB2 [.ref qa900] sz G cy ev (va_pl Ls (cellOf cy K ln hp0))) (QBi (S := (Nat → Nat → Value)) (fun (r : Int32) (u : (Nat → Nat → Value)) => Ok K u ∧ Fr [95000] K hp0 u ∧ ((0 : Int) ≤ r.toInt ∧ r.toInt ≤ 1) ∧ (r = 1 → (gi u qa900 55) ≤ 0 ∨ (0 ≤ (ga u qa900 56 0) ∧ (ga u qa900 56 0) ≤ (ge u qa900 28 18) - 1)) ∧ (r = 1 → (gi u qa900 55) ≤ 1 ∨ (0 ≤ (ga u qa900 56 1) ∧ (ga u qa900 56 1) ≤ (ge u qa900 28 18) - 1)) ∧ (r = 1 → (gi u qa900 55) ≤ 2 ∨ (0 ≤ (ga u qa900 56 2) ∧ (ga u qa900 56 2) ≤ (ge u qa900 28 18) - 1)) ∧ (r = 1 → (gi u qa900 55) ≤ 3 ∨ (0 ≤ (ga u qa900 56 3) ∧ (ga u qa900 56 3) ≤ (ge u qa900 28 18) - 1)) ∧ (r = 1 → 8000*(ga u qa900 56 0) + 400*(ga u qa900 56 1) + 20*(ga u qa900 56 2) + (ga u qa900 56 3) ≥ 8000*(ga hp0 qa900 56 0) + 400*(ga hp0 qa900 56 1) + 20*(ga hp0 qa900 56 2) + (ga hp0 qa900 56 3) + 1)) G (fun u => va_pl Ls (cellOf cy K ln u)) (va_A (va_pl Ls (cellOf cy K ln hp0)) sz)) 0 0 (va_A (va_pl Ls (cellOf cy K ln hp0)) sz) := by
  refine met_of2 (y := yX12_nextRow) (L := 2) (av := [.ref qa900]) (Qc := fun A => QBi (S := (Nat → Nat → Value)) (fun (r : Int32) (u : (Nat → Nat → Value)) => Ok K u ∧ Fr [95000] K hp0 u ∧ ((0 : Int) ≤ r.toInt ∧ r.toInt ≤ 1) ∧ (r = 1 → (gi u qa900 55) ≤ 0 ∨ (0 ≤ (ga u qa900 56 0) ∧ (ga u qa900 56 0) ≤ (ge u qa900 28 18) - 1)) ∧ (r = 1 → (gi u qa900 55) ≤ 1 ∨ (0 ≤ (ga u qa900 56 1) ∧ (ga u qa900 56 1) ≤ (ge u qa900 28 18) - 1)) ∧ (r = 1 → (gi u qa900 55) ≤ 2 ∨ (0 ≤ (ga u qa900 56 2) ∧ (ga u qa900 56 2) ≤ (ge u qa900 28 18) - 1)) ∧ (r = 1 → (gi u qa900 55) ≤ 3 ∨ (0 ≤ (ga u qa900 56 3) ∧ (ga u qa900 56 3) ≤ (ge u qa900 28 18) - 1)) ∧ (r = 1 → 8000*(ga u qa900 56 0) + 400*(ga u qa900 56 1) + 20*(ga u qa900 56 2) + (ga u qa900 56 3) ≥ 8000*(ga hp0 qa900 56 0) + 400*(ga hp0 qa900 56 1) + 20*(ga hp0 qa900 56 2) + (ga hp0 qa900 56 3) + 1)) G (fun u => va_pl Ls (cellOf cy K ln u)) A) (plainFor_of_name (by decide)) (Nat.le_of_ble_eq_true rfl) ?_
  intro p e s m below meth c hsz hx hb hr hml hown hT hlocks hin hK A hA hE hw hS ls hl
  have hw : PW G cy K ln Ls A hp0 s.heap := hw
  have hown : s.vm.findClass "LieClockModel" = some m.cls := hown
  have hl : lv_has ls 2 [(0, .ref qa900)] := hl
  obtain ⟨Q, hQ⟩ : ∃ Q : State → Prop, Q = MQ below (QBi (S := (Nat → Nat → Value)) (fun (r : Int32) (u : (Nat → Nat → Value)) => Ok K u ∧ Fr [95000] K hp0 u ∧ ((0 : Int) ≤ r.toInt ∧ r.toInt ≤ 1) ∧ (r = 1 → (gi u qa900 55) ≤ 0 ∨ (0 ≤ (ga u qa900 56 0) ∧ (ga u qa900 56 0) ≤ (ge u qa900 28 18) - 1)) ∧ (r = 1 → (gi u qa900 55) ≤ 1 ∨ (0 ≤ (ga u qa900 56 1) ∧ (ga u qa900 56 1) ≤ (ge u qa900 28 18) - 1)) ∧ (r = 1 → (gi u qa900 55) ≤ 2 ∨ (0 ≤ (ga u qa900 56 2) ∧ (ga u qa900 56 2) ≤ (ge u qa900 28 18) - 1)) ∧ (r = 1 → (gi u qa900 55) ≤ 3 ∨ (0 ≤ (ga u qa900 56 3) ∧ (ga u qa900 56 3) ≤ (ge u qa900 28 18) - 1)) ∧ (r = 1 → 8000*(ga u qa900 56 0) + 400*(ga u qa900 56 1) + 20*(ga u qa900 56 2) + (ga u qa900 56 3) ≥ 8000*(ga hp0 qa900 56 0) + 400*(ga hp0 qa900 56 1) + 20*(ga hp0 qa900 56 2) + (ga hp0 qa900 56 3) + 1)) G (fun u => va_pl Ls (cellOf cy K ln u)) A) ([.ref qa900] : List Value).toArray s 0 0 A := ⟨_, rfl⟩
  rw [← hQ]
  obtain ⟨zi2, eq1, bd3⟩ := rd_13055 ok0 kd900
  obtain ⟨qa5, eq4, kd6⟩ := rd_13056 ok0 kd900
  obtain ⟨zi8, eq7, bd9⟩ := rd_95000 ok0 kd6 ((0 : Int32).toNatClampNeg)
  obtain ⟨zi11, eq10, bd12⟩ := rd_95000 ok0 kd6 ((1 : Int32).toNatClampNeg)
  obtain ⟨zi14, eq13, bd15⟩ := rd_95000 ok0 kd6 ((2 : Int32).toNatClampNeg)
  obtain ⟨zi17, eq16, bd18⟩ := rd_95000 ok0 kd6 ((3 : Int32).toNatClampNeg)
  obtain ⟨qa20, eq19, kd21⟩ := rd_13028 ok0 kd900
  obtain ⟨zi23, eq22, bd24⟩ := rd_13018 ok0 kd900
  obtain ⟨zi26, eq25, bd27⟩ := rd_74000 ok0 kd21 ((zi23 : Int32).toNatClampNeg)
  have rq0 := rp0
  simp only [gi_of eq1, ga_of eq4 eq7, ge_of eq19 eq22 eq25] at rq0
  have rq1 := rp1
  simp only [gi_of eq1, ga_of eq4 eq10, ge_of eq19 eq22 eq25] at rq1
  have rq2 := rp2
  simp only [gi_of eq1, ga_of eq4 eq13, ge_of eq19 eq22 eq25] at rq2
  have rq3 := rp3
  simp only [gi_of eq1, ga_of eq4 eq16, ge_of eq19 eq22 eq25] at rq3
  have rq4 := rp4
  simp only [gi_of eq1] at rq4
  have rq5 := rp5
  simp only [gi_of eq1] at rq5
  have bd28 : (1 : Int) ≤ zi2.toInt ∧ zi2.toInt ≤ 4 := (by omega)
  by_cases cn29 : zi2 = 1
  · skip
    have eq33 : hp0 qa900 55 = .int 1 := Eq.trans eq1 (congrArg Value.int cn29)
    have tf34 : zi2.toInt = 1 := (congrArg Int32.toInt cn29).trans (toi bc_1)
    have bd35 : (0 : Int) ≤ zi8.toInt ∧ zi8.toInt ≤ 15 := (by omega)
    refine lv_aload_n hx hb dX12_nextRow_0 rfl (lv_at hl 0 rfl) ?_
    refine p_get (ci := 12) (v := .int 1) (C := RX12) (T := TX12) (N := 69) hx hb hT iw_X12 hown hK hw hW kd900 (by decide) rfl rfl 55 (by decide) eq33 (hT _ tb_1429) (fun _ h9 => h9) dX12_nextRow_1 ?_
    refine lv_iconst (v := 1) hx hb dX12_nextRow_4 (by decide) ?_
    refine kx_isub (v := 0) hx hb dX12_nextRow_5 (by decide) ?_
    refine lv_istore_n (lv' := [(1, .int 0), (0, .ref qa900)]) hx hb dX12_nextRow_6 rfl hl (by decide) rfl (fun ls hl => ?_)
    refine lv_iload_n hx hb dX12_nextRow_7 rfl (lv_at hl 0 rfl) ?_
    refine lv_if_lt (tgt := 44) hx hb dX12_nextRow_8 (by decide) (fun c => absurd c (d_nlt bc_0 bc_0 (by decide))) (fun _ => ?_)
    refine lv_aload_n hx hb dX12_nextRow_11 rfl (lv_at hl 1 rfl) ?_
    refine p_get (ci := 12) (v := .ref qa5) (C := RX12) (T := TX12) (N := 69) hx hb hT iw_X12 hown hK hw hW kd900 (by decide) rfl rfl 56 (by decide) eq4 (hT _ tb_1430) (fun _ h9 => h9) dX12_nextRow_12 ?_
    refine lv_iload_n hx hb dX12_nextRow_15 rfl (lv_at hl 0 rfl) ?_
    refine p_iald (v := zi8) hx hb hK hw hW kd6 (by decide) rfl (hW.len kd6 (n := 6) rfl (by decide)) (vp_b bc_0 (by decide) (by decide)) eq7 dX12_nextRow_16 ?_
    refine lv_aload_n hx hb dX12_nextRow_17 rfl (lv_at hl 1 rfl) ?_
    refine p_get (ci := 12) (v := .ref qa20) (C := RX12) (T := TX12) (N := 69) hx hb hT iw_X12 hown hK hw hW kd900 (by decide) rfl rfl 28 (by decide) eq19 (hT _ tb_1402) (fun _ h9 => h9) dX12_nextRow_18 ?_
    refine lv_aload_n hx hb dX12_nextRow_21 rfl (lv_at hl 1 rfl) ?_
    refine p_get (ci := 12) (v := .int zi23) (C := RX12) (T := TX12) (N := 69) hx hb hT iw_X12 hown hK hw hW kd900 (by decide) rfl rfl 18 (by decide) eq22 (hT _ tb_1392) (fun _ h9 => h9) dX12_nextRow_22 ?_
    refine p_iald (v := zi26) hx hb hK hw hW kd21 (by decide) rfl (hW.len kd21 (n := 2) rfl (by decide)) (vp_b bd24 (by decide) (by decide)) eq25 dX12_nextRow_25 ?_
    refine lv_iconst (v := 1) hx hb dX12_nextRow_26 (by decide) ?_
    refine lv_isub hx hb dX12_nextRow_27 (lv_topi (fun zi36 ea37 => ?_))
    have bd38 : (-1 : Int) ≤ zi36.toInt ∧ zi36.toInt ≤ 15 := b_isub ea37 bd27 bc_1 (by decide) (by decide) (by decide) (by decide)
    have qe39 : zi36.toInt = (zi26 : Int32).toInt - (1 : Int32).toInt := e_isub ea37 bd27 bc_1 (by decide) (by decide)
    have qe40 : zi36.toInt = zi26.toInt - 1 := by have ha : (1 : Int32).toInt = 1 := (by decide); rw [ha] at qe39; exact qe39
    refine lv_icmp_ne (tgt := 44) hx hb dX12_nextRow_28 (by decide) (fun cn41 => ?_) (fun cn41 => ?_)
    · skip
      have tf42 : (zi8 : Int32).toInt ≠ (zi36 : Int32).toInt := fun e => cn41 (Int32.toInt_inj.mp e)
      refine lv_iload_n hx hb dX12_nextRow_44 rfl (lv_at hl 0 rfl) ?_
      refine lv_if_ge (tgt := 50) hx hb dX12_nextRow_45 (by decide) (fun _ => ?_) (fun c => absurd (d_le bc_0 bc_0 (by decide)) c)
      refine lv_aload_n hx hb dX12_nextRow_50 rfl (lv_at hl 1 rfl) ?_
      refine p_get (ci := 12) (v := .ref qa5) (C := RX12) (T := TX12) (N := 69) hx hb hT iw_X12 hown hK hw hW kd900 (by decide) rfl rfl 56 (by decide) eq4 (hT _ tb_1430) (fun _ h9 => h9) dX12_nextRow_51 ?_
      refine lv_iload_n hx hb dX12_nextRow_54 rfl (lv_at hl 0 rfl) ?_
      refine lv_dup2_11 hx hb dX12_nextRow_55 rfl rfl ?_
      refine p_iald (v := zi8) hx hb hK hw hW kd6 (by decide) rfl (hW.len kd6 (n := 6) rfl (by decide)) (vp_b bc_0 (by decide) (by decide)) eq7 dX12_nextRow_56 ?_
      refine lv_iconst (v := 1) hx hb dX12_nextRow_57 (by decide) ?_
      refine lv_iadd hx hb dX12_nextRow_58 (lv_topi (fun zi43 ea44 => ?_))
      have bd45 : (1 : Int) ≤ zi43.toInt ∧ zi43.toInt ≤ 16 := b_iadd ea44 bd35 bc_1 (by decide) (by decide) (by decide) (by decide)
      have qe46 : zi43.toInt = (zi8 : Int32).toInt + (1 : Int32).toInt := e_iadd ea44 bd35 bc_1 (by decide) (by decide)
      have qe47 : zi43.toInt = zi8.toInt + 1 := by have ha : (1 : Int32).toInt = 1 := (by decide); rw [ha] at qe46; exact qe46
      refine p_iast (x := zi43) hx hb hK hw hS hW kd6 (by decide) rfl (hW.len kd6 (n := 6) rfl (by decide)) (vp_b bc_0 (by decide) (by decide)) dX12_nextRow_59 (fun hp48 eh49 H locs hw hS => ?_)
      have ok50 := wr_95000 bd45 (by decide) (by decide) ok0 kd6 eh49
      refine lv_iconst (v := 1) hx hb dX12_nextRow_60 (by decide) ?_
      have eq51 : hp48 qa900 55 = .int 1 := Eq.trans (up_at eh49 (Or.inl (kd_ne kd900 kd6 (by decide)))) eq33
      have eq52 : hp48 qa900 56 = .ref qa5 := Eq.trans (up_at eh49 (Or.inl (kd_ne kd900 kd6 (by decide)))) eq4
      have eq53 : hp48 qa900 28 = .ref qa20 := Eq.trans (up_at eh49 (Or.inl (kd_ne kd900 kd6 (by decide)))) eq19
      have eq54 : hp48 qa900 18 = .int zi23 := Eq.trans (up_at eh49 (Or.inl (kd_ne kd900 kd6 (by decide)))) eq22
      have eq55 : hp48 qa20 (zi23 : Int32).toNatClampNeg = .int zi26 := Eq.trans (up_at eh49 (Or.inl (kd_ne kd21 kd6 (by decide)))) eq25
      have eq56 : hp48 qa5 (1 : Int32).toNatClampNeg = .int zi11 := Eq.trans (up_at eh49 (Or.inr (by decide))) eq10
      have eq57 : hp48 qa5 (2 : Int32).toNatClampNeg = .int zi14 := Eq.trans (up_at eh49 (Or.inr (by decide))) eq13
      have eq58 : hp48 qa5 (3 : Int32).toNatClampNeg = .int zi17 := Eq.trans (up_at eh49 (Or.inr (by decide))) eq16
      rw [hQ]
      exact kz_i hx hb hr hlocks hS (nz_n bc_1 (by decide) (by decide)) hp48 hw ⟨ok50, (Fr.put (cq := 95000) (Fr.rf) eh49 kd6 (cd_a (by decide)) (by decide)), (b_wid2 bc_1 (by decide) (by decide)), (fun _ => by simp only [ga_of eq52 (hp_self eh49), ge_of eq53 eq54 eq55, gi_of eq51]; have := toi bc_1; omega), (fun _ => by simp only [ga_of eq52 eq56, ge_of eq53 eq54 eq55, gi_of eq51]; have := toi bc_1; omega), (fun _ => by simp only [ga_of eq52 eq57, ge_of eq53 eq54 eq55, gi_of eq51]; have := toi bc_1; omega), (fun _ => by simp only [ga_of eq52 eq58, ge_of eq53 eq54 eq55, gi_of eq51]; have := toi bc_1; omega), (fun _ => by simp only [ga_of eq4 eq10, ga_of eq4 eq13, ga_of eq4 eq16, ga_of eq4 eq7, ga_of eq52 (hp_self eh49), ga_of eq52 eq56, ga_of eq52 eq57, ga_of eq52 eq58]; omega)⟩ (Nat.le_of_ble_eq_true rfl) (Nat.le_of_ble_eq_true rfl) dX12_nextRow_61
    · skip
      have tf59 : zi8.toInt = zi36.toInt := congrArg Int32.toInt cn41
      have bd60 : (0 : Int) ≤ zi36.toInt ∧ zi36.toInt ≤ 15 := r_eq_x (cn41).symm bd38 bd35 (by decide) (by decide)
      have bd61 : (1 : Int) ≤ zi26.toInt ∧ zi26.toInt ≤ 16 := (by have := qe40; have := bd60; have := bd27; have := bc_1; omega)
      refine lv_aload_n hx hb dX12_nextRow_31 rfl (lv_at hl 1 rfl) ?_
      refine p_get (ci := 12) (v := .ref qa5) (C := RX12) (T := TX12) (N := 69) hx hb hT iw_X12 hown hK hw hW kd900 (by decide) rfl rfl 56 (by decide) eq4 (hT _ tb_1430) (fun _ h9 => h9) dX12_nextRow_32 ?_
      refine lv_iload_n hx hb dX12_nextRow_35 rfl (lv_at hl 0 rfl) ?_
      refine lv_iconst (v := 0) hx hb dX12_nextRow_36 (by decide) ?_
      refine p_iast (x := 0) hx hb hK hw hS hW kd6 (by decide) rfl (hW.len kd6 (n := 6) rfl (by decide)) (vp_b bc_0 (by decide) (by decide)) dX12_nextRow_37 (fun hp62 eh63 H locs hw hS => ?_)
      have ok64 := wr_95000 bc_0 (by decide) (by decide) ok0 kd6 eh63
      refine lv_iinc (v := (-1)) (lv' := [(1, .int (-1)), (0, .ref qa900)]) hx hb dX12_nextRow_38 hl (k := 0) rfl (by decide) (by decide) rfl (fun ls hl => ?_)
      refine lv_goto (tgt := 7) hx hb dX12_nextRow_41 (by decide) ?_
      refine lv_iload_n hx hb dX12_nextRow_7 rfl (lv_at hl 0 rfl) ?_
      refine lv_if_lt (tgt := 44) hx hb dX12_nextRow_8 (by decide) (fun _ => ?_) (fun c => absurd (d_lt bc_m1 bc_0 (by decide)) c)
      refine lv_iload_n hx hb dX12_nextRow_44 rfl (lv_at hl 0 rfl) ?_
      refine lv_if_ge (tgt := 50) hx hb dX12_nextRow_45 (by decide) (fun c => absurd c (d_nle bc_0 bc_m1 (by decide))) (fun _ => ?_)
      refine lv_iconst (v := 0) hx hb dX12_nextRow_48 (by decide) ?_
      rw [hQ]
      exact kz_i hx hb hr hlocks hS (nz_n bc_0 (by decide) (by decide)) hp62 hw ⟨ok64, (Fr.put (cq := 95000) (Fr.rf) eh63 kd6 (cd_a (by decide)) (by decide)), (b_wid2 bc_0 (by decide) (by decide)), (fun h => absurd h (by decide)), (fun h => absurd h (by decide)), (fun h => absurd h (by decide)), (fun h => absurd h (by decide)), (fun h => absurd h (by decide))⟩ (Nat.le_of_ble_eq_true rfl) (Nat.le_of_ble_eq_true rfl) dX12_nextRow_49
  by_cases cn30 : zi2 = 2
  · skip
    have eq65 : hp0 qa900 55 = .int 2 := Eq.trans eq1 (congrArg Value.int cn30)
    have tf66 : zi2.toInt = 2 := (congrArg Int32.toInt cn30).trans (toi bc_2)
    have bd67 : (0 : Int) ≤ zi8.toInt ∧ zi8.toInt ≤ 15 := (by omega)
    have bd68 : (0 : Int) ≤ zi11.toInt ∧ zi11.toInt ≤ 15 := (by omega)
    refine lv_aload_n hx hb dX12_nextRow_0 rfl (lv_at hl 0 rfl) ?_
    refine p_get (ci := 12) (v := .int 2) (C := RX12) (T := TX12) (N := 69) hx hb hT iw_X12 hown hK hw hW kd900 (by decide) rfl rfl 55 (by decide) eq65 (hT _ tb_1429) (fun _ h9 => h9) dX12_nextRow_1 ?_
    refine lv_iconst (v := 1) hx hb dX12_nextRow_4 (by decide) ?_
    refine kx_isub (v := 1) hx hb dX12_nextRow_5 (by decide) ?_
    refine lv_istore_n (lv' := [(1, .int 1), (0, .ref qa900)]) hx hb dX12_nextRow_6 rfl hl (by decide) rfl (fun ls hl => ?_)
    refine lv_iload_n hx hb dX12_nextRow_7 rfl (lv_at hl 0 rfl) ?_
    refine lv_if_lt (tgt := 44) hx hb dX12_nextRow_8 (by decide) (fun c => absurd c (d_nlt bc_1 bc_0 (by decide))) (fun _ => ?_)
    refine lv_aload_n hx hb dX12_nextRow_11 rfl (lv_at hl 1 rfl) ?_
    refine p_get (ci := 12) (v := .ref qa5) (C := RX12) (T := TX12) (N := 69) hx hb hT iw_X12 hown hK hw hW kd900 (by decide) rfl rfl 56 (by decide) eq4 (hT _ tb_1430) (fun _ h9 => h9) dX12_nextRow_12 ?_
    refine lv_iload_n hx hb dX12_nextRow_15 rfl (lv_at hl 0 rfl) ?_
    refine p_iald (v := zi11) hx hb hK hw hW kd6 (by decide) rfl (hW.len kd6 (n := 6) rfl (by decide)) (vp_b bc_1 (by decide) (by decide)) eq10 dX12_nextRow_16 ?_
    refine lv_aload_n hx hb dX12_nextRow_17 rfl (lv_at hl 1 rfl) ?_
    refine p_get (ci := 12) (v := .ref qa20) (C := RX12) (T := TX12) (N := 69) hx hb hT iw_X12 hown hK hw hW kd900 (by decide) rfl rfl 28 (by decide) eq19 (hT _ tb_1402) (fun _ h9 => h9) dX12_nextRow_18 ?_
    refine lv_aload_n hx hb dX12_nextRow_21 rfl (lv_at hl 1 rfl) ?_
    refine p_get (ci := 12) (v := .int zi23) (C := RX12) (T := TX12) (N := 69) hx hb hT iw_X12 hown hK hw hW kd900 (by decide) rfl rfl 18 (by decide) eq22 (hT _ tb_1392) (fun _ h9 => h9) dX12_nextRow_22 ?_
    refine p_iald (v := zi26) hx hb hK hw hW kd21 (by decide) rfl (hW.len kd21 (n := 2) rfl (by decide)) (vp_b bd24 (by decide) (by decide)) eq25 dX12_nextRow_25 ?_
    refine lv_iconst (v := 1) hx hb dX12_nextRow_26 (by decide) ?_
    refine lv_isub hx hb dX12_nextRow_27 (lv_topi (fun zi69 ea70 => ?_))
    have bd71 : (-1 : Int) ≤ zi69.toInt ∧ zi69.toInt ≤ 15 := b_isub ea70 bd27 bc_1 (by decide) (by decide) (by decide) (by decide)
    have qe72 : zi69.toInt = (zi26 : Int32).toInt - (1 : Int32).toInt := e_isub ea70 bd27 bc_1 (by decide) (by decide)
    have qe73 : zi69.toInt = zi26.toInt - 1 := by have ha : (1 : Int32).toInt = 1 := (by decide); rw [ha] at qe72; exact qe72
    refine lv_icmp_ne (tgt := 44) hx hb dX12_nextRow_28 (by decide) (fun cn74 => ?_) (fun cn74 => ?_)
    · skip
      have tf75 : (zi11 : Int32).toInt ≠ (zi69 : Int32).toInt := fun e => cn74 (Int32.toInt_inj.mp e)
      refine lv_iload_n hx hb dX12_nextRow_44 rfl (lv_at hl 0 rfl) ?_
      refine lv_if_ge (tgt := 50) hx hb dX12_nextRow_45 (by decide) (fun _ => ?_) (fun c => absurd (d_le bc_0 bc_1 (by decide)) c)
      refine lv_aload_n hx hb dX12_nextRow_50 rfl (lv_at hl 1 rfl) ?_
      refine p_get (ci := 12) (v := .ref qa5) (C := RX12) (T := TX12) (N := 69) hx hb hT iw_X12 hown hK hw hW kd900 (by decide) rfl rfl 56 (by decide) eq4 (hT _ tb_1430) (fun _ h9 => h9) dX12_nextRow_51 ?_
      refine lv_iload_n hx hb dX12_nextRow_54 rfl (lv_at hl 0 rfl) ?_
      refine lv_dup2_11 hx hb dX12_nextRow_55 rfl rfl ?_
      refine p_iald (v := zi11) hx hb hK hw hW kd6 (by decide) rfl (hW.len kd6 (n := 6) rfl (by decide)) (vp_b bc_1 (by decide) (by decide)) eq10 dX12_nextRow_56 ?_
      refine lv_iconst (v := 1) hx hb dX12_nextRow_57 (by decide) ?_
      refine lv_iadd hx hb dX12_nextRow_58 (lv_topi (fun zi76 ea77 => ?_))
      have bd78 : (1 : Int) ≤ zi76.toInt ∧ zi76.toInt ≤ 16 := b_iadd ea77 bd68 bc_1 (by decide) (by decide) (by decide) (by decide)
      have qe79 : zi76.toInt = (zi11 : Int32).toInt + (1 : Int32).toInt := e_iadd ea77 bd68 bc_1 (by decide) (by decide)
      have qe80 : zi76.toInt = zi11.toInt + 1 := by have ha : (1 : Int32).toInt = 1 := (by decide); rw [ha] at qe79; exact qe79
      refine p_iast (x := zi76) hx hb hK hw hS hW kd6 (by decide) rfl (hW.len kd6 (n := 6) rfl (by decide)) (vp_b bc_1 (by decide) (by decide)) dX12_nextRow_59 (fun hp81 eh82 H locs hw hS => ?_)
      have ok83 := wr_95000 bd78 (by decide) (by decide) ok0 kd6 eh82
      refine lv_iconst (v := 1) hx hb dX12_nextRow_60 (by decide) ?_
      have eq84 : hp81 qa900 55 = .int 2 := Eq.trans (up_at eh82 (Or.inl (kd_ne kd900 kd6 (by decide)))) eq65
      have eq85 : hp81 qa900 56 = .ref qa5 := Eq.trans (up_at eh82 (Or.inl (kd_ne kd900 kd6 (by decide)))) eq4
      have eq86 : hp81 qa5 (0 : Int32).toNatClampNeg = .int zi8 := Eq.trans (up_at eh82 (Or.inr (by decide))) eq7
      have eq87 : hp81 qa900 28 = .ref qa20 := Eq.trans (up_at eh82 (Or.inl (kd_ne kd900 kd6 (by decide)))) eq19
      have eq88 : hp81 qa900 18 = .int zi23 := Eq.trans (up_at eh82 (Or.inl (kd_ne kd900 kd6 (by decide)))) eq22
      have eq89 : hp81 qa20 (zi23 : Int32).toNatClampNeg = .int zi26 := Eq.trans (up_at eh82 (Or.inl (kd_ne kd21 kd6 (by decide)))) eq25
      have eq90 : hp81 qa5 (2 : Int32).toNatClampNeg = .int zi14 := Eq.trans (up_at eh82 (Or.inr (by decide))) eq13
      have eq91 : hp81 qa5 (3 : Int32).toNatClampNeg = .int zi17 := Eq.trans (up_at eh82 (Or.inr (by decide))) eq16
      rw [hQ]
      exact kz_i hx hb hr hlocks hS (nz_n bc_1 (by decide) (by decide)) hp81 hw ⟨ok83, (Fr.put (cq := 95000) (Fr.rf) eh82 kd6 (cd_a (by decide)) (by decide)), (b_wid2 bc_1 (by decide) (by decide)), (fun _ => by simp only [ga_of eq85 eq86, ge_of eq87 eq88 eq89, gi_of eq84]; have := toi bc_2; omega), (fun _ => by simp only [ga_of eq85 (hp_self eh82), ge_of eq87 eq88 eq89, gi_of eq84]; have := toi bc_2; omega), (fun _ => by simp only [ga_of eq85 eq90, ge_of eq87 eq88 eq89, gi_of eq84]; have := toi bc_2; omega), (fun _ => by simp only [ga_of eq85 eq91, ge_of eq87 eq88 eq89, gi_of eq84]; have := toi bc_2; omega), (fun _ => by simp only [ga_of eq4 eq10, ga_of eq4 eq13, ga_of eq4 eq16, ga_of eq4 eq7, ga_of eq85 (hp_self eh82), ga_of eq85 eq86, ga_of eq85 eq90, ga_of eq85 eq91]; omega)⟩ (Nat.le_of_ble_eq_true rfl) (Nat.le_of_ble_eq_true rfl) dX12_nextRow_61
    · skip
      have tf92 : zi11.toInt = zi69.toInt := congrArg Int32.toInt cn74
      have bd93 : (0 : Int) ≤ zi69.toInt ∧ zi69.toInt ≤ 15 := r_eq_x (cn74).symm bd71 bd68 (by decide) (by decide)
      have bd94 : (1 : Int) ≤ zi26.toInt ∧ zi26.toInt ≤ 16 := (by have := qe73; have := bd93; have := bd27; have := bc_1; omega)
      refine lv_aload_n hx hb dX12_nextRow_31 rfl (lv_at hl 1 rfl) ?_
      refine p_get (ci := 12) (v := .ref qa5) (C := RX12) (T := TX12) (N := 69) hx hb hT iw_X12 hown hK hw hW kd900 (by decide) rfl rfl 56 (by decide) eq4 (hT _ tb_1430) (fun _ h9 => h9) dX12_nextRow_32 ?_
      refine lv_iload_n hx hb dX12_nextRow_35 rfl (lv_at hl 0 rfl) ?_
      refine lv_iconst (v := 0) hx hb dX12_nextRow_36 (by decide) ?_
      refine p_iast (x := 0) hx hb hK hw hS hW kd6 (by decide) rfl (hW.len kd6 (n := 6) rfl (by decide)) (vp_b bc_1 (by decide) (by decide)) dX12_nextRow_37 (fun hp95 eh96 H locs hw hS => ?_)
      have ok97 := wr_95000 bc_0 (by decide) (by decide) ok0 kd6 eh96
      refine lv_iinc (v := 0) (lv' := [(1, .int 0), (0, .ref qa900)]) hx hb dX12_nextRow_38 hl (k := 0) rfl (by decide) (by decide) rfl (fun ls hl => ?_)
      refine lv_goto (tgt := 7) hx hb dX12_nextRow_41 (by decide) ?_
      refine lv_iload_n hx hb dX12_nextRow_7 rfl (lv_at hl 0 rfl) ?_
      refine lv_if_lt (tgt := 44) hx hb dX12_nextRow_8 (by decide) (fun c => absurd c (d_nlt bc_0 bc_0 (by decide))) (fun _ => ?_)
      refine lv_aload_n hx hb dX12_nextRow_11 rfl (lv_at hl 1 rfl) ?_
      have eq98 : hp95 qa900 56 = .ref qa5 := Eq.trans (up_at eh96 (Or.inl (kd_ne kd900 kd6 (by decide)))) eq4
      refine p_get (ci := 12) (v := .ref qa5) (C := RX12) (T := TX12) (N := 69) hx hb hT iw_X12 hown hK hw hW kd900 (by decide) rfl rfl 56 (by decide) eq98 (hT _ tb_1430) (fun _ h9 => h9) dX12_nextRow_12 ?_
      refine lv_iload_n hx hb dX12_nextRow_15 rfl (lv_at hl 0 rfl) ?_
      have eq99 : hp95 qa5 (0 : Int32).toNatClampNeg = .int zi8 := Eq.trans (up_at eh96 (Or.inr (by decide))) eq7
      refine p_iald (v := zi8) hx hb hK hw hW kd6 (by decide) rfl (hW.len kd6 (n := 6) rfl (by decide)) (vp_b bc_0 (by decide) (by decide)) eq99 dX12_nextRow_16 ?_
      refine lv_aload_n hx hb dX12_nextRow_17 rfl (lv_at hl 1 rfl) ?_
      have eq100 : hp95 qa900 28 = .ref qa20 := Eq.trans (up_at eh96 (Or.inl (kd_ne kd900 kd6 (by decide)))) eq19
      refine p_get (ci := 12) (v := .ref qa20) (C := RX12) (T := TX12) (N := 69) hx hb hT iw_X12 hown hK hw hW kd900 (by decide) rfl rfl 28 (by decide) eq100 (hT _ tb_1402) (fun _ h9 => h9) dX12_nextRow_18 ?_
      refine lv_aload_n hx hb dX12_nextRow_21 rfl (lv_at hl 1 rfl) ?_
      have eq101 : hp95 qa900 18 = .int zi23 := Eq.trans (up_at eh96 (Or.inl (kd_ne kd900 kd6 (by decide)))) eq22
      refine p_get (ci := 12) (v := .int zi23) (C := RX12) (T := TX12) (N := 69) hx hb hT iw_X12 hown hK hw hW kd900 (by decide) rfl rfl 18 (by decide) eq101 (hT _ tb_1392) (fun _ h9 => h9) dX12_nextRow_22 ?_
      have eq102 : hp95 qa20 (zi23 : Int32).toNatClampNeg = .int zi26 := Eq.trans (up_at eh96 (Or.inl (kd_ne kd21 kd6 (by decide)))) eq25
      refine p_iald (v := zi26) hx hb hK hw hW kd21 (by decide) rfl (hW.len kd21 (n := 2) rfl (by decide)) (vp_b bd24 (by decide) (by decide)) eq102 dX12_nextRow_25 ?_
      refine lv_iconst (v := 1) hx hb dX12_nextRow_26 (by decide) ?_
      refine lv_isub hx hb dX12_nextRow_27 (lv_topi (fun zi103 ea104 => ?_))
      have bd105 : (0 : Int) ≤ zi103.toInt ∧ zi103.toInt ≤ 15 := b_isub ea104 bd94 bc_1 (by decide) (by decide) (by decide) (by decide)
      have qe106 : zi103.toInt = (zi26 : Int32).toInt - (1 : Int32).toInt := e_isub ea104 bd94 bc_1 (by decide) (by decide)
      have qe107 : zi103.toInt = zi26.toInt - 1 := by have ha : (1 : Int32).toInt = 1 := (by decide); rw [ha] at qe106; exact qe106
      have eq109 : hp95 qa900 55 = .int 2 := Eq.trans (up_at eh96 (Or.inl (kd_ne kd900 kd6 (by decide)))) eq65
      have eq110 : hp95 qa5 (2 : Int32).toNatClampNeg = .int zi14 := Eq.trans (up_at eh96 (Or.inr (by decide))) eq13
      have eq111 : hp95 qa5 (3 : Int32).toNatClampNeg = .int zi17 := Eq.trans (up_at eh96 (Or.inr (by decide))) eq16
      refine lv_icmp_ne (tgt := 44) hx hb dX12_nextRow_28 (by decide) (fun cn108 => ?_) (fun cn108 => ?_)
      · skip
        have tf112 : (zi8 : Int32).toInt ≠ (zi103 : Int32).toInt := fun e => cn108 (Int32.toInt_inj.mp e)
        refine lv_iload_n hx hb dX12_nextRow_44 rfl (lv_at hl 0 rfl) ?_
        refine lv_if_ge (tgt := 50) hx hb dX12_nextRow_45 (by decide) (fun _ => ?_) (fun c => absurd (d_le bc_0 bc_0 (by decide)) c)
        refine lv_aload_n hx hb dX12_nextRow_50 rfl (lv_at hl 1 rfl) ?_
        refine p_get (ci := 12) (v := .ref qa5) (C := RX12) (T := TX12) (N := 69) hx hb hT iw_X12 hown hK hw hW kd900 (by decide) rfl rfl 56 (by decide) eq98 (hT _ tb_1430) (fun _ h9 => h9) dX12_nextRow_51 ?_
        refine lv_iload_n hx hb dX12_nextRow_54 rfl (lv_at hl 0 rfl) ?_
        refine lv_dup2_11 hx hb dX12_nextRow_55 rfl rfl ?_
        refine p_iald (v := zi8) hx hb hK hw hW kd6 (by decide) rfl (hW.len kd6 (n := 6) rfl (by decide)) (vp_b bc_0 (by decide) (by decide)) eq99 dX12_nextRow_56 ?_
        refine lv_iconst (v := 1) hx hb dX12_nextRow_57 (by decide) ?_
        refine lv_iadd hx hb dX12_nextRow_58 (lv_topi (fun zi113 ea114 => ?_))
        have bd115 : (1 : Int) ≤ zi113.toInt ∧ zi113.toInt ≤ 16 := b_iadd ea114 bd67 bc_1 (by decide) (by decide) (by decide) (by decide)
        have qe116 : zi113.toInt = (zi8 : Int32).toInt + (1 : Int32).toInt := e_iadd ea114 bd67 bc_1 (by decide) (by decide)
        have qe117 : zi113.toInt = zi8.toInt + 1 := by have ha : (1 : Int32).toInt = 1 := (by decide); rw [ha] at qe116; exact qe116
        refine p_iast (x := zi113) hx hb hK hw hS hW kd6 (by decide) rfl (hW.len kd6 (n := 6) rfl (by decide)) (vp_b bc_0 (by decide) (by decide)) dX12_nextRow_59 (fun hp118 eh119 H locs hw hS => ?_)
        have ok120 := wr_95000 bd115 (by decide) (by decide) ok97 kd6 eh119
        refine lv_iconst (v := 1) hx hb dX12_nextRow_60 (by decide) ?_
        have eq121 : hp118 qa900 55 = .int 2 := Eq.trans (up_at eh119 (Or.inl (kd_ne kd900 kd6 (by decide)))) eq109
        have eq122 : hp118 qa900 56 = .ref qa5 := Eq.trans (up_at eh119 (Or.inl (kd_ne kd900 kd6 (by decide)))) eq98
        have eq123 : hp118 qa900 28 = .ref qa20 := Eq.trans (up_at eh119 (Or.inl (kd_ne kd900 kd6 (by decide)))) eq100
        have eq124 : hp118 qa900 18 = .int zi23 := Eq.trans (up_at eh119 (Or.inl (kd_ne kd900 kd6 (by decide)))) eq101
        have eq125 : hp118 qa20 (zi23 : Int32).toNatClampNeg = .int zi26 := Eq.trans (up_at eh119 (Or.inl (kd_ne kd21 kd6 (by decide)))) eq102
        have eq126 : hp118 qa5 (1 : Int32).toNatClampNeg = .int 0 := Eq.trans (up_at eh119 (Or.inr (by decide))) (hp_self eh96)
        have eq127 : hp118 qa5 (2 : Int32).toNatClampNeg = .int zi14 := Eq.trans (up_at eh119 (Or.inr (by decide))) eq110
        have eq128 : hp118 qa5 (3 : Int32).toNatClampNeg = .int zi17 := Eq.trans (up_at eh119 (Or.inr (by decide))) eq111
        rw [hQ]
        exact kz_i hx hb hr hlocks hS (nz_n bc_1 (by decide) (by decide)) hp118 hw ⟨ok120, (Fr.put (cq := 95000) (Fr.put (cq := 95000) (Fr.rf) eh96 kd6 (cd_a (by decide)) (by decide)) eh119 kd6 (cd_a (by decide)) (by decide)), (b_wid2 bc_1 (by decide) (by decide)), (fun _ => by simp only [ga_of eq122 (hp_self eh119), ge_of eq123 eq124 eq125, gi_of eq121]; have := toi bc_2; omega), (fun _ => by simp only [ga_of eq122 eq126, ge_of eq123 eq124 eq125, gi_of eq121]; have := toi bc_0; have := toi bc_2; omega), (fun _ => by simp only [ga_of eq122 eq127, ge_of eq123 eq124 eq125, gi_of eq121]; have := toi bc_2; omega), (fun _ => by simp only [ga_of eq122 eq128, ge_of eq123 eq124 eq125, gi_of eq121]; have := toi bc_2; omega), (fun _ => by simp only [ga_of eq122 (hp_self eh119), ga_of eq122 eq126, ga_of eq122 eq127, ga_of eq122 eq128, ga_of eq4 eq10, ga_of eq4 eq13, ga_of eq4 eq16, ga_of eq4 eq7]; have := toi bc_0; omega)⟩ (Nat.le_of_ble_eq_true rfl) (Nat.le_of_ble_eq_true rfl) dX12_nextRow_61
      · skip
        have tf129 : zi8.toInt = zi103.toInt := congrArg Int32.toInt cn108
        refine lv_aload_n hx hb dX12_nextRow_31 rfl (lv_at hl 1 rfl) ?_
        refine p_get (ci := 12) (v := .ref qa5) (C := RX12) (T := TX12) (N := 69) hx hb hT iw_X12 hown hK hw hW kd900 (by decide) rfl rfl 56 (by decide) eq98 (hT _ tb_1430) (fun _ h9 => h9) dX12_nextRow_32 ?_
        refine lv_iload_n hx hb dX12_nextRow_35 rfl (lv_at hl 0 rfl) ?_
        refine lv_iconst (v := 0) hx hb dX12_nextRow_36 (by decide) ?_
        refine p_iast (x := 0) hx hb hK hw hS hW kd6 (by decide) rfl (hW.len kd6 (n := 6) rfl (by decide)) (vp_b bc_0 (by decide) (by decide)) dX12_nextRow_37 (fun hp130 eh131 H locs hw hS => ?_)
        have ok132 := wr_95000 bc_0 (by decide) (by decide) ok97 kd6 eh131
        refine lv_iinc (v := (-1)) (lv' := [(1, .int (-1)), (0, .ref qa900)]) hx hb dX12_nextRow_38 hl (k := 0) rfl (by decide) (by decide) rfl (fun ls hl => ?_)
        refine lv_goto (tgt := 7) hx hb dX12_nextRow_41 (by decide) ?_
        refine lv_iload_n hx hb dX12_nextRow_7 rfl (lv_at hl 0 rfl) ?_
        refine lv_if_lt (tgt := 44) hx hb dX12_nextRow_8 (by decide) (fun _ => ?_) (fun c => absurd (d_lt bc_m1 bc_0 (by decide)) c)
        refine lv_iload_n hx hb dX12_nextRow_44 rfl (lv_at hl 0 rfl) ?_
        refine lv_if_ge (tgt := 50) hx hb dX12_nextRow_45 (by decide) (fun c => absurd c (d_nle bc_0 bc_m1 (by decide))) (fun _ => ?_)
        refine lv_iconst (v := 0) hx hb dX12_nextRow_48 (by decide) ?_
        rw [hQ]
        exact kz_i hx hb hr hlocks hS (nz_n bc_0 (by decide) (by decide)) hp130 hw ⟨ok132, (Fr.put (cq := 95000) (Fr.put (cq := 95000) (Fr.rf) eh96 kd6 (cd_a (by decide)) (by decide)) eh131 kd6 (cd_a (by decide)) (by decide)), (b_wid2 bc_0 (by decide) (by decide)), (fun h => absurd h (by decide)), (fun h => absurd h (by decide)), (fun h => absurd h (by decide)), (fun h => absurd h (by decide)), (fun h => absurd h (by decide))⟩ (Nat.le_of_ble_eq_true rfl) (Nat.le_of_ble_eq_true rfl) dX12_nextRow_49
  by_cases cn31 : zi2 = 3
  · skip
    have eq133 : hp0 qa900 55 = .int 3 := Eq.trans eq1 (congrArg Value.int cn31)
    have tf134 : zi2.toInt = 3 := (congrArg Int32.toInt cn31).trans (toi bc_3)
    have bd135 : (0 : Int) ≤ zi8.toInt ∧ zi8.toInt ≤ 15 := (by omega)
    have bd136 : (0 : Int) ≤ zi11.toInt ∧ zi11.toInt ≤ 15 := (by omega)
    have bd137 : (0 : Int) ≤ zi14.toInt ∧ zi14.toInt ≤ 15 := (by omega)
    refine lv_aload_n hx hb dX12_nextRow_0 rfl (lv_at hl 0 rfl) ?_
    refine p_get (ci := 12) (v := .int 3) (C := RX12) (T := TX12) (N := 69) hx hb hT iw_X12 hown hK hw hW kd900 (by decide) rfl rfl 55 (by decide) eq133 (hT _ tb_1429) (fun _ h9 => h9) dX12_nextRow_1 ?_
    refine lv_iconst (v := 1) hx hb dX12_nextRow_4 (by decide) ?_
    refine kx_isub (v := 2) hx hb dX12_nextRow_5 (by decide) ?_
    refine lv_istore_n (lv' := [(1, .int 2), (0, .ref qa900)]) hx hb dX12_nextRow_6 rfl hl (by decide) rfl (fun ls hl => ?_)
    refine lv_iload_n hx hb dX12_nextRow_7 rfl (lv_at hl 0 rfl) ?_
    refine lv_if_lt (tgt := 44) hx hb dX12_nextRow_8 (by decide) (fun c => absurd c (d_nlt bc_2 bc_0 (by decide))) (fun _ => ?_)
    refine lv_aload_n hx hb dX12_nextRow_11 rfl (lv_at hl 1 rfl) ?_
    refine p_get (ci := 12) (v := .ref qa5) (C := RX12) (T := TX12) (N := 69) hx hb hT iw_X12 hown hK hw hW kd900 (by decide) rfl rfl 56 (by decide) eq4 (hT _ tb_1430) (fun _ h9 => h9) dX12_nextRow_12 ?_
    refine lv_iload_n hx hb dX12_nextRow_15 rfl (lv_at hl 0 rfl) ?_
    refine p_iald (v := zi14) hx hb hK hw hW kd6 (by decide) rfl (hW.len kd6 (n := 6) rfl (by decide)) (vp_b bc_2 (by decide) (by decide)) eq13 dX12_nextRow_16 ?_
    refine lv_aload_n hx hb dX12_nextRow_17 rfl (lv_at hl 1 rfl) ?_
    refine p_get (ci := 12) (v := .ref qa20) (C := RX12) (T := TX12) (N := 69) hx hb hT iw_X12 hown hK hw hW kd900 (by decide) rfl rfl 28 (by decide) eq19 (hT _ tb_1402) (fun _ h9 => h9) dX12_nextRow_18 ?_
    refine lv_aload_n hx hb dX12_nextRow_21 rfl (lv_at hl 1 rfl) ?_
    refine p_get (ci := 12) (v := .int zi23) (C := RX12) (T := TX12) (N := 69) hx hb hT iw_X12 hown hK hw hW kd900 (by decide) rfl rfl 18 (by decide) eq22 (hT _ tb_1392) (fun _ h9 => h9) dX12_nextRow_22 ?_
    refine p_iald (v := zi26) hx hb hK hw hW kd21 (by decide) rfl (hW.len kd21 (n := 2) rfl (by decide)) (vp_b bd24 (by decide) (by decide)) eq25 dX12_nextRow_25 ?_
    refine lv_iconst (v := 1) hx hb dX12_nextRow_26 (by decide) ?_
    refine lv_isub hx hb dX12_nextRow_27 (lv_topi (fun zi138 ea139 => ?_))
    have bd140 : (-1 : Int) ≤ zi138.toInt ∧ zi138.toInt ≤ 15 := b_isub ea139 bd27 bc_1 (by decide) (by decide) (by decide) (by decide)
    have qe141 : zi138.toInt = (zi26 : Int32).toInt - (1 : Int32).toInt := e_isub ea139 bd27 bc_1 (by decide) (by decide)
    have qe142 : zi138.toInt = zi26.toInt - 1 := by have ha : (1 : Int32).toInt = 1 := (by decide); rw [ha] at qe141; exact qe141
    refine lv_icmp_ne (tgt := 44) hx hb dX12_nextRow_28 (by decide) (fun cn143 => ?_) (fun cn143 => ?_)
    · skip
      have tf144 : (zi14 : Int32).toInt ≠ (zi138 : Int32).toInt := fun e => cn143 (Int32.toInt_inj.mp e)
      refine lv_iload_n hx hb dX12_nextRow_44 rfl (lv_at hl 0 rfl) ?_
      refine lv_if_ge (tgt := 50) hx hb dX12_nextRow_45 (by decide) (fun _ => ?_) (fun c => absurd (d_le bc_0 bc_2 (by decide)) c)
      refine lv_aload_n hx hb dX12_nextRow_50 rfl (lv_at hl 1 rfl) ?_
      refine p_get (ci := 12) (v := .ref qa5) (C := RX12) (T := TX12) (N := 69) hx hb hT iw_X12 hown hK hw hW kd900 (by decide) rfl rfl 56 (by decide) eq4 (hT _ tb_1430) (fun _ h9 => h9) dX12_nextRow_51 ?_
      refine lv_iload_n hx hb dX12_nextRow_54 rfl (lv_at hl 0 rfl) ?_
      refine lv_dup2_11 hx hb dX12_nextRow_55 rfl rfl ?_
      refine p_iald (v := zi14) hx hb hK hw hW kd6 (by decide) rfl (hW.len kd6 (n := 6) rfl (by decide)) (vp_b bc_2 (by decide) (by decide)) eq13 dX12_nextRow_56 ?_
      refine lv_iconst (v := 1) hx hb dX12_nextRow_57 (by decide) ?_
      refine lv_iadd hx hb dX12_nextRow_58 (lv_topi (fun zi145 ea146 => ?_))
      have bd147 : (1 : Int) ≤ zi145.toInt ∧ zi145.toInt ≤ 16 := b_iadd ea146 bd137 bc_1 (by decide) (by decide) (by decide) (by decide)
      have qe148 : zi145.toInt = (zi14 : Int32).toInt + (1 : Int32).toInt := e_iadd ea146 bd137 bc_1 (by decide) (by decide)
      have qe149 : zi145.toInt = zi14.toInt + 1 := by have ha : (1 : Int32).toInt = 1 := (by decide); rw [ha] at qe148; exact qe148
      refine p_iast (x := zi145) hx hb hK hw hS hW kd6 (by decide) rfl (hW.len kd6 (n := 6) rfl (by decide)) (vp_b bc_2 (by decide) (by decide)) dX12_nextRow_59 (fun hp150 eh151 H locs hw hS => ?_)
      have ok152 := wr_95000 bd147 (by decide) (by decide) ok0 kd6 eh151
      refine lv_iconst (v := 1) hx hb dX12_nextRow_60 (by decide) ?_
      have eq153 : hp150 qa900 55 = .int 3 := Eq.trans (up_at eh151 (Or.inl (kd_ne kd900 kd6 (by decide)))) eq133
      have eq154 : hp150 qa900 56 = .ref qa5 := Eq.trans (up_at eh151 (Or.inl (kd_ne kd900 kd6 (by decide)))) eq4
      have eq155 : hp150 qa5 (0 : Int32).toNatClampNeg = .int zi8 := Eq.trans (up_at eh151 (Or.inr (by decide))) eq7
      have eq156 : hp150 qa900 28 = .ref qa20 := Eq.trans (up_at eh151 (Or.inl (kd_ne kd900 kd6 (by decide)))) eq19
      have eq157 : hp150 qa900 18 = .int zi23 := Eq.trans (up_at eh151 (Or.inl (kd_ne kd900 kd6 (by decide)))) eq22
      have eq158 : hp150 qa20 (zi23 : Int32).toNatClampNeg = .int zi26 := Eq.trans (up_at eh151 (Or.inl (kd_ne kd21 kd6 (by decide)))) eq25
      have eq159 : hp150 qa5 (1 : Int32).toNatClampNeg = .int zi11 := Eq.trans (up_at eh151 (Or.inr (by decide))) eq10
      have eq160 : hp150 qa5 (3 : Int32).toNatClampNeg = .int zi17 := Eq.trans (up_at eh151 (Or.inr (by decide))) eq16
      rw [hQ]
      exact kz_i hx hb hr hlocks hS (nz_n bc_1 (by decide) (by decide)) hp150 hw ⟨ok152, (Fr.put (cq := 95000) (Fr.rf) eh151 kd6 (cd_a (by decide)) (by decide)), (b_wid2 bc_1 (by decide) (by decide)), (fun _ => by simp only [ga_of eq154 eq155, ge_of eq156 eq157 eq158, gi_of eq153]; have := toi bc_3; omega), (fun _ => by simp only [ga_of eq154 eq159, ge_of eq156 eq157 eq158, gi_of eq153]; have := toi bc_3; omega), (fun _ => by simp only [ga_of eq154 (hp_self eh151), ge_of eq156 eq157 eq158, gi_of eq153]; have := toi bc_3; omega), (fun _ => by simp only [ga_of eq154 eq160, ge_of eq156 eq157 eq158, gi_of eq153]; have := toi bc_3; omega), (fun _ => by simp only [ga_of eq154 (hp_self eh151), ga_of eq154 eq155, ga_of eq154 eq159, ga_of eq154 eq160, ga_of eq4 eq10, ga_of eq4 eq13, ga_of eq4 eq16, ga_of eq4 eq7]; omega)⟩ (Nat.le_of_ble_eq_true rfl) (Nat.le_of_ble_eq_true rfl) dX12_nextRow_61
    · skip
      have tf161 : zi14.toInt = zi138.toInt := congrArg Int32.toInt cn143
      have bd162 : (0 : Int) ≤ zi138.toInt ∧ zi138.toInt ≤ 15 := r_eq_x (cn143).symm bd140 bd137 (by decide) (by decide)
      have bd163 : (1 : Int) ≤ zi26.toInt ∧ zi26.toInt ≤ 16 := (by have := qe142; have := bd162; have := bd27; have := bc_1; omega)
      refine lv_aload_n hx hb dX12_nextRow_31 rfl (lv_at hl 1 rfl) ?_
      refine p_get (ci := 12) (v := .ref qa5) (C := RX12) (T := TX12) (N := 69) hx hb hT iw_X12 hown hK hw hW kd900 (by decide) rfl rfl 56 (by decide) eq4 (hT _ tb_1430) (fun _ h9 => h9) dX12_nextRow_32 ?_
      refine lv_iload_n hx hb dX12_nextRow_35 rfl (lv_at hl 0 rfl) ?_
      refine lv_iconst (v := 0) hx hb dX12_nextRow_36 (by decide) ?_
      refine p_iast (x := 0) hx hb hK hw hS hW kd6 (by decide) rfl (hW.len kd6 (n := 6) rfl (by decide)) (vp_b bc_2 (by decide) (by decide)) dX12_nextRow_37 (fun hp164 eh165 H locs hw hS => ?_)
      have ok166 := wr_95000 bc_0 (by decide) (by decide) ok0 kd6 eh165
      refine lv_iinc (v := 1) (lv' := [(1, .int 1), (0, .ref qa900)]) hx hb dX12_nextRow_38 hl (k := 0) rfl (by decide) (by decide) rfl (fun ls hl => ?_)
      refine lv_goto (tgt := 7) hx hb dX12_nextRow_41 (by decide) ?_
      refine lv_iload_n hx hb dX12_nextRow_7 rfl (lv_at hl 0 rfl) ?_
      refine lv_if_lt (tgt := 44) hx hb dX12_nextRow_8 (by decide) (fun c => absurd c (d_nlt bc_1 bc_0 (by decide))) (fun _ => ?_)
      refine lv_aload_n hx hb dX12_nextRow_11 rfl (lv_at hl 1 rfl) ?_
      have eq167 : hp164 qa900 56 = .ref qa5 := Eq.trans (up_at eh165 (Or.inl (kd_ne kd900 kd6 (by decide)))) eq4
      refine p_get (ci := 12) (v := .ref qa5) (C := RX12) (T := TX12) (N := 69) hx hb hT iw_X12 hown hK hw hW kd900 (by decide) rfl rfl 56 (by decide) eq167 (hT _ tb_1430) (fun _ h9 => h9) dX12_nextRow_12 ?_
      refine lv_iload_n hx hb dX12_nextRow_15 rfl (lv_at hl 0 rfl) ?_
      have eq168 : hp164 qa5 (1 : Int32).toNatClampNeg = .int zi11 := Eq.trans (up_at eh165 (Or.inr (by decide))) eq10
      refine p_iald (v := zi11) hx hb hK hw hW kd6 (by decide) rfl (hW.len kd6 (n := 6) rfl (by decide)) (vp_b bc_1 (by decide) (by decide)) eq168 dX12_nextRow_16 ?_
      refine lv_aload_n hx hb dX12_nextRow_17 rfl (lv_at hl 1 rfl) ?_
      have eq169 : hp164 qa900 28 = .ref qa20 := Eq.trans (up_at eh165 (Or.inl (kd_ne kd900 kd6 (by decide)))) eq19
      refine p_get (ci := 12) (v := .ref qa20) (C := RX12) (T := TX12) (N := 69) hx hb hT iw_X12 hown hK hw hW kd900 (by decide) rfl rfl 28 (by decide) eq169 (hT _ tb_1402) (fun _ h9 => h9) dX12_nextRow_18 ?_
      refine lv_aload_n hx hb dX12_nextRow_21 rfl (lv_at hl 1 rfl) ?_
      have eq170 : hp164 qa900 18 = .int zi23 := Eq.trans (up_at eh165 (Or.inl (kd_ne kd900 kd6 (by decide)))) eq22
      refine p_get (ci := 12) (v := .int zi23) (C := RX12) (T := TX12) (N := 69) hx hb hT iw_X12 hown hK hw hW kd900 (by decide) rfl rfl 18 (by decide) eq170 (hT _ tb_1392) (fun _ h9 => h9) dX12_nextRow_22 ?_
      have eq171 : hp164 qa20 (zi23 : Int32).toNatClampNeg = .int zi26 := Eq.trans (up_at eh165 (Or.inl (kd_ne kd21 kd6 (by decide)))) eq25
      refine p_iald (v := zi26) hx hb hK hw hW kd21 (by decide) rfl (hW.len kd21 (n := 2) rfl (by decide)) (vp_b bd24 (by decide) (by decide)) eq171 dX12_nextRow_25 ?_
      refine lv_iconst (v := 1) hx hb dX12_nextRow_26 (by decide) ?_
      refine lv_isub hx hb dX12_nextRow_27 (lv_topi (fun zi172 ea173 => ?_))
      have bd174 : (0 : Int) ≤ zi172.toInt ∧ zi172.toInt ≤ 15 := b_isub ea173 bd163 bc_1 (by decide) (by decide) (by decide) (by decide)
      have qe175 : zi172.toInt = (zi26 : Int32).toInt - (1 : Int32).toInt := e_isub ea173 bd163 bc_1 (by decide) (by decide)
      have qe176 : zi172.toInt = zi26.toInt - 1 := by have ha : (1 : Int32).toInt = 1 := (by decide); rw [ha] at qe175; exact qe175
      have eq178 : hp164 qa900 55 = .int 3 := Eq.trans (up_at eh165 (Or.inl (kd_ne kd900 kd6 (by decide)))) eq133
      have eq179 : hp164 qa5 (0 : Int32).toNatClampNeg = .int zi8 := Eq.trans (up_at eh165 (Or.inr (by decide))) eq7
      have eq180 : hp164 qa5 (3 : Int32).toNatClampNeg = .int zi17 := Eq.trans (up_at eh165 (Or.inr (by decide))) eq16
      refine lv_icmp_ne (tgt := 44) hx hb dX12_nextRow_28 (by decide) (fun cn177 => ?_) (fun cn177 => ?_)
      · skip
        have tf181 : (zi11 : Int32).toInt ≠ (zi172 : Int32).toInt := fun e => cn177 (Int32.toInt_inj.mp e)
        refine lv_iload_n hx hb dX12_nextRow_44 rfl (lv_at hl 0 rfl) ?_
        refine lv_if_ge (tgt := 50) hx hb dX12_nextRow_45 (by decide) (fun _ => ?_) (fun c => absurd (d_le bc_0 bc_1 (by decide)) c)
        refine lv_aload_n hx hb dX12_nextRow_50 rfl (lv_at hl 1 rfl) ?_
        refine p_get (ci := 12) (v := .ref qa5) (C := RX12) (T := TX12) (N := 69) hx hb hT iw_X12 hown hK hw hW kd900 (by decide) rfl rfl 56 (by decide) eq167 (hT _ tb_1430) (fun _ h9 => h9) dX12_nextRow_51 ?_
        refine lv_iload_n hx hb dX12_nextRow_54 rfl (lv_at hl 0 rfl) ?_
        refine lv_dup2_11 hx hb dX12_nextRow_55 rfl rfl ?_
        refine p_iald (v := zi11) hx hb hK hw hW kd6 (by decide) rfl (hW.len kd6 (n := 6) rfl (by decide)) (vp_b bc_1 (by decide) (by decide)) eq168 dX12_nextRow_56 ?_
        refine lv_iconst (v := 1) hx hb dX12_nextRow_57 (by decide) ?_
        refine lv_iadd hx hb dX12_nextRow_58 (lv_topi (fun zi182 ea183 => ?_))
        have bd184 : (1 : Int) ≤ zi182.toInt ∧ zi182.toInt ≤ 16 := b_iadd ea183 bd136 bc_1 (by decide) (by decide) (by decide) (by decide)
        have qe185 : zi182.toInt = (zi11 : Int32).toInt + (1 : Int32).toInt := e_iadd ea183 bd136 bc_1 (by decide) (by decide)
        have qe186 : zi182.toInt = zi11.toInt + 1 := by have ha : (1 : Int32).toInt = 1 := (by decide); rw [ha] at qe185; exact qe185
        refine p_iast (x := zi182) hx hb hK hw hS hW kd6 (by decide) rfl (hW.len kd6 (n := 6) rfl (by decide)) (vp_b bc_1 (by decide) (by decide)) dX12_nextRow_59 (fun hp187 eh188 H locs hw hS => ?_)
        have ok189 := wr_95000 bd184 (by decide) (by decide) ok166 kd6 eh188
        refine lv_iconst (v := 1) hx hb dX12_nextRow_60 (by decide) ?_
        have eq190 : hp187 qa900 55 = .int 3 := Eq.trans (up_at eh188 (Or.inl (kd_ne kd900 kd6 (by decide)))) eq178
        have eq191 : hp187 qa900 56 = .ref qa5 := Eq.trans (up_at eh188 (Or.inl (kd_ne kd900 kd6 (by decide)))) eq167
        have eq192 : hp187 qa5 (0 : Int32).toNatClampNeg = .int zi8 := Eq.trans (up_at eh188 (Or.inr (by decide))) eq179
        have eq193 : hp187 qa900 28 = .ref qa20 := Eq.trans (up_at eh188 (Or.inl (kd_ne kd900 kd6 (by decide)))) eq169
        have eq194 : hp187 qa900 18 = .int zi23 := Eq.trans (up_at eh188 (Or.inl (kd_ne kd900 kd6 (by decide)))) eq170
        have eq195 : hp187 qa20 (zi23 : Int32).toNatClampNeg = .int zi26 := Eq.trans (up_at eh188 (Or.inl (kd_ne kd21 kd6 (by decide)))) eq171
        have eq196 : hp187 qa5 (2 : Int32).toNatClampNeg = .int 0 := Eq.trans (up_at eh188 (Or.inr (by decide))) (hp_self eh165)
        have eq197 : hp187 qa5 (3 : Int32).toNatClampNeg = .int zi17 := Eq.trans (up_at eh188 (Or.inr (by decide))) eq180
        rw [hQ]
        exact kz_i hx hb hr hlocks hS (nz_n bc_1 (by decide) (by decide)) hp187 hw ⟨ok189, (Fr.put (cq := 95000) (Fr.put (cq := 95000) (Fr.rf) eh165 kd6 (cd_a (by decide)) (by decide)) eh188 kd6 (cd_a (by decide)) (by decide)), (b_wid2 bc_1 (by decide) (by decide)), (fun _ => by simp only [ga_of eq191 eq192, ge_of eq193 eq194 eq195, gi_of eq190]; have := toi bc_3; omega), (fun _ => by simp only [ga_of eq191 (hp_self eh188), ge_of eq193 eq194 eq195, gi_of eq190]; have := toi bc_3; omega), (fun _ => by simp only [ga_of eq191 eq196, ge_of eq193 eq194 eq195, gi_of eq190]; have := toi bc_0; have := toi bc_3; omega), (fun _ => by simp only [ga_of eq191 eq197, ge_of eq193 eq194 eq195, gi_of eq190]; have := toi bc_3; omega), (fun _ => by simp only [ga_of eq191 (hp_self eh188), ga_of eq191 eq192, ga_of eq191 eq196, ga_of eq191 eq197, ga_of eq4 eq10, ga_of eq4 eq13, ga_of eq4 eq16, ga_of eq4 eq7]; have := toi bc_0; omega)⟩ (Nat.le_of_ble_eq_true rfl) (Nat.le_of_ble_eq_true rfl) dX12_nextRow_61
      · skip
        have tf198 : zi11.toInt = zi172.toInt := congrArg Int32.toInt cn177
        refine lv_aload_n hx hb dX12_nextRow_31 rfl (lv_at hl 1 rfl) ?_
        refine p_get (ci := 12) (v := .ref qa5) (C := RX12) (T := TX12) (N := 69) hx hb hT iw_X12 hown hK hw hW kd900 (by decide) rfl rfl 56 (by decide) eq167 (hT _ tb_1430) (fun _ h9 => h9) dX12_nextRow_32 ?_
        refine lv_iload_n hx hb dX12_nextRow_35 rfl (lv_at hl 0 rfl) ?_
        refine lv_iconst (v := 0) hx hb dX12_nextRow_36 (by decide) ?_
        refine p_iast (x := 0) hx hb hK hw hS hW kd6 (by decide) rfl (hW.len kd6 (n := 6) rfl (by decide)) (vp_b bc_1 (by decide) (by decide)) dX12_nextRow_37 (fun hp199 eh200 H locs hw hS => ?_)
        have ok201 := wr_95000 bc_0 (by decide) (by decide) ok166 kd6 eh200
        refine lv_iinc (v := 0) (lv' := [(1, .int 0), (0, .ref qa900)]) hx hb dX12_nextRow_38 hl (k := 0) rfl (by decide) (by decide) rfl (fun ls hl => ?_)
        refine lv_goto (tgt := 7) hx hb dX12_nextRow_41 (by decide) ?_
        refine lv_iload_n hx hb dX12_nextRow_7 rfl (lv_at hl 0 rfl) ?_
        refine lv_if_lt (tgt := 44) hx hb dX12_nextRow_8 (by decide) (fun c => absurd c (d_nlt bc_0 bc_0 (by decide))) (fun _ => ?_)
        refine lv_aload_n hx hb dX12_nextRow_11 rfl (lv_at hl 1 rfl) ?_
        have eq202 : hp199 qa900 56 = .ref qa5 := Eq.trans (up_at eh200 (Or.inl (kd_ne kd900 kd6 (by decide)))) eq167
        refine p_get (ci := 12) (v := .ref qa5) (C := RX12) (T := TX12) (N := 69) hx hb hT iw_X12 hown hK hw hW kd900 (by decide) rfl rfl 56 (by decide) eq202 (hT _ tb_1430) (fun _ h9 => h9) dX12_nextRow_12 ?_
        refine lv_iload_n hx hb dX12_nextRow_15 rfl (lv_at hl 0 rfl) ?_
        have eq203 : hp199 qa5 (0 : Int32).toNatClampNeg = .int zi8 := Eq.trans (up_at eh200 (Or.inr (by decide))) eq179
        refine p_iald (v := zi8) hx hb hK hw hW kd6 (by decide) rfl (hW.len kd6 (n := 6) rfl (by decide)) (vp_b bc_0 (by decide) (by decide)) eq203 dX12_nextRow_16 ?_
        refine lv_aload_n hx hb dX12_nextRow_17 rfl (lv_at hl 1 rfl) ?_
        have eq204 : hp199 qa900 28 = .ref qa20 := Eq.trans (up_at eh200 (Or.inl (kd_ne kd900 kd6 (by decide)))) eq169
        refine p_get (ci := 12) (v := .ref qa20) (C := RX12) (T := TX12) (N := 69) hx hb hT iw_X12 hown hK hw hW kd900 (by decide) rfl rfl 28 (by decide) eq204 (hT _ tb_1402) (fun _ h9 => h9) dX12_nextRow_18 ?_
        refine lv_aload_n hx hb dX12_nextRow_21 rfl (lv_at hl 1 rfl) ?_
        have eq205 : hp199 qa900 18 = .int zi23 := Eq.trans (up_at eh200 (Or.inl (kd_ne kd900 kd6 (by decide)))) eq170
        refine p_get (ci := 12) (v := .int zi23) (C := RX12) (T := TX12) (N := 69) hx hb hT iw_X12 hown hK hw hW kd900 (by decide) rfl rfl 18 (by decide) eq205 (hT _ tb_1392) (fun _ h9 => h9) dX12_nextRow_22 ?_
        have eq206 : hp199 qa20 (zi23 : Int32).toNatClampNeg = .int zi26 := Eq.trans (up_at eh200 (Or.inl (kd_ne kd21 kd6 (by decide)))) eq171
        refine p_iald (v := zi26) hx hb hK hw hW kd21 (by decide) rfl (hW.len kd21 (n := 2) rfl (by decide)) (vp_b bd24 (by decide) (by decide)) eq206 dX12_nextRow_25 ?_
        refine lv_iconst (v := 1) hx hb dX12_nextRow_26 (by decide) ?_
        refine lv_isub hx hb dX12_nextRow_27 (lv_topi (fun zi207 ea208 => ?_))
        have bd209 : (0 : Int) ≤ zi207.toInt ∧ zi207.toInt ≤ 15 := b_isub ea208 bd163 bc_1 (by decide) (by decide) (by decide) (by decide)
        have qe210 : zi207.toInt = (zi26 : Int32).toInt - (1 : Int32).toInt := e_isub ea208 bd163 bc_1 (by decide) (by decide)
        have qe211 : zi207.toInt = zi26.toInt - 1 := by have ha : (1 : Int32).toInt = 1 := (by decide); rw [ha] at qe210; exact qe210
        have eq213 : hp199 qa900 55 = .int 3 := Eq.trans (up_at eh200 (Or.inl (kd_ne kd900 kd6 (by decide)))) eq178
        have eq214 : hp199 qa5 (2 : Int32).toNatClampNeg = .int 0 := Eq.trans (up_at eh200 (Or.inr (by decide))) (hp_self eh165)
        have eq215 : hp199 qa5 (3 : Int32).toNatClampNeg = .int zi17 := Eq.trans (up_at eh200 (Or.inr (by decide))) eq180
        refine lv_icmp_ne (tgt := 44) hx hb dX12_nextRow_28 (by decide) (fun cn212 => ?_) (fun cn212 => ?_)
        · skip
          have tf216 : (zi8 : Int32).toInt ≠ (zi207 : Int32).toInt := fun e => cn212 (Int32.toInt_inj.mp e)
          refine lv_iload_n hx hb dX12_nextRow_44 rfl (lv_at hl 0 rfl) ?_
          refine lv_if_ge (tgt := 50) hx hb dX12_nextRow_45 (by decide) (fun _ => ?_) (fun c => absurd (d_le bc_0 bc_0 (by decide)) c)
          refine lv_aload_n hx hb dX12_nextRow_50 rfl (lv_at hl 1 rfl) ?_
          refine p_get (ci := 12) (v := .ref qa5) (C := RX12) (T := TX12) (N := 69) hx hb hT iw_X12 hown hK hw hW kd900 (by decide) rfl rfl 56 (by decide) eq202 (hT _ tb_1430) (fun _ h9 => h9) dX12_nextRow_51 ?_
          refine lv_iload_n hx hb dX12_nextRow_54 rfl (lv_at hl 0 rfl) ?_
          refine lv_dup2_11 hx hb dX12_nextRow_55 rfl rfl ?_
          refine p_iald (v := zi8) hx hb hK hw hW kd6 (by decide) rfl (hW.len kd6 (n := 6) rfl (by decide)) (vp_b bc_0 (by decide) (by decide)) eq203 dX12_nextRow_56 ?_
          refine lv_iconst (v := 1) hx hb dX12_nextRow_57 (by decide) ?_
          refine lv_iadd hx hb dX12_nextRow_58 (lv_topi (fun zi217 ea218 => ?_))
          have bd219 : (1 : Int) ≤ zi217.toInt ∧ zi217.toInt ≤ 16 := b_iadd ea218 bd135 bc_1 (by decide) (by decide) (by decide) (by decide)
          have qe220 : zi217.toInt = (zi8 : Int32).toInt + (1 : Int32).toInt := e_iadd ea218 bd135 bc_1 (by decide) (by decide)
          have qe221 : zi217.toInt = zi8.toInt + 1 := by have ha : (1 : Int32).toInt = 1 := (by decide); rw [ha] at qe220; exact qe220
          refine p_iast (x := zi217) hx hb hK hw hS hW kd6 (by decide) rfl (hW.len kd6 (n := 6) rfl (by decide)) (vp_b bc_0 (by decide) (by decide)) dX12_nextRow_59 (fun hp222 eh223 H locs hw hS => ?_)
          have ok224 := wr_95000 bd219 (by decide) (by decide) ok201 kd6 eh223
          refine lv_iconst (v := 1) hx hb dX12_nextRow_60 (by decide) ?_
          have eq225 : hp222 qa900 55 = .int 3 := Eq.trans (up_at eh223 (Or.inl (kd_ne kd900 kd6 (by decide)))) eq213
          have eq226 : hp222 qa900 56 = .ref qa5 := Eq.trans (up_at eh223 (Or.inl (kd_ne kd900 kd6 (by decide)))) eq202
          have eq227 : hp222 qa900 28 = .ref qa20 := Eq.trans (up_at eh223 (Or.inl (kd_ne kd900 kd6 (by decide)))) eq204
          have eq228 : hp222 qa900 18 = .int zi23 := Eq.trans (up_at eh223 (Or.inl (kd_ne kd900 kd6 (by decide)))) eq205
          have eq229 : hp222 qa20 (zi23 : Int32).toNatClampNeg = .int zi26 := Eq.trans (up_at eh223 (Or.inl (kd_ne kd21 kd6 (by decide)))) eq206
          have eq230 : hp222 qa5 (1 : Int32).toNatClampNeg = .int 0 := Eq.trans (up_at eh223 (Or.inr (by decide))) (hp_self eh200)
          have eq231 : hp222 qa5 (2 : Int32).toNatClampNeg = .int 0 := Eq.trans (up_at eh223 (Or.inr (by decide))) eq214
          have eq232 : hp222 qa5 (3 : Int32).toNatClampNeg = .int zi17 := Eq.trans (up_at eh223 (Or.inr (by decide))) eq215
          rw [hQ]
          exact kz_i hx hb hr hlocks hS (nz_n bc_1 (by decide) (by decide)) hp222 hw ⟨ok224, (Fr.put (cq := 95000) (Fr.put (cq := 95000) (Fr.put (cq := 95000) (Fr.rf) eh165 kd6 (cd_a (by decide)) (by decide)) eh200 kd6 (cd_a (by decide)) (by decide)) eh223 kd6 (cd_a (by decide)) (by decide)), (b_wid2 bc_1 (by decide) (by decide)), (fun _ => by simp only [ga_of eq226 (hp_self eh223), ge_of eq227 eq228 eq229, gi_of eq225]; have := toi bc_3; omega), (fun _ => by simp only [ga_of eq226 eq230, ge_of eq227 eq228 eq229, gi_of eq225]; have := toi bc_0; have := toi bc_3; omega), (fun _ => by simp only [ga_of eq226 eq231, ge_of eq227 eq228 eq229, gi_of eq225]; have := toi bc_0; have := toi bc_3; omega), (fun _ => by simp only [ga_of eq226 eq232, ge_of eq227 eq228 eq229, gi_of eq225]; have := toi bc_3; omega), (fun _ => by simp only [ga_of eq226 (hp_self eh223), ga_of eq226 eq230, ga_of eq226 eq231, ga_of eq226 eq232, ga_of eq4 eq10, ga_of eq4 eq13, ga_of eq4 eq16, ga_of eq4 eq7]; have := toi bc_0; omega)⟩ (Nat.le_of_ble_eq_true rfl) (Nat.le_of_ble_eq_true rfl) dX12_nextRow_61
        · skip
          have tf233 : zi8.toInt = zi207.toInt := congrArg Int32.toInt cn212
          refine lv_aload_n hx hb dX12_nextRow_31 rfl (lv_at hl 1 rfl) ?_
          refine p_get (ci := 12) (v := .ref qa5) (C := RX12) (T := TX12) (N := 69) hx hb hT iw_X12 hown hK hw hW kd900 (by decide) rfl rfl 56 (by decide) eq202 (hT _ tb_1430) (fun _ h9 => h9) dX12_nextRow_32 ?_
          refine lv_iload_n hx hb dX12_nextRow_35 rfl (lv_at hl 0 rfl) ?_
          refine lv_iconst (v := 0) hx hb dX12_nextRow_36 (by decide) ?_
          refine p_iast (x := 0) hx hb hK hw hS hW kd6 (by decide) rfl (hW.len kd6 (n := 6) rfl (by decide)) (vp_b bc_0 (by decide) (by decide)) dX12_nextRow_37 (fun hp234 eh235 H locs hw hS => ?_)
          have ok236 := wr_95000 bc_0 (by decide) (by decide) ok201 kd6 eh235
          refine lv_iinc (v := (-1)) (lv' := [(1, .int (-1)), (0, .ref qa900)]) hx hb dX12_nextRow_38 hl (k := 0) rfl (by decide) (by decide) rfl (fun ls hl => ?_)
          refine lv_goto (tgt := 7) hx hb dX12_nextRow_41 (by decide) ?_
          refine lv_iload_n hx hb dX12_nextRow_7 rfl (lv_at hl 0 rfl) ?_
          refine lv_if_lt (tgt := 44) hx hb dX12_nextRow_8 (by decide) (fun _ => ?_) (fun c => absurd (d_lt bc_m1 bc_0 (by decide)) c)
          refine lv_iload_n hx hb dX12_nextRow_44 rfl (lv_at hl 0 rfl) ?_
          refine lv_if_ge (tgt := 50) hx hb dX12_nextRow_45 (by decide) (fun c => absurd c (d_nle bc_0 bc_m1 (by decide))) (fun _ => ?_)
          refine lv_iconst (v := 0) hx hb dX12_nextRow_48 (by decide) ?_
          rw [hQ]
          exact kz_i hx hb hr hlocks hS (nz_n bc_0 (by decide) (by decide)) hp234 hw ⟨ok236, (Fr.put (cq := 95000) (Fr.put (cq := 95000) (Fr.put (cq := 95000) (Fr.rf) eh165 kd6 (cd_a (by decide)) (by decide)) eh200 kd6 (cd_a (by decide)) (by decide)) eh235 kd6 (cd_a (by decide)) (by decide)), (b_wid2 bc_0 (by decide) (by decide)), (fun h => absurd h (by decide)), (fun h => absurd h (by decide)), (fun h => absurd h (by decide)), (fun h => absurd h (by decide)), (fun h => absurd h (by decide))⟩ (Nat.le_of_ble_eq_true rfl) (Nat.le_of_ble_eq_true rfl) dX12_nextRow_49
  by_cases cn32 : zi2 = 4
  · skip
    have eq237 : hp0 qa900 55 = .int 4 := Eq.trans eq1 (congrArg Value.int cn32)
    have tf238 : zi2.toInt = 4 := (congrArg Int32.toInt cn32).trans (toi bc_4)
    have bd239 : (0 : Int) ≤ zi8.toInt ∧ zi8.toInt ≤ 15 := (by omega)
    have bd240 : (0 : Int) ≤ zi11.toInt ∧ zi11.toInt ≤ 15 := (by omega)
    have bd241 : (0 : Int) ≤ zi14.toInt ∧ zi14.toInt ≤ 15 := (by omega)
    have bd242 : (0 : Int) ≤ zi17.toInt ∧ zi17.toInt ≤ 15 := (by omega)
    refine lv_aload_n hx hb dX12_nextRow_0 rfl (lv_at hl 0 rfl) ?_
    refine p_get (ci := 12) (v := .int 4) (C := RX12) (T := TX12) (N := 69) hx hb hT iw_X12 hown hK hw hW kd900 (by decide) rfl rfl 55 (by decide) eq237 (hT _ tb_1429) (fun _ h9 => h9) dX12_nextRow_1 ?_
    refine lv_iconst (v := 1) hx hb dX12_nextRow_4 (by decide) ?_
    refine kx_isub (v := 3) hx hb dX12_nextRow_5 (by decide) ?_
    refine lv_istore_n (lv' := [(1, .int 3), (0, .ref qa900)]) hx hb dX12_nextRow_6 rfl hl (by decide) rfl (fun ls hl => ?_)
    refine lv_iload_n hx hb dX12_nextRow_7 rfl (lv_at hl 0 rfl) ?_
    refine lv_if_lt (tgt := 44) hx hb dX12_nextRow_8 (by decide) (fun c => absurd c (d_nlt bc_3 bc_0 (by decide))) (fun _ => ?_)
    refine lv_aload_n hx hb dX12_nextRow_11 rfl (lv_at hl 1 rfl) ?_
    refine p_get (ci := 12) (v := .ref qa5) (C := RX12) (T := TX12) (N := 69) hx hb hT iw_X12 hown hK hw hW kd900 (by decide) rfl rfl 56 (by decide) eq4 (hT _ tb_1430) (fun _ h9 => h9) dX12_nextRow_12 ?_
    refine lv_iload_n hx hb dX12_nextRow_15 rfl (lv_at hl 0 rfl) ?_
    refine p_iald (v := zi17) hx hb hK hw hW kd6 (by decide) rfl (hW.len kd6 (n := 6) rfl (by decide)) (vp_b bc_3 (by decide) (by decide)) eq16 dX12_nextRow_16 ?_
    refine lv_aload_n hx hb dX12_nextRow_17 rfl (lv_at hl 1 rfl) ?_
    refine p_get (ci := 12) (v := .ref qa20) (C := RX12) (T := TX12) (N := 69) hx hb hT iw_X12 hown hK hw hW kd900 (by decide) rfl rfl 28 (by decide) eq19 (hT _ tb_1402) (fun _ h9 => h9) dX12_nextRow_18 ?_
    refine lv_aload_n hx hb dX12_nextRow_21 rfl (lv_at hl 1 rfl) ?_
    refine p_get (ci := 12) (v := .int zi23) (C := RX12) (T := TX12) (N := 69) hx hb hT iw_X12 hown hK hw hW kd900 (by decide) rfl rfl 18 (by decide) eq22 (hT _ tb_1392) (fun _ h9 => h9) dX12_nextRow_22 ?_
    refine p_iald (v := zi26) hx hb hK hw hW kd21 (by decide) rfl (hW.len kd21 (n := 2) rfl (by decide)) (vp_b bd24 (by decide) (by decide)) eq25 dX12_nextRow_25 ?_
    refine lv_iconst (v := 1) hx hb dX12_nextRow_26 (by decide) ?_
    refine lv_isub hx hb dX12_nextRow_27 (lv_topi (fun zi243 ea244 => ?_))
    have bd245 : (-1 : Int) ≤ zi243.toInt ∧ zi243.toInt ≤ 15 := b_isub ea244 bd27 bc_1 (by decide) (by decide) (by decide) (by decide)
    have qe246 : zi243.toInt = (zi26 : Int32).toInt - (1 : Int32).toInt := e_isub ea244 bd27 bc_1 (by decide) (by decide)
    have qe247 : zi243.toInt = zi26.toInt - 1 := by have ha : (1 : Int32).toInt = 1 := (by decide); rw [ha] at qe246; exact qe246
    refine lv_icmp_ne (tgt := 44) hx hb dX12_nextRow_28 (by decide) (fun cn248 => ?_) (fun cn248 => ?_)
    · skip
      have tf249 : (zi17 : Int32).toInt ≠ (zi243 : Int32).toInt := fun e => cn248 (Int32.toInt_inj.mp e)
      refine lv_iload_n hx hb dX12_nextRow_44 rfl (lv_at hl 0 rfl) ?_
      refine lv_if_ge (tgt := 50) hx hb dX12_nextRow_45 (by decide) (fun _ => ?_) (fun c => absurd (d_le bc_0 bc_3 (by decide)) c)
      refine lv_aload_n hx hb dX12_nextRow_50 rfl (lv_at hl 1 rfl) ?_
      refine p_get (ci := 12) (v := .ref qa5) (C := RX12) (T := TX12) (N := 69) hx hb hT iw_X12 hown hK hw hW kd900 (by decide) rfl rfl 56 (by decide) eq4 (hT _ tb_1430) (fun _ h9 => h9) dX12_nextRow_51 ?_
      refine lv_iload_n hx hb dX12_nextRow_54 rfl (lv_at hl 0 rfl) ?_
      refine lv_dup2_11 hx hb dX12_nextRow_55 rfl rfl ?_
      refine p_iald (v := zi17) hx hb hK hw hW kd6 (by decide) rfl (hW.len kd6 (n := 6) rfl (by decide)) (vp_b bc_3 (by decide) (by decide)) eq16 dX12_nextRow_56 ?_
      refine lv_iconst (v := 1) hx hb dX12_nextRow_57 (by decide) ?_
      refine lv_iadd hx hb dX12_nextRow_58 (lv_topi (fun zi250 ea251 => ?_))
      have bd252 : (1 : Int) ≤ zi250.toInt ∧ zi250.toInt ≤ 16 := b_iadd ea251 bd242 bc_1 (by decide) (by decide) (by decide) (by decide)
      have qe253 : zi250.toInt = (zi17 : Int32).toInt + (1 : Int32).toInt := e_iadd ea251 bd242 bc_1 (by decide) (by decide)
      have qe254 : zi250.toInt = zi17.toInt + 1 := by have ha : (1 : Int32).toInt = 1 := (by decide); rw [ha] at qe253; exact qe253
      refine p_iast (x := zi250) hx hb hK hw hS hW kd6 (by decide) rfl (hW.len kd6 (n := 6) rfl (by decide)) (vp_b bc_3 (by decide) (by decide)) dX12_nextRow_59 (fun hp255 eh256 H locs hw hS => ?_)
      have ok257 := wr_95000 bd252 (by decide) (by decide) ok0 kd6 eh256
      refine lv_iconst (v := 1) hx hb dX12_nextRow_60 (by decide) ?_
      have eq258 : hp255 qa900 55 = .int 4 := Eq.trans (up_at eh256 (Or.inl (kd_ne kd900 kd6 (by decide)))) eq237
      have eq259 : hp255 qa900 56 = .ref qa5 := Eq.trans (up_at eh256 (Or.inl (kd_ne kd900 kd6 (by decide)))) eq4
      have eq260 : hp255 qa5 (0 : Int32).toNatClampNeg = .int zi8 := Eq.trans (up_at eh256 (Or.inr (by decide))) eq7
      have eq261 : hp255 qa900 28 = .ref qa20 := Eq.trans (up_at eh256 (Or.inl (kd_ne kd900 kd6 (by decide)))) eq19
      have eq262 : hp255 qa900 18 = .int zi23 := Eq.trans (up_at eh256 (Or.inl (kd_ne kd900 kd6 (by decide)))) eq22
      have eq263 : hp255 qa20 (zi23 : Int32).toNatClampNeg = .int zi26 := Eq.trans (up_at eh256 (Or.inl (kd_ne kd21 kd6 (by decide)))) eq25
      have eq264 : hp255 qa5 (1 : Int32).toNatClampNeg = .int zi11 := Eq.trans (up_at eh256 (Or.inr (by decide))) eq10
      have eq265 : hp255 qa5 (2 : Int32).toNatClampNeg = .int zi14 := Eq.trans (up_at eh256 (Or.inr (by decide))) eq13
      rw [hQ]
      exact kz_i hx hb hr hlocks hS (nz_n bc_1 (by decide) (by decide)) hp255 hw ⟨ok257, (Fr.put (cq := 95000) (Fr.rf) eh256 kd6 (cd_a (by decide)) (by decide)), (b_wid2 bc_1 (by decide) (by decide)), (fun _ => by simp only [ga_of eq259 eq260, ge_of eq261 eq262 eq263, gi_of eq258]; have := toi bc_4; omega), (fun _ => by simp only [ga_of eq259 eq264, ge_of eq261 eq262 eq263, gi_of eq258]; have := toi bc_4; omega), (fun _ => by simp only [ga_of eq259 eq265, ge_of eq261 eq262 eq263, gi_of eq258]; have := toi bc_4; omega), (fun _ => by simp only [ga_of eq259 (hp_self eh256), ge_of eq261 eq262 eq263, gi_of eq258]; have := toi bc_4; omega), (fun _ => by simp only [ga_of eq259 (hp_self eh256), ga_of eq259 eq260, ga_of eq259 eq264, ga_of eq259 eq265, ga_of eq4 eq10, ga_of eq4 eq13, ga_of eq4 eq16, ga_of eq4 eq7]; omega)⟩ (Nat.le_of_ble_eq_true rfl) (Nat.le_of_ble_eq_true rfl) dX12_nextRow_61
    · skip
      have tf266 : zi17.toInt = zi243.toInt := congrArg Int32.toInt cn248
      have bd267 : (0 : Int) ≤ zi243.toInt ∧ zi243.toInt ≤ 15 := r_eq_x (cn248).symm bd245 bd242 (by decide) (by decide)
      have bd268 : (1 : Int) ≤ zi26.toInt ∧ zi26.toInt ≤ 16 := (by have := qe247; have := bd267; have := bd27; have := bc_1; omega)
      refine lv_aload_n hx hb dX12_nextRow_31 rfl (lv_at hl 1 rfl) ?_
      refine p_get (ci := 12) (v := .ref qa5) (C := RX12) (T := TX12) (N := 69) hx hb hT iw_X12 hown hK hw hW kd900 (by decide) rfl rfl 56 (by decide) eq4 (hT _ tb_1430) (fun _ h9 => h9) dX12_nextRow_32 ?_
      refine lv_iload_n hx hb dX12_nextRow_35 rfl (lv_at hl 0 rfl) ?_
      refine lv_iconst (v := 0) hx hb dX12_nextRow_36 (by decide) ?_
      refine p_iast (x := 0) hx hb hK hw hS hW kd6 (by decide) rfl (hW.len kd6 (n := 6) rfl (by decide)) (vp_b bc_3 (by decide) (by decide)) dX12_nextRow_37 (fun hp269 eh270 H locs hw hS => ?_)
      have ok271 := wr_95000 bc_0 (by decide) (by decide) ok0 kd6 eh270
      refine lv_iinc (v := 2) (lv' := [(1, .int 2), (0, .ref qa900)]) hx hb dX12_nextRow_38 hl (k := 0) rfl (by decide) (by decide) rfl (fun ls hl => ?_)
      refine lv_goto (tgt := 7) hx hb dX12_nextRow_41 (by decide) ?_
      refine lv_iload_n hx hb dX12_nextRow_7 rfl (lv_at hl 0 rfl) ?_
      refine lv_if_lt (tgt := 44) hx hb dX12_nextRow_8 (by decide) (fun c => absurd c (d_nlt bc_2 bc_0 (by decide))) (fun _ => ?_)
      refine lv_aload_n hx hb dX12_nextRow_11 rfl (lv_at hl 1 rfl) ?_
      have eq272 : hp269 qa900 56 = .ref qa5 := Eq.trans (up_at eh270 (Or.inl (kd_ne kd900 kd6 (by decide)))) eq4
      refine p_get (ci := 12) (v := .ref qa5) (C := RX12) (T := TX12) (N := 69) hx hb hT iw_X12 hown hK hw hW kd900 (by decide) rfl rfl 56 (by decide) eq272 (hT _ tb_1430) (fun _ h9 => h9) dX12_nextRow_12 ?_
      refine lv_iload_n hx hb dX12_nextRow_15 rfl (lv_at hl 0 rfl) ?_
      have eq273 : hp269 qa5 (2 : Int32).toNatClampNeg = .int zi14 := Eq.trans (up_at eh270 (Or.inr (by decide))) eq13
      refine p_iald (v := zi14) hx hb hK hw hW kd6 (by decide) rfl (hW.len kd6 (n := 6) rfl (by decide)) (vp_b bc_2 (by decide) (by decide)) eq273 dX12_nextRow_16 ?_
      refine lv_aload_n hx hb dX12_nextRow_17 rfl (lv_at hl 1 rfl) ?_
      have eq274 : hp269 qa900 28 = .ref qa20 := Eq.trans (up_at eh270 (Or.inl (kd_ne kd900 kd6 (by decide)))) eq19
      refine p_get (ci := 12) (v := .ref qa20) (C := RX12) (T := TX12) (N := 69) hx hb hT iw_X12 hown hK hw hW kd900 (by decide) rfl rfl 28 (by decide) eq274 (hT _ tb_1402) (fun _ h9 => h9) dX12_nextRow_18 ?_
      refine lv_aload_n hx hb dX12_nextRow_21 rfl (lv_at hl 1 rfl) ?_
      have eq275 : hp269 qa900 18 = .int zi23 := Eq.trans (up_at eh270 (Or.inl (kd_ne kd900 kd6 (by decide)))) eq22
      refine p_get (ci := 12) (v := .int zi23) (C := RX12) (T := TX12) (N := 69) hx hb hT iw_X12 hown hK hw hW kd900 (by decide) rfl rfl 18 (by decide) eq275 (hT _ tb_1392) (fun _ h9 => h9) dX12_nextRow_22 ?_
      have eq276 : hp269 qa20 (zi23 : Int32).toNatClampNeg = .int zi26 := Eq.trans (up_at eh270 (Or.inl (kd_ne kd21 kd6 (by decide)))) eq25
      refine p_iald (v := zi26) hx hb hK hw hW kd21 (by decide) rfl (hW.len kd21 (n := 2) rfl (by decide)) (vp_b bd24 (by decide) (by decide)) eq276 dX12_nextRow_25 ?_
      refine lv_iconst (v := 1) hx hb dX12_nextRow_26 (by decide) ?_
      refine lv_isub hx hb dX12_nextRow_27 (lv_topi (fun zi277 ea278 => ?_))
      have bd279 : (0 : Int) ≤ zi277.toInt ∧ zi277.toInt ≤ 15 := b_isub ea278 bd268 bc_1 (by decide) (by decide) (by decide) (by decide)
      have qe280 : zi277.toInt = (zi26 : Int32).toInt - (1 : Int32).toInt := e_isub ea278 bd268 bc_1 (by decide) (by decide)
      have qe281 : zi277.toInt = zi26.toInt - 1 := by have ha : (1 : Int32).toInt = 1 := (by decide); rw [ha] at qe280; exact qe280
      have eq283 : hp269 qa900 55 = .int 4 := Eq.trans (up_at eh270 (Or.inl (kd_ne kd900 kd6 (by decide)))) eq237
      have eq284 : hp269 qa5 (0 : Int32).toNatClampNeg = .int zi8 := Eq.trans (up_at eh270 (Or.inr (by decide))) eq7
      have eq285 : hp269 qa5 (1 : Int32).toNatClampNeg = .int zi11 := Eq.trans (up_at eh270 (Or.inr (by decide))) eq10
      refine lv_icmp_ne (tgt := 44) hx hb dX12_nextRow_28 (by decide) (fun cn282 => ?_) (fun cn282 => ?_)
      · skip
        have tf286 : (zi14 : Int32).toInt ≠ (zi277 : Int32).toInt := fun e => cn282 (Int32.toInt_inj.mp e)
        refine lv_iload_n hx hb dX12_nextRow_44 rfl (lv_at hl 0 rfl) ?_
        refine lv_if_ge (tgt := 50) hx hb dX12_nextRow_45 (by decide) (fun _ => ?_) (fun c => absurd (d_le bc_0 bc_2 (by decide)) c)
        refine lv_aload_n hx hb dX12_nextRow_50 rfl (lv_at hl 1 rfl) ?_
        refine p_get (ci := 12) (v := .ref qa5) (C := RX12) (T := TX12) (N := 69) hx hb hT iw_X12 hown hK hw hW kd900 (by decide) rfl rfl 56 (by decide) eq272 (hT _ tb_1430) (fun _ h9 => h9) dX12_nextRow_51 ?_
        refine lv_iload_n hx hb dX12_nextRow_54 rfl (lv_at hl 0 rfl) ?_
        refine lv_dup2_11 hx hb dX12_nextRow_55 rfl rfl ?_
        refine p_iald (v := zi14) hx hb hK hw hW kd6 (by decide) rfl (hW.len kd6 (n := 6) rfl (by decide)) (vp_b bc_2 (by decide) (by decide)) eq273 dX12_nextRow_56 ?_
        refine lv_iconst (v := 1) hx hb dX12_nextRow_57 (by decide) ?_
        refine lv_iadd hx hb dX12_nextRow_58 (lv_topi (fun zi287 ea288 => ?_))
        have bd289 : (1 : Int) ≤ zi287.toInt ∧ zi287.toInt ≤ 16 := b_iadd ea288 bd241 bc_1 (by decide) (by decide) (by decide) (by decide)
        have qe290 : zi287.toInt = (zi14 : Int32).toInt + (1 : Int32).toInt := e_iadd ea288 bd241 bc_1 (by decide) (by decide)
        have qe291 : zi287.toInt = zi14.toInt + 1 := by have ha : (1 : Int32).toInt = 1 := (by decide); rw [ha] at qe290; exact qe290
        refine p_iast (x := zi287) hx hb hK hw hS hW kd6 (by decide) rfl (hW.len kd6 (n := 6) rfl (by decide)) (vp_b bc_2 (by decide) (by decide)) dX12_nextRow_59 (fun hp292 eh293 H locs hw hS => ?_)
        have ok294 := wr_95000 bd289 (by decide) (by decide) ok271 kd6 eh293
        refine lv_iconst (v := 1) hx hb dX12_nextRow_60 (by decide) ?_
        have eq295 : hp292 qa900 55 = .int 4 := Eq.trans (up_at eh293 (Or.inl (kd_ne kd900 kd6 (by decide)))) eq283
        have eq296 : hp292 qa900 56 = .ref qa5 := Eq.trans (up_at eh293 (Or.inl (kd_ne kd900 kd6 (by decide)))) eq272
        have eq297 : hp292 qa5 (0 : Int32).toNatClampNeg = .int zi8 := Eq.trans (up_at eh293 (Or.inr (by decide))) eq284
        have eq298 : hp292 qa900 28 = .ref qa20 := Eq.trans (up_at eh293 (Or.inl (kd_ne kd900 kd6 (by decide)))) eq274
        have eq299 : hp292 qa900 18 = .int zi23 := Eq.trans (up_at eh293 (Or.inl (kd_ne kd900 kd6 (by decide)))) eq275
        have eq300 : hp292 qa20 (zi23 : Int32).toNatClampNeg = .int zi26 := Eq.trans (up_at eh293 (Or.inl (kd_ne kd21 kd6 (by decide)))) eq276
        have eq301 : hp292 qa5 (1 : Int32).toNatClampNeg = .int zi11 := Eq.trans (up_at eh293 (Or.inr (by decide))) eq285
        have eq302 : hp292 qa5 (3 : Int32).toNatClampNeg = .int 0 := Eq.trans (up_at eh293 (Or.inr (by decide))) (hp_self eh270)
        rw [hQ]
        exact kz_i hx hb hr hlocks hS (nz_n bc_1 (by decide) (by decide)) hp292 hw ⟨ok294, (Fr.put (cq := 95000) (Fr.put (cq := 95000) (Fr.rf) eh270 kd6 (cd_a (by decide)) (by decide)) eh293 kd6 (cd_a (by decide)) (by decide)), (b_wid2 bc_1 (by decide) (by decide)), (fun _ => by simp only [ga_of eq296 eq297, ge_of eq298 eq299 eq300, gi_of eq295]; have := toi bc_4; omega), (fun _ => by simp only [ga_of eq296 eq301, ge_of eq298 eq299 eq300, gi_of eq295]; have := toi bc_4; omega), (fun _ => by simp only [ga_of eq296 (hp_self eh293), ge_of eq298 eq299 eq300, gi_of eq295]; have := toi bc_4; omega), (fun _ => by simp only [ga_of eq296 eq302, ge_of eq298 eq299 eq300, gi_of eq295]; have := toi bc_0; have := toi bc_4; omega), (fun _ => by simp only [ga_of eq296 (hp_self eh293), ga_of eq296 eq297, ga_of eq296 eq301, ga_of eq296 eq302, ga_of eq4 eq10, ga_of eq4 eq13, ga_of eq4 eq16, ga_of eq4 eq7]; have := toi bc_0; omega)⟩ (Nat.le_of_ble_eq_true rfl) (Nat.le_of_ble_eq_true rfl) dX12_nextRow_61
      · skip
        have tf303 : zi14.toInt = zi277.toInt := congrArg Int32.toInt cn282
        refine lv_aload_n hx hb dX12_nextRow_31 rfl (lv_at hl 1 rfl) ?_
        refine p_get (ci := 12) (v := .ref qa5) (C := RX12) (T := TX12) (N := 69) hx hb hT iw_X12 hown hK hw hW kd900 (by decide) rfl rfl 56 (by decide) eq272 (hT _ tb_1430) (fun _ h9 => h9) dX12_nextRow_32 ?_
        refine lv_iload_n hx hb dX12_nextRow_35 rfl (lv_at hl 0 rfl) ?_
        refine lv_iconst (v := 0) hx hb dX12_nextRow_36 (by decide) ?_
        refine p_iast (x := 0) hx hb hK hw hS hW kd6 (by decide) rfl (hW.len kd6 (n := 6) rfl (by decide)) (vp_b bc_2 (by decide) (by decide)) dX12_nextRow_37 (fun hp304 eh305 H locs hw hS => ?_)
        have ok306 := wr_95000 bc_0 (by decide) (by decide) ok271 kd6 eh305
        refine lv_iinc (v := 1) (lv' := [(1, .int 1), (0, .ref qa900)]) hx hb dX12_nextRow_38 hl (k := 0) rfl (by decide) (by decide) rfl (fun ls hl => ?_)
        refine lv_goto (tgt := 7) hx hb dX12_nextRow_41 (by decide) ?_
        refine lv_iload_n hx hb dX12_nextRow_7 rfl (lv_at hl 0 rfl) ?_
        refine lv_if_lt (tgt := 44) hx hb dX12_nextRow_8 (by decide) (fun c => absurd c (d_nlt bc_1 bc_0 (by decide))) (fun _ => ?_)
        refine lv_aload_n hx hb dX12_nextRow_11 rfl (lv_at hl 1 rfl) ?_
        have eq307 : hp304 qa900 56 = .ref qa5 := Eq.trans (up_at eh305 (Or.inl (kd_ne kd900 kd6 (by decide)))) eq272
        refine p_get (ci := 12) (v := .ref qa5) (C := RX12) (T := TX12) (N := 69) hx hb hT iw_X12 hown hK hw hW kd900 (by decide) rfl rfl 56 (by decide) eq307 (hT _ tb_1430) (fun _ h9 => h9) dX12_nextRow_12 ?_
        refine lv_iload_n hx hb dX12_nextRow_15 rfl (lv_at hl 0 rfl) ?_
        have eq308 : hp304 qa5 (1 : Int32).toNatClampNeg = .int zi11 := Eq.trans (up_at eh305 (Or.inr (by decide))) eq285
        refine p_iald (v := zi11) hx hb hK hw hW kd6 (by decide) rfl (hW.len kd6 (n := 6) rfl (by decide)) (vp_b bc_1 (by decide) (by decide)) eq308 dX12_nextRow_16 ?_
        refine lv_aload_n hx hb dX12_nextRow_17 rfl (lv_at hl 1 rfl) ?_
        have eq309 : hp304 qa900 28 = .ref qa20 := Eq.trans (up_at eh305 (Or.inl (kd_ne kd900 kd6 (by decide)))) eq274
        refine p_get (ci := 12) (v := .ref qa20) (C := RX12) (T := TX12) (N := 69) hx hb hT iw_X12 hown hK hw hW kd900 (by decide) rfl rfl 28 (by decide) eq309 (hT _ tb_1402) (fun _ h9 => h9) dX12_nextRow_18 ?_
        refine lv_aload_n hx hb dX12_nextRow_21 rfl (lv_at hl 1 rfl) ?_
        have eq310 : hp304 qa900 18 = .int zi23 := Eq.trans (up_at eh305 (Or.inl (kd_ne kd900 kd6 (by decide)))) eq275
        refine p_get (ci := 12) (v := .int zi23) (C := RX12) (T := TX12) (N := 69) hx hb hT iw_X12 hown hK hw hW kd900 (by decide) rfl rfl 18 (by decide) eq310 (hT _ tb_1392) (fun _ h9 => h9) dX12_nextRow_22 ?_
        have eq311 : hp304 qa20 (zi23 : Int32).toNatClampNeg = .int zi26 := Eq.trans (up_at eh305 (Or.inl (kd_ne kd21 kd6 (by decide)))) eq276
        refine p_iald (v := zi26) hx hb hK hw hW kd21 (by decide) rfl (hW.len kd21 (n := 2) rfl (by decide)) (vp_b bd24 (by decide) (by decide)) eq311 dX12_nextRow_25 ?_
        refine lv_iconst (v := 1) hx hb dX12_nextRow_26 (by decide) ?_
        refine lv_isub hx hb dX12_nextRow_27 (lv_topi (fun zi312 ea313 => ?_))
        have bd314 : (0 : Int) ≤ zi312.toInt ∧ zi312.toInt ≤ 15 := b_isub ea313 bd268 bc_1 (by decide) (by decide) (by decide) (by decide)
        have qe315 : zi312.toInt = (zi26 : Int32).toInt - (1 : Int32).toInt := e_isub ea313 bd268 bc_1 (by decide) (by decide)
        have qe316 : zi312.toInt = zi26.toInt - 1 := by have ha : (1 : Int32).toInt = 1 := (by decide); rw [ha] at qe315; exact qe315
        have eq318 : hp304 qa900 55 = .int 4 := Eq.trans (up_at eh305 (Or.inl (kd_ne kd900 kd6 (by decide)))) eq283
        have eq319 : hp304 qa5 (0 : Int32).toNatClampNeg = .int zi8 := Eq.trans (up_at eh305 (Or.inr (by decide))) eq284
        have eq320 : hp304 qa5 (3 : Int32).toNatClampNeg = .int 0 := Eq.trans (up_at eh305 (Or.inr (by decide))) (hp_self eh270)
        refine lv_icmp_ne (tgt := 44) hx hb dX12_nextRow_28 (by decide) (fun cn317 => ?_) (fun cn317 => ?_)
        · skip
          have tf321 : (zi11 : Int32).toInt ≠ (zi312 : Int32).toInt := fun e => cn317 (Int32.toInt_inj.mp e)
          refine lv_iload_n hx hb dX12_nextRow_44 rfl (lv_at hl 0 rfl) ?_
          refine lv_if_ge (tgt := 50) hx hb dX12_nextRow_45 (by decide) (fun _ => ?_) (fun c => absurd (d_le bc_0 bc_1 (by decide)) c)
          refine lv_aload_n hx hb dX12_nextRow_50 rfl (lv_at hl 1 rfl) ?_
          refine p_get (ci := 12) (v := .ref qa5) (C := RX12) (T := TX12) (N := 69) hx hb hT iw_X12 hown hK hw hW kd900 (by decide) rfl rfl 56 (by decide) eq307 (hT _ tb_1430) (fun _ h9 => h9) dX12_nextRow_51 ?_
          refine lv_iload_n hx hb dX12_nextRow_54 rfl (lv_at hl 0 rfl) ?_
          refine lv_dup2_11 hx hb dX12_nextRow_55 rfl rfl ?_
          refine p_iald (v := zi11) hx hb hK hw hW kd6 (by decide) rfl (hW.len kd6 (n := 6) rfl (by decide)) (vp_b bc_1 (by decide) (by decide)) eq308 dX12_nextRow_56 ?_
          refine lv_iconst (v := 1) hx hb dX12_nextRow_57 (by decide) ?_
          refine lv_iadd hx hb dX12_nextRow_58 (lv_topi (fun zi322 ea323 => ?_))
          have bd324 : (1 : Int) ≤ zi322.toInt ∧ zi322.toInt ≤ 16 := b_iadd ea323 bd240 bc_1 (by decide) (by decide) (by decide) (by decide)
          have qe325 : zi322.toInt = (zi11 : Int32).toInt + (1 : Int32).toInt := e_iadd ea323 bd240 bc_1 (by decide) (by decide)
          have qe326 : zi322.toInt = zi11.toInt + 1 := by have ha : (1 : Int32).toInt = 1 := (by decide); rw [ha] at qe325; exact qe325
          refine p_iast (x := zi322) hx hb hK hw hS hW kd6 (by decide) rfl (hW.len kd6 (n := 6) rfl (by decide)) (vp_b bc_1 (by decide) (by decide)) dX12_nextRow_59 (fun hp327 eh328 H locs hw hS => ?_)
          have ok329 := wr_95000 bd324 (by decide) (by decide) ok306 kd6 eh328
          refine lv_iconst (v := 1) hx hb dX12_nextRow_60 (by decide) ?_
          have eq330 : hp327 qa900 55 = .int 4 := Eq.trans (up_at eh328 (Or.inl (kd_ne kd900 kd6 (by decide)))) eq318
          have eq331 : hp327 qa900 56 = .ref qa5 := Eq.trans (up_at eh328 (Or.inl (kd_ne kd900 kd6 (by decide)))) eq307
          have eq332 : hp327 qa5 (0 : Int32).toNatClampNeg = .int zi8 := Eq.trans (up_at eh328 (Or.inr (by decide))) eq319
          have eq333 : hp327 qa900 28 = .ref qa20 := Eq.trans (up_at eh328 (Or.inl (kd_ne kd900 kd6 (by decide)))) eq309
          have eq334 : hp327 qa900 18 = .int zi23 := Eq.trans (up_at eh328 (Or.inl (kd_ne kd900 kd6 (by decide)))) eq310
          have eq335 : hp327 qa20 (zi23 : Int32).toNatClampNeg = .int zi26 := Eq.trans (up_at eh328 (Or.inl (kd_ne kd21 kd6 (by decide)))) eq311
          have eq336 : hp327 qa5 (2 : Int32).toNatClampNeg = .int 0 := Eq.trans (up_at eh328 (Or.inr (by decide))) (hp_self eh305)
          have eq337 : hp327 qa5 (3 : Int32).toNatClampNeg = .int 0 := Eq.trans (up_at eh328 (Or.inr (by decide))) eq320
          rw [hQ]
          exact kz_i hx hb hr hlocks hS (nz_n bc_1 (by decide) (by decide)) hp327 hw ⟨ok329, (Fr.put (cq := 95000) (Fr.put (cq := 95000) (Fr.put (cq := 95000) (Fr.rf) eh270 kd6 (cd_a (by decide)) (by decide)) eh305 kd6 (cd_a (by decide)) (by decide)) eh328 kd6 (cd_a (by decide)) (by decide)), (b_wid2 bc_1 (by decide) (by decide)), (fun _ => by simp only [ga_of eq331 eq332, ge_of eq333 eq334 eq335, gi_of eq330]; have := toi bc_4; omega), (fun _ => by simp only [ga_of eq331 (hp_self eh328), ge_of eq333 eq334 eq335, gi_of eq330]; have := toi bc_4; omega), (fun _ => by simp only [ga_of eq331 eq336, ge_of eq333 eq334 eq335, gi_of eq330]; have := toi bc_0; have := toi bc_4; omega), (fun _ => by simp only [ga_of eq331 eq337, ge_of eq333 eq334 eq335, gi_of eq330]; have := toi bc_0; have := toi bc_4; omega), (fun _ => by simp only [ga_of eq331 (hp_self eh328), ga_of eq331 eq332, ga_of eq331 eq336, ga_of eq331 eq337, ga_of eq4 eq10, ga_of eq4 eq13, ga_of eq4 eq16, ga_of eq4 eq7]; have := toi bc_0; omega)⟩ (Nat.le_of_ble_eq_true rfl) (Nat.le_of_ble_eq_true rfl) dX12_nextRow_61
        · skip
          have tf338 : zi11.toInt = zi312.toInt := congrArg Int32.toInt cn317
          refine lv_aload_n hx hb dX12_nextRow_31 rfl (lv_at hl 1 rfl) ?_
          refine p_get (ci := 12) (v := .ref qa5) (C := RX12) (T := TX12) (N := 69) hx hb hT iw_X12 hown hK hw hW kd900 (by decide) rfl rfl 56 (by decide) eq307 (hT _ tb_1430) (fun _ h9 => h9) dX12_nextRow_32 ?_
          refine lv_iload_n hx hb dX12_nextRow_35 rfl (lv_at hl 0 rfl) ?_
          refine lv_iconst (v := 0) hx hb dX12_nextRow_36 (by decide) ?_
          refine p_iast (x := 0) hx hb hK hw hS hW kd6 (by decide) rfl (hW.len kd6 (n := 6) rfl (by decide)) (vp_b bc_1 (by decide) (by decide)) dX12_nextRow_37 (fun hp339 eh340 H locs hw hS => ?_)
          have ok341 := wr_95000 bc_0 (by decide) (by decide) ok306 kd6 eh340
          refine lv_iinc (v := 0) (lv' := [(1, .int 0), (0, .ref qa900)]) hx hb dX12_nextRow_38 hl (k := 0) rfl (by decide) (by decide) rfl (fun ls hl => ?_)
          refine lv_goto (tgt := 7) hx hb dX12_nextRow_41 (by decide) ?_
          refine lv_iload_n hx hb dX12_nextRow_7 rfl (lv_at hl 0 rfl) ?_
          refine lv_if_lt (tgt := 44) hx hb dX12_nextRow_8 (by decide) (fun c => absurd c (d_nlt bc_0 bc_0 (by decide))) (fun _ => ?_)
          refine lv_aload_n hx hb dX12_nextRow_11 rfl (lv_at hl 1 rfl) ?_
          have eq342 : hp339 qa900 56 = .ref qa5 := Eq.trans (up_at eh340 (Or.inl (kd_ne kd900 kd6 (by decide)))) eq307
          refine p_get (ci := 12) (v := .ref qa5) (C := RX12) (T := TX12) (N := 69) hx hb hT iw_X12 hown hK hw hW kd900 (by decide) rfl rfl 56 (by decide) eq342 (hT _ tb_1430) (fun _ h9 => h9) dX12_nextRow_12 ?_
          refine lv_iload_n hx hb dX12_nextRow_15 rfl (lv_at hl 0 rfl) ?_
          have eq343 : hp339 qa5 (0 : Int32).toNatClampNeg = .int zi8 := Eq.trans (up_at eh340 (Or.inr (by decide))) eq319
          refine p_iald (v := zi8) hx hb hK hw hW kd6 (by decide) rfl (hW.len kd6 (n := 6) rfl (by decide)) (vp_b bc_0 (by decide) (by decide)) eq343 dX12_nextRow_16 ?_
          refine lv_aload_n hx hb dX12_nextRow_17 rfl (lv_at hl 1 rfl) ?_
          have eq344 : hp339 qa900 28 = .ref qa20 := Eq.trans (up_at eh340 (Or.inl (kd_ne kd900 kd6 (by decide)))) eq309
          refine p_get (ci := 12) (v := .ref qa20) (C := RX12) (T := TX12) (N := 69) hx hb hT iw_X12 hown hK hw hW kd900 (by decide) rfl rfl 28 (by decide) eq344 (hT _ tb_1402) (fun _ h9 => h9) dX12_nextRow_18 ?_
          refine lv_aload_n hx hb dX12_nextRow_21 rfl (lv_at hl 1 rfl) ?_
          have eq345 : hp339 qa900 18 = .int zi23 := Eq.trans (up_at eh340 (Or.inl (kd_ne kd900 kd6 (by decide)))) eq310
          refine p_get (ci := 12) (v := .int zi23) (C := RX12) (T := TX12) (N := 69) hx hb hT iw_X12 hown hK hw hW kd900 (by decide) rfl rfl 18 (by decide) eq345 (hT _ tb_1392) (fun _ h9 => h9) dX12_nextRow_22 ?_
          have eq346 : hp339 qa20 (zi23 : Int32).toNatClampNeg = .int zi26 := Eq.trans (up_at eh340 (Or.inl (kd_ne kd21 kd6 (by decide)))) eq311
          refine p_iald (v := zi26) hx hb hK hw hW kd21 (by decide) rfl (hW.len kd21 (n := 2) rfl (by decide)) (vp_b bd24 (by decide) (by decide)) eq346 dX12_nextRow_25 ?_
          refine lv_iconst (v := 1) hx hb dX12_nextRow_26 (by decide) ?_
          refine lv_isub hx hb dX12_nextRow_27 (lv_topi (fun zi347 ea348 => ?_))
          have bd349 : (0 : Int) ≤ zi347.toInt ∧ zi347.toInt ≤ 15 := b_isub ea348 bd268 bc_1 (by decide) (by decide) (by decide) (by decide)
          have qe350 : zi347.toInt = (zi26 : Int32).toInt - (1 : Int32).toInt := e_isub ea348 bd268 bc_1 (by decide) (by decide)
          have qe351 : zi347.toInt = zi26.toInt - 1 := by have ha : (1 : Int32).toInt = 1 := (by decide); rw [ha] at qe350; exact qe350
          have eq353 : hp339 qa900 55 = .int 4 := Eq.trans (up_at eh340 (Or.inl (kd_ne kd900 kd6 (by decide)))) eq318
          have eq354 : hp339 qa5 (2 : Int32).toNatClampNeg = .int 0 := Eq.trans (up_at eh340 (Or.inr (by decide))) (hp_self eh305)
          have eq355 : hp339 qa5 (3 : Int32).toNatClampNeg = .int 0 := Eq.trans (up_at eh340 (Or.inr (by decide))) eq320
          refine lv_icmp_ne (tgt := 44) hx hb dX12_nextRow_28 (by decide) (fun cn352 => ?_) (fun cn352 => ?_)
          · skip
            have tf356 : (zi8 : Int32).toInt ≠ (zi347 : Int32).toInt := fun e => cn352 (Int32.toInt_inj.mp e)
            refine lv_iload_n hx hb dX12_nextRow_44 rfl (lv_at hl 0 rfl) ?_
            refine lv_if_ge (tgt := 50) hx hb dX12_nextRow_45 (by decide) (fun _ => ?_) (fun c => absurd (d_le bc_0 bc_0 (by decide)) c)
            refine lv_aload_n hx hb dX12_nextRow_50 rfl (lv_at hl 1 rfl) ?_
            refine p_get (ci := 12) (v := .ref qa5) (C := RX12) (T := TX12) (N := 69) hx hb hT iw_X12 hown hK hw hW kd900 (by decide) rfl rfl 56 (by decide) eq342 (hT _ tb_1430) (fun _ h9 => h9) dX12_nextRow_51 ?_
            refine lv_iload_n hx hb dX12_nextRow_54 rfl (lv_at hl 0 rfl) ?_
            refine lv_dup2_11 hx hb dX12_nextRow_55 rfl rfl ?_
            refine p_iald (v := zi8) hx hb hK hw hW kd6 (by decide) rfl (hW.len kd6 (n := 6) rfl (by decide)) (vp_b bc_0 (by decide) (by decide)) eq343 dX12_nextRow_56 ?_
            refine lv_iconst (v := 1) hx hb dX12_nextRow_57 (by decide) ?_
            refine lv_iadd hx hb dX12_nextRow_58 (lv_topi (fun zi357 ea358 => ?_))
            have bd359 : (1 : Int) ≤ zi357.toInt ∧ zi357.toInt ≤ 16 := b_iadd ea358 bd239 bc_1 (by decide) (by decide) (by decide) (by decide)
            have qe360 : zi357.toInt = (zi8 : Int32).toInt + (1 : Int32).toInt := e_iadd ea358 bd239 bc_1 (by decide) (by decide)
            have qe361 : zi357.toInt = zi8.toInt + 1 := by have ha : (1 : Int32).toInt = 1 := (by decide); rw [ha] at qe360; exact qe360
            refine p_iast (x := zi357) hx hb hK hw hS hW kd6 (by decide) rfl (hW.len kd6 (n := 6) rfl (by decide)) (vp_b bc_0 (by decide) (by decide)) dX12_nextRow_59 (fun hp362 eh363 H locs hw hS => ?_)
            have ok364 := wr_95000 bd359 (by decide) (by decide) ok341 kd6 eh363
            refine lv_iconst (v := 1) hx hb dX12_nextRow_60 (by decide) ?_
            have eq365 : hp362 qa900 55 = .int 4 := Eq.trans (up_at eh363 (Or.inl (kd_ne kd900 kd6 (by decide)))) eq353
            have eq366 : hp362 qa900 56 = .ref qa5 := Eq.trans (up_at eh363 (Or.inl (kd_ne kd900 kd6 (by decide)))) eq342
            have eq367 : hp362 qa900 28 = .ref qa20 := Eq.trans (up_at eh363 (Or.inl (kd_ne kd900 kd6 (by decide)))) eq344
            have eq368 : hp362 qa900 18 = .int zi23 := Eq.trans (up_at eh363 (Or.inl (kd_ne kd900 kd6 (by decide)))) eq345
            have eq369 : hp362 qa20 (zi23 : Int32).toNatClampNeg = .int zi26 := Eq.trans (up_at eh363 (Or.inl (kd_ne kd21 kd6 (by decide)))) eq346
            have eq370 : hp362 qa5 (1 : Int32).toNatClampNeg = .int 0 := Eq.trans (up_at eh363 (Or.inr (by decide))) (hp_self eh340)
            have eq371 : hp362 qa5 (2 : Int32).toNatClampNeg = .int 0 := Eq.trans (up_at eh363 (Or.inr (by decide))) eq354
            have eq372 : hp362 qa5 (3 : Int32).toNatClampNeg = .int 0 := Eq.trans (up_at eh363 (Or.inr (by decide))) eq355
            rw [hQ]
            exact kz_i hx hb hr hlocks hS (nz_n bc_1 (by decide) (by decide)) hp362 hw ⟨ok364, (Fr.put (cq := 95000) (Fr.put (cq := 95000) (Fr.put (cq := 95000) (Fr.put (cq := 95000) (Fr.rf) eh270 kd6 (cd_a (by decide)) (by decide)) eh305 kd6 (cd_a (by decide)) (by decide)) eh340 kd6 (cd_a (by decide)) (by decide)) eh363 kd6 (cd_a (by decide)) (by decide)), (b_wid2 bc_1 (by decide) (by decide)), (fun _ => by simp only [ga_of eq366 (hp_self eh363), ge_of eq367 eq368 eq369, gi_of eq365]; have := toi bc_4; omega), (fun _ => by simp only [ga_of eq366 eq370, ge_of eq367 eq368 eq369, gi_of eq365]; have := toi bc_0; have := toi bc_4; omega), (fun _ => by simp only [ga_of eq366 eq371, ge_of eq367 eq368 eq369, gi_of eq365]; have := toi bc_0; have := toi bc_4; omega), (fun _ => by simp only [ga_of eq366 eq372, ge_of eq367 eq368 eq369, gi_of eq365]; have := toi bc_0; have := toi bc_4; omega), (fun _ => by simp only [ga_of eq366 (hp_self eh363), ga_of eq366 eq370, ga_of eq366 eq371, ga_of eq366 eq372, ga_of eq4 eq10, ga_of eq4 eq13, ga_of eq4 eq16, ga_of eq4 eq7]; have := toi bc_0; omega)⟩ (Nat.le_of_ble_eq_true rfl) (Nat.le_of_ble_eq_true rfl) dX12_nextRow_61
          · skip
            have tf373 : zi8.toInt = zi347.toInt := congrArg Int32.toInt cn352
            refine lv_aload_n hx hb dX12_nextRow_31 rfl (lv_at hl 1 rfl) ?_
            refine p_get (ci := 12) (v := .ref qa5) (C := RX12) (T := TX12) (N := 69) hx hb hT iw_X12 hown hK hw hW kd900 (by decide) rfl rfl 56 (by decide) eq342 (hT _ tb_1430) (fun _ h9 => h9) dX12_nextRow_32 ?_
            refine lv_iload_n hx hb dX12_nextRow_35 rfl (lv_at hl 0 rfl) ?_
            refine lv_iconst (v := 0) hx hb dX12_nextRow_36 (by decide) ?_
            refine p_iast (x := 0) hx hb hK hw hS hW kd6 (by decide) rfl (hW.len kd6 (n := 6) rfl (by decide)) (vp_b bc_0 (by decide) (by decide)) dX12_nextRow_37 (fun hp374 eh375 H locs hw hS => ?_)
            have ok376 := wr_95000 bc_0 (by decide) (by decide) ok341 kd6 eh375
            refine lv_iinc (v := (-1)) (lv' := [(1, .int (-1)), (0, .ref qa900)]) hx hb dX12_nextRow_38 hl (k := 0) rfl (by decide) (by decide) rfl (fun ls hl => ?_)
            refine lv_goto (tgt := 7) hx hb dX12_nextRow_41 (by decide) ?_
            refine lv_iload_n hx hb dX12_nextRow_7 rfl (lv_at hl 0 rfl) ?_
            refine lv_if_lt (tgt := 44) hx hb dX12_nextRow_8 (by decide) (fun _ => ?_) (fun c => absurd (d_lt bc_m1 bc_0 (by decide)) c)
            refine lv_iload_n hx hb dX12_nextRow_44 rfl (lv_at hl 0 rfl) ?_
            refine lv_if_ge (tgt := 50) hx hb dX12_nextRow_45 (by decide) (fun c => absurd c (d_nle bc_0 bc_m1 (by decide))) (fun _ => ?_)
            refine lv_iconst (v := 0) hx hb dX12_nextRow_48 (by decide) ?_
            rw [hQ]
            exact kz_i hx hb hr hlocks hS (nz_n bc_0 (by decide) (by decide)) hp374 hw ⟨ok376, (Fr.put (cq := 95000) (Fr.put (cq := 95000) (Fr.put (cq := 95000) (Fr.put (cq := 95000) (Fr.rf) eh270 kd6 (cd_a (by decide)) (by decide)) eh305 kd6 (cd_a (by decide)) (by decide)) eh340 kd6 (cd_a (by decide)) (by decide)) eh375 kd6 (cd_a (by decide)) (by decide)), (b_wid2 bc_0 (by decide) (by decide)), (fun h => absurd h (by decide)), (fun h => absurd h (by decide)), (fun h => absurd h (by decide)), (fun h => absurd h (by decide)), (fun h => absurd h (by decide))⟩ (Nat.le_of_ble_eq_true rfl) (Nat.le_of_ble_eq_true rfl) dX12_nextRow_49
  have nn377 : zi2.toInt ≠ 1 := fun e => cn29 (Int32.toInt_inj.mp (e.trans (by decide)))
  have nn378 : zi2.toInt ≠ 2 := fun e => cn30 (Int32.toInt_inj.mp (e.trans (by decide)))
  have nn379 : zi2.toInt ≠ 3 := fun e => cn31 (Int32.toInt_inj.mp (e.trans (by decide)))
  have nn380 : zi2.toInt ≠ 4 := fun e => cn32 (Int32.toInt_inj.mp (e.trans (by decide)))
  exact False.elim (by have := bd28; omega)
