set_option maxRecDepth 100000 in
set_option maxHeartbeats 4000000 in
theorem cX4_avoids_2 (l : Launch) (G : va_G) (cy : Nat → ClassId) (ev : Ew) (K ln : Nat → Nat) (Ls : List Nat) (hW : SW K ln Ls) (sz : Nat) (hp0 : Nat → Nat → Value) (ok0 : Ok K hp0) (qa900 : Nat) (qa901 : Nat) (zi902 : Int32) (zi903 : Int32) (zi904 : Int32) (kd900 : K qa900 = 5) (kd901 : K qa901 = 11) (bd904 : ((4 : Int) ≤ zi904.toInt ∧ zi904.toInt ≤ 4)) : Met l yX4_avoids (WS yX4_avoids cX4_avoids 7 (some .boolean)) { frames := 6, cells := 0, slots := 0, locals := 150 } (PB2 [.ref qa900, .ref qa901, .int zi902, .int zi903, .int zi904] sz G cy ev (va_pl Ls (cellOf cy K ln hp0))) (QBi (S := (Nat → Nat → Value)) (fun (r : Int32) (u : (Nat → Nat → Value)) => Ok K u ∧ Fr [3003, 3004, 8000, 8001, 8002, 8003, 8004, 8005, 8006, 8007, 8008, 27000, 40000, 41000, 42000] K hp0 u ∧ ((0 : Int) ≤ r.toInt ∧ r.toInt ≤ 1)) G (fun u => va_pl Ls (cellOf cy K ln u)) (va_A (va_pl Ls (cellOf cy K ln hp0)) sz)) 0 0 (va_A (va_pl Ls (cellOf cy K ln hp0)) sz) := by
  refine met_of2 (y := yX4_avoids) (L := 7) (av := [.ref qa900, .ref qa901, .int zi902, .int zi903, .int zi904]) (Qc := fun A => QBi (S := (Nat → Nat → Value)) (fun (r : Int32) (u : (Nat → Nat → Value)) => Ok K u ∧ Fr [3003, 3004, 8000, 8001, 8002, 8003, 8004, 8005, 8006, 8007, 8008, 27000, 40000, 41000, 42000] K hp0 u ∧ ((0 : Int) ≤ r.toInt ∧ r.toInt ≤ 1)) G (fun u => va_pl Ls (cellOf cy K ln u)) A) (plainFor_of_name (by decide)) (Nat.le_of_ble_eq_true rfl) ?_
  intro p e s m below meth c hsz hx hb hr hml hown hT hlocks hin hK A hA hE hw hS ls hl
  have hw : PW G cy K ln Ls A hp0 s.heap := hw
  have hown : s.vm.findClass "LieClock$Orders" = some m.cls := hown
  have hl : lv_has ls 7 [(0, .ref qa900), (1, .ref qa901), (2, .int zi902), (3, .int zi903), (4, .int zi904)] := hl
  obtain ⟨Q, hQ⟩ : ∃ Q : State → Prop, Q = MQ below (QBi (S := (Nat → Nat → Value)) (fun (r : Int32) (u : (Nat → Nat → Value)) => Ok K u ∧ Fr [3003, 3004, 8000, 8001, 8002, 8003, 8004, 8005, 8006, 8007, 8008, 27000, 40000, 41000, 42000] K hp0 u ∧ ((0 : Int) ≤ r.toInt ∧ r.toInt ≤ 1)) G (fun u => va_pl Ls (cellOf cy K ln u)) A) ([.ref qa900, .ref qa901, .int zi902, .int zi903, .int zi904] : List Value).toArray s 0 0 A := ⟨_, rfl⟩
  rw [← hQ]
  refine lv_iload_n hx hb dX4_avoids_0 rfl (lv_at hl 2 rfl) ?_
  refine lv_if_eq (tgt := 16) hx hb dX4_avoids_1 (by decide) (fun cn1 => ?_) (fun cn1 => ?_)
  · skip
    have bd2 : (0 : Int) ≤ zi902.toInt ∧ zi902.toInt ≤ 0 := r_eq_x cn1 (b_all zi902) bc_0 (by decide) (by decide)
    refine lv_iconst (v := 1) hx hb dX4_avoids_16 (by decide) ?_
    rw [hQ]
    exact kz_i hx hb hr hlocks hS (nz_n bc_1 (by decide) (by decide)) hp0 hw ⟨ok0, (Fr.rf), (b_wid2 bc_1 (by decide) (by decide))⟩ (Nat.le_of_ble_eq_true rfl) (Nat.le_of_ble_eq_true rfl) dX4_avoids_17
  · skip
    refine lv_iload hx hb dX4_avoids_4 (lv_at hl 4 rfl) ?_
    refine lv_if_lt (tgt := 16) hx hb dX4_avoids_6 (by decide) (fun c => absurd c (d_nlt bd904 bc_0 (by decide))) (fun _ => ?_)
    refine lv_iload hx hb dX4_avoids_9 (lv_at hl 4 rfl) ?_
    refine lv_bipush (v := 6) hx hb dX4_avoids_11 (by decide) ?_
    refine lv_icmp_lt (tgt := 18) hx hb dX4_avoids_13 (by decide) (fun _ => ?_) (fun c => absurd (d_lt bd904 bc_6 (by decide)) c)
    refine lv_aload_n hx hb dX4_avoids_18 rfl (lv_at hl 0 rfl) ?_
    obtain ⟨qa4, eq3, kd5⟩ := rd_5000 ok0 kd900
    refine p_get (ci := 4) (v := .ref qa4) (C := RX4) (T := TX4) (N := 8) hx hb hT iw_X4 hown hK hw hW kd900 (by decide) rfl rfl 0 (by decide) eq3 (hT _ tb_555) (fun _ h9 => h9) dX4_avoids_19 ?_
    refine lv_iload hx hb dX4_avoids_22 (lv_at hl 4 rfl) ?_
    refine lv_iconst (v := 1) hx hb dX4_avoids_24 (by decide) ?_
    refine lv_iadd hx hb dX4_avoids_25 (lv_topi (fun zi6 ea7 => ?_))
    have bd8 : (5 : Int) ≤ zi6.toInt ∧ zi6.toInt ≤ 5 := b_iadd ea7 bd904 bc_1 (by decide) (by decide) (by decide) (by decide)
    have qe9 : zi6.toInt = (zi904 : Int32).toInt + (1 : Int32).toInt := e_iadd ea7 bd904 bc_1 (by decide) (by decide)
    have qe10 : zi6.toInt = zi904.toInt + 1 := by have ha : (1 : Int32).toInt = 1 := (by decide); rw [ha] at qe9; exact qe9
    obtain ⟨qa12, eq11, kd13⟩ := rd_34000 ok0 kd5 ((zi6 : Int32).toNatClampNeg)
    refine p_aald (v := qa12) hx hb hK hw hW kd5 (by decide) rfl (by decide) (by decide) rfl (hW.len kd5 (n := 7) rfl (by decide)) (vp_b bd8 (by decide) (by decide)) eq11 dX4_avoids_26 ?_
    refine lv_astore (lv' := [(5, .ref qa12), (0, .ref qa900), (1, .ref qa901), (2, .int zi902), (3, .int zi903), (4, .int zi904)]) hx hb dX4_avoids_27 hl (by decide) rfl (fun ls hl => ?_)
    refine lv_iconst (v := 0) hx hb dX4_avoids_29 (by decide) ?_
    refine lv_istore (lv' := [(6, .int 0), (5, .ref qa12), (0, .ref qa900), (1, .ref qa901), (2, .int zi902), (3, .int zi903), (4, .int zi904)]) hx hb dX4_avoids_30 hl (by decide) rfl (fun ls hl => ?_)
    have lp559 : ∀ (n557 : Nat) (hp399 : Nat → Nat → Value) (zi398 : Int32) (H : Heap) (locs : List Loc) (ls : Array Slot), 16 - zi398.toInt < (n557 : Int) → Ok K hp399 → Fr [3003, 3004, 8000, 8001, 8002, 8003, 8004, 8005, 8006, 8007, 8008, 27000, 40000, 41000, 42000] K hp0 hp399 → ((0 : Int) ≤ zi398.toInt ∧ zi398.toInt ≤ 16) → lv_has ls 7 [(0, .ref qa900), (1, .ref qa901), (2, .int zi902), (3, .int zi903), (4, .int zi904), (5, .ref qa12), (6, .int zi398)] → PW G cy K ln Ls A hp399 H → va_S A s.heap H locs → W p l e ({ frames := 6, cells := 0, slots := 0, locals := 150 } : Room) s m ([.ref qa900, .ref qa901, .int zi902, .int zi903, .int zi904] : List Value).toArray below meth c H locs 0 0 Q (F0 m 32 ls []) := by
      intro n557
      induction n557 with
      | zero =>
        intro hp399 zi398 H locs ls hm560 ok401 F400 bd402 hl hw hS
        exact absurd hm560 (by have := bd402; omega)
      | succ n557 ih558 =>
        intro hp399 zi398 H locs ls hm560 ok401 F400 bd402 hl hw hS
        refine lv_iload hx hb dX4_avoids_32 (lv_at hl 6 rfl) ?_
        refine lv_aload_n hx hb dX4_avoids_34 rfl (lv_at hl 1 rfl) ?_
        obtain ⟨zi562, eq561, bd563⟩ := rd_11004 ok401 kd901
        refine p_getN (ci := 10) (v := .int zi562) (C := RX10) (T := TX10) (N := 20) hx hb hT iw_X10 hown hK hw hW kd901 (by decide) rfl rfl 4 (by decide) eq561 (hK.fl nw_95) (fun _ h9 => h9) dX4_avoids_35 ?_
        refine lv_icmp_ge (tgt := 120) hx hb dX4_avoids_38 (by decide) (fun cn564 => ?_) (fun cn564 => ?_)
        · skip
          refine lv_iconst (v := 0) hx hb dX4_avoids_120 (by decide) ?_
          rw [hQ]
          exact kz_i hx hb hr hlocks hS (nz_n bc_0 (by decide) (by decide)) hp399 hw ⟨ok401, (Fr.tr (Fr.rf) F400 (by decide)), (b_wid2 bc_0 (by decide) (by decide))⟩ (Nat.le_of_ble_eq_true rfl) (Nat.le_of_ble_eq_true rfl) dX4_avoids_121
        · skip
          have bd565 : (0 : Int) ≤ zi398.toInt ∧ zi398.toInt ≤ 15 := r_lt_x (Int32.not_le.mp cn564) bd402 bd563 (by decide) (by decide)
          have bd566 : (1 : Int) ≤ zi562.toInt ∧ zi562.toInt ≤ 16 := r_lt_y (Int32.not_le.mp cn564) bd402 bd563 (by decide) (by decide)
          refine lv_iload_n hx hb dX4_avoids_41 rfl (lv_at hl 2 rfl) ?_
          refine lv_iload hx hb dX4_avoids_42 (lv_at hl 6 rfl) ?_
          refine lv_ishr hx hb dX4_avoids_44 (lv_topi (fun zi567 ea568 => ?_))
          refine lv_iconst (v := 1) hx hb dX4_avoids_45 (by decide) ?_
          refine lv_iand hx hb dX4_avoids_46 (lv_topi (fun zi569 ea570 => ?_))
          have bd571 : (0 : Int) ≤ zi569.toInt ∧ zi569.toInt ≤ 1 := b_and_r ea570 bc_1 (by decide) (by decide) (by decide)
          refine lv_if_eq (tgt := 114) hx hb dX4_avoids_47 (by decide) (fun cn572 => ?_) (fun cn572 => ?_)
          · skip
            have bd573 : (0 : Int) ≤ zi569.toInt ∧ zi569.toInt ≤ 0 := r_eq_x cn572 bd571 bc_0 (by decide) (by decide)
            obtain ⟨zi574, ea575⟩ : ∃ z : Int32, z = zi398 + 1 := ⟨_, rfl⟩
            have bd576 : (1 : Int) ≤ zi574.toInt ∧ zi574.toInt ≤ 16 := b_iadd ea575 bd565 bc_1 (by decide) (by decide) (by decide) (by decide)
            have qe577 : zi574.toInt = (zi398 : Int32).toInt + (1 : Int32).toInt := e_iadd ea575 bd565 bc_1 (by decide) (by decide)
            have qe578 : zi574.toInt = zi398.toInt + 1 := by have ha : (1 : Int32).toInt = 1 := (by decide); rw [ha] at qe577; exact qe577
            refine lv_iinc (v := zi574) (lv' := [(6, .int zi574), (0, .ref qa900), (1, .ref qa901), (2, .int zi902), (3, .int zi903), (4, .int zi904), (5, .ref qa12)]) hx hb dX4_avoids_114 hl (k := 6) rfl ea575.symm (by decide) rfl (fun ls hl => ?_)
            refine lv_goto (tgt := 32) hx hb dX4_avoids_117 (by decide) ?_
            exact ih558 hp399 zi574 _ _ ls (by have := hm560; have := qe578; omega) ok401 (Fr.tr (Fr.rf) F400 (by decide)) (b_wid2 bd576 (by decide) (by decide)) (lv_sub hl [1, 2, 3, 4, 5, 6, 0] rfl) hw hS
          · skip
            have bd579 : (1 : Int) ≤ zi569.toInt ∧ zi569.toInt ≤ 1 := r_ne_lo cn572 bd571 (toi bc_0) (by decide) (by decide)
            refine lv_aload hx hb dX4_avoids_50 (lv_at hl 5 rfl) ?_
            refine lv_aload_n hx hb dX4_avoids_52 rfl (lv_at hl 0 rfl) ?_
            have eq580 : hp399 qa900 0 = .ref qa4 := Eq.trans (Fr.at (cq := 5000) F400 kd900 (cd_o (by decide)) (by decide)) eq3
            refine p_get (ci := 4) (v := .ref qa4) (C := RX4) (T := TX4) (N := 8) hx hb hT iw_X4 hown hK hw hW kd900 (by decide) rfl rfl 0 (by decide) eq580 (hT _ tb_555) (fun _ h9 => h9) dX4_avoids_53 ?_
            refine lv_iload hx hb dX4_avoids_56 (lv_at hl 4 rfl) ?_
            obtain ⟨qa582, eq581, kd583⟩ := rd_34000 ok401 kd5 ((zi904 : Int32).toNatClampNeg)
            refine p_aald (v := qa582) hx hb hK hw hW kd5 (by decide) rfl (by decide) (by decide) rfl (hW.len kd5 (n := 7) rfl (by decide)) (vp_b bd904 (by decide) (by decide)) eq581 dX4_avoids_58 ?_
            refine kq_v hw hS hA (va_runV (As := [.ref qa582]) (rest := []) ⟨hx, hb, hml, hown, hT⟩ (cX7_copyMoment_0 l G cy ev K ln Ls hW _ hp399 ok401 qa12 qa582 kd13 kd583) (cwV 1 hT (good_V tb_1051 tb_1223 tb_1049 tb_1050 tb_115) rfl rfl rfl (by decide +kernel) ⟨Nat.le_of_ble_eq_true rfl, Nat.le_of_ble_eq_true rfl⟩) (pool_preV (ci := 7) hK hE hS hA hw hW kd13 (by decide) rfl) rfl rfl hl.1 rfl (lv_room (Nat.le_of_ble_eq_true rfl)) dX4_avoids_59 ⟨Nat.le_of_ble_eq_true rfl, Nat.le_of_ble_eq_true rfl⟩) (fun hp584 H locs hq587 hw hS => ?_)
            obtain ⟨ok585, F586⟩ := hq587
            have hw : PW G cy K ln Ls A hp584 H := hw
            refine lv_aload hx hb dX4_avoids_62 (lv_at hl 5 rfl) ?_
            refine lv_iload_n hx hb dX4_avoids_64 rfl (lv_at hl 3 rfl) ?_
            refine p_putN (ci := 7) (v := .int zi903) (ty := .int) (C := RX7) (T := TX7) (N := 13) hx hb hT iw_X7 tyX7 tyX7_ok nmX7 hown hK hw hS hW kd13 (by decide) rfl rfl 7 (by decide) (hK.fl nw_329) (fun _ h9 => h9) rfl (by decide +kernel) rfl rfl dX4_avoids_65 (fun hp589 eh590 H locs hw hS => ?_)
            have ok591 := wr_8007 ok585 kd13 eh590
            refine lv_aload hx hb dX4_avoids_68 (lv_at hl 5 rfl) ?_
            refine lv_iconst (v := 0) hx hb dX4_avoids_70 (by decide) ?_
            refine p_putN (ci := 7) (v := .int 0) (ty := .boolean) (C := RX7) (T := TX7) (N := 13) hx hb hT iw_X7 tyX7 tyX7_ok nmX7 hown hK hw hS hW kd13 (by decide) rfl rfl 8 (by decide) (hK.fl nw_331) (fun _ h9 => h9) rfl (by decide +kernel) (nz_n bc_0 (by decide) (by decide)) (nz_f bc_0 (by decide) (by decide)) dX4_avoids_71 (fun hp592 eh593 H locs hw hS => ?_)
            have ok594 := wr_8008 bc_0 (by decide) (by decide) ok591 kd13 eh593
            refine lv_aload hx hb dX4_avoids_74 (lv_at hl 5 rfl) ?_
            refine lv_aload_n hx hb dX4_avoids_76 rfl (lv_at hl 1 rfl) ?_
            refine lv_iload hx hb dX4_avoids_77 (lv_at hl 6 rfl) ?_
            refine kq_i hw hS hA (va_runV (As := [.ref qa901, .int zi398]) (rest := []) ⟨hx, hb, hml, hown, hT⟩ (cX7_utter_0 l G cy ev K ln Ls hW _ hp592 ok594 qa12 qa901 zi398 kd13 kd901 (b_wid2 bd565 (by decide) (by decide))) (cwV 2 hT (good_V tb_1059 tb_1235 tb_1057 tb_1058 tb_115) rfl rfl rfl (by decide +kernel) ⟨Nat.le_of_ble_eq_true rfl, Nat.le_of_ble_eq_true rfl⟩) (pool_preV (ci := 7) hK hE hS hA hw hW kd13 (by decide) rfl) rfl rfl hl.1 rfl (lv_room (Nat.le_of_ble_eq_true rfl)) dX4_avoids_79 ⟨Nat.le_of_ble_eq_true rfl, Nat.le_of_ble_eq_true rfl⟩) (fun zi599 hp595 H locs hq598 hw hS => ?_)
            obtain ⟨ok596, F597, bd600⟩ := hq598
            have hw : PW G cy K ln Ls A hp595 H := hw
            refine lv_pop hx hb dX4_avoids_82 rfl ?_
            refine lv_aload hx hb dX4_avoids_83 (lv_at hl 5 rfl) ?_
            obtain ⟨zi602, eq601, bd603⟩ := rd_8008 ok596 kd13
            refine p_getN (ci := 7) (v := .int zi602) (C := RX7) (T := TX7) (N := 13) hx hb hT iw_X7 hown hK hw hW kd13 (by decide) rfl rfl 8 (by decide) eq601 (hK.fl nw_331) (fun _ h9 => h9) dX4_avoids_85 ?_
            refine lv_if_ne (tgt := 114) hx hb dX4_avoids_88 (by decide) (fun cn604 => ?_) (fun cn604 => ?_)
            · skip
              have bd605 : (1 : Int) ≤ zi602.toInt ∧ zi602.toInt ≤ 1 := r_ne_lo cn604 bd603 (toi bc_0) (by decide) (by decide)
              obtain ⟨zi606, ea607⟩ : ∃ z : Int32, z = zi398 + 1 := ⟨_, rfl⟩
              have bd608 : (1 : Int) ≤ zi606.toInt ∧ zi606.toInt ≤ 16 := b_iadd ea607 bd565 bc_1 (by decide) (by decide) (by decide) (by decide)
              have qe609 : zi606.toInt = (zi398 : Int32).toInt + (1 : Int32).toInt := e_iadd ea607 bd565 bc_1 (by decide) (by decide)
              have qe610 : zi606.toInt = zi398.toInt + 1 := by have ha : (1 : Int32).toInt = 1 := (by decide); rw [ha] at qe609; exact qe609
              refine lv_iinc (v := zi606) (lv' := [(6, .int zi606), (0, .ref qa900), (1, .ref qa901), (2, .int zi902), (3, .int zi903), (4, .int zi904), (5, .ref qa12)]) hx hb dX4_avoids_114 hl (k := 6) rfl ea607.symm (by decide) rfl (fun ls hl => ?_)
              refine lv_goto (tgt := 32) hx hb dX4_avoids_117 (by decide) ?_
              exact ih558 hp595 zi606 _ _ ls (by have := hm560; have := qe610; omega) ok596 (Fr.tr (Fr.put (cq := 8008) (Fr.put (cq := 8007) (Fr.tr (Fr.tr (Fr.rf) F400 (by decide)) F586 (by decide)) eh590 kd13 (cd_o (by decide)) (by decide)) eh593 kd13 (cd_o (by decide)) (by decide)) F597 (by decide)) (b_wid2 bd608 (by decide) (by decide)) (lv_sub hl [1, 2, 3, 4, 5, 6, 0] rfl) hw hS
            · skip
              have bd611 : (0 : Int) ≤ zi602.toInt ∧ zi602.toInt ≤ 0 := r_eq_x cn604 bd603 bc_0 (by decide) (by decide)
              refine lv_aload_n hx hb dX4_avoids_91 rfl (lv_at hl 0 rfl) ?_
              refine lv_aload_n hx hb dX4_avoids_92 rfl (lv_at hl 1 rfl) ?_
              refine lv_iload_n hx hb dX4_avoids_93 rfl (lv_at hl 2 rfl) ?_
              refine lv_iconst (v := 1) hx hb dX4_avoids_94 (by decide) ?_
              refine lv_iload hx hb dX4_avoids_95 (lv_at hl 6 rfl) ?_
              refine lv_ishl hx hb dX4_avoids_97 (lv_topi (fun zi612 ea613 => ?_))
              have bd614 : (1 : Int) ≤ zi612.toInt ∧ zi612.toInt ≤ 32768 := b_shl1 15 ea613 bd565 (by decide) (by decide) (by decide) (by decide) (by decide)
              refine lv_iconst (v := (-1)) hx hb dX4_avoids_98 (by decide) ?_
              refine lv_ixor hx hb dX4_avoids_99 (lv_topi (fun zi615 ea616 => ?_))
              refine lv_iand hx hb dX4_avoids_100 (lv_topi (fun zi617 ea618 => ?_))
              refine lv_iload_n hx hb dX4_avoids_101 rfl (lv_at hl 3 rfl) ?_
              refine lv_iload hx hb dX4_avoids_102 (lv_at hl 4 rfl) ?_
              refine lv_iconst (v := 1) hx hb dX4_avoids_104 (by decide) ?_
              refine lv_iadd hx hb dX4_avoids_105 (lv_topi (fun zi619 ea620 => ?_))
              have bd621 : (5 : Int) ≤ zi619.toInt ∧ zi619.toInt ≤ 5 := b_iadd ea620 bd904 bc_1 (by decide) (by decide) (by decide) (by decide)
              have qe622 : zi619.toInt = (zi904 : Int32).toInt + (1 : Int32).toInt := e_iadd ea620 bd904 bc_1 (by decide) (by decide)
              have qe623 : zi619.toInt = zi904.toInt + 1 := by have ha : (1 : Int32).toInt = 1 := (by decide); rw [ha] at qe622; exact qe622
              refine kq_i hw hS hA (va_runV (As := [.ref qa901, .int zi617, .int zi903, .int zi619]) (rest := []) ⟨hx, hb, hml, hown, hT⟩ (cX4_avoids_1 l G cy ev K ln Ls hW _ hp595 ok596 qa900 qa901 zi617 zi903 zi619 kd900 kd901 (b_wid2 bd621 (by decide) (by decide))) (cwV 4 hT (good_V tb_1251 tb_1248 tb_1250 tb_41 tb_119) rfl rfl rfl (by decide +kernel) ⟨Nat.le_of_ble_eq_true rfl, Nat.le_of_ble_eq_true rfl⟩) (pool_preV (ci := 4) hK hE hS hA hw hW kd900 (by decide) rfl) rfl rfl hl.1 rfl (lv_room (Nat.le_of_ble_eq_true rfl)) dX4_avoids_106 ⟨Nat.le_of_ble_eq_true rfl, Nat.le_of_ble_eq_true rfl⟩) (fun zi628 hp624 H locs hq627 hw hS => ?_)
              obtain ⟨ok625, F626, bd629⟩ := hq627
              have hw : PW G cy K ln Ls A hp624 H := hw
              refine lv_if_eq (tgt := 114) hx hb dX4_avoids_109 (by decide) (fun cn630 => ?_) (fun cn630 => ?_)
              · skip
                have bd631 : (0 : Int) ≤ zi628.toInt ∧ zi628.toInt ≤ 0 := r_eq_x cn630 bd629 bc_0 (by decide) (by decide)
                obtain ⟨zi632, ea633⟩ : ∃ z : Int32, z = zi398 + 1 := ⟨_, rfl⟩
                have bd634 : (1 : Int) ≤ zi632.toInt ∧ zi632.toInt ≤ 16 := b_iadd ea633 bd565 bc_1 (by decide) (by decide) (by decide) (by decide)
                have qe635 : zi632.toInt = (zi398 : Int32).toInt + (1 : Int32).toInt := e_iadd ea633 bd565 bc_1 (by decide) (by decide)
                have qe636 : zi632.toInt = zi398.toInt + 1 := by have ha : (1 : Int32).toInt = 1 := (by decide); rw [ha] at qe635; exact qe635
                refine lv_iinc (v := zi632) (lv' := [(6, .int zi632), (0, .ref qa900), (1, .ref qa901), (2, .int zi902), (3, .int zi903), (4, .int zi904), (5, .ref qa12)]) hx hb dX4_avoids_114 hl (k := 6) rfl ea633.symm (by decide) rfl (fun ls hl => ?_)
                refine lv_goto (tgt := 32) hx hb dX4_avoids_117 (by decide) ?_
                exact ih558 hp624 zi632 _ _ ls (by have := hm560; have := qe636; omega) ok625 (Fr.tr (Fr.tr (Fr.put (cq := 8008) (Fr.put (cq := 8007) (Fr.tr (Fr.tr (Fr.rf) F400 (by decide)) F586 (by decide)) eh590 kd13 (cd_o (by decide)) (by decide)) eh593 kd13 (cd_o (by decide)) (by decide)) F597 (by decide)) F626 (by decide)) (b_wid2 bd634 (by decide) (by decide)) (lv_sub hl [1, 2, 3, 4, 5, 6, 0] rfl) hw hS
              · skip
                have bd637 : (1 : Int) ≤ zi628.toInt ∧ zi628.toInt ≤ 1 := r_ne_lo cn630 bd629 (toi bc_0) (by decide) (by decide)
                refine lv_iconst (v := 1) hx hb dX4_avoids_112 (by decide) ?_
                rw [hQ]
                exact kz_i hx hb hr hlocks hS (nz_n bc_1 (by decide) (by decide)) hp624 hw ⟨ok625, (Fr.tr (Fr.tr (Fr.put (cq := 8008) (Fr.put (cq := 8007) (Fr.tr (Fr.tr (Fr.rf) F400 (by decide)) F586 (by decide)) eh590 kd13 (cd_o (by decide)) (by decide)) eh593 kd13 (cd_o (by decide)) (by decide)) F597 (by decide)) F626 (by decide)), (b_wid2 bc_1 (by decide) (by decide))⟩ (Nat.le_of_ble_eq_true rfl) (Nat.le_of_ble_eq_true rfl) dX4_avoids_113
    exact lp559 _ hp0 0 _ _ ls (lp_in _) ok0 (Fr.rf) (b_wid2 bc_0 (by decide) (by decide)) (lv_sub hl [2, 3, 4, 5, 6, 1, 0] rfl) hw hS

set_option maxRecDepth 100000 in
set_option maxHeartbeats 4000000 in
theorem cX4_avoids_3 (l : Launch) (G : va_G) (cy : Nat → ClassId) (ev : Ew) (K ln : Nat → Nat) (Ls : List Nat) (hW : SW K ln Ls) (sz : Nat) (hp0 : Nat → Nat → Value) (ok0 : Ok K hp0) (qa900 : Nat) (qa901 : Nat) (zi902 : Int32) (zi903 : Int32) (zi904 : Int32) (kd900 : K qa900 = 5) (kd901 : K qa901 = 11) (bd904 : ((3 : Int) ≤ zi904.toInt ∧ zi904.toInt ≤ 3)) : Met l yX4_avoids (WS yX4_avoids cX4_avoids 7 (some .boolean)) { frames := 7, cells := 0, slots := 0, locals := 176 } (PB2 [.ref qa900, .ref qa901, .int zi902, .int zi903, .int zi904] sz G cy ev (va_pl Ls (cellOf cy K ln hp0))) (QBi (S := (Nat → Nat → Value)) (fun (r : Int32) (u : (Nat → Nat → Value)) => Ok K u ∧ Fr [3003, 3004, 8000, 8001, 8002, 8003, 8004, 8005, 8006, 8007, 8008, 27000, 40000, 41000, 42000] K hp0 u ∧ ((0 : Int) ≤ r.toInt ∧ r.toInt ≤ 1)) G (fun u => va_pl Ls (cellOf cy K ln u)) (va_A (va_pl Ls (cellOf cy K ln hp0)) sz)) 0 0 (va_A (va_pl Ls (cellOf cy K ln hp0)) sz) := by
  refine met_of2 (y := yX4_avoids) (L := 7) (av := [.ref qa900, .ref qa901, .int zi902, .int zi903, .int zi904]) (Qc := fun A => QBi (S := (Nat → Nat → Value)) (fun (r : Int32) (u : (Nat → Nat → Value)) => Ok K u ∧ Fr [3003, 3004, 8000, 8001, 8002, 8003, 8004, 8005, 8006, 8007, 8008, 27000, 40000, 41000, 42000] K hp0 u ∧ ((0 : Int) ≤ r.toInt ∧ r.toInt ≤ 1)) G (fun u => va_pl Ls (cellOf cy K ln u)) A) (plainFor_of_name (by decide)) (Nat.le_of_ble_eq_true rfl) ?_
  intro p e s m below meth c hsz hx hb hr hml hown hT hlocks hin hK A hA hE hw hS ls hl
  have hw : PW G cy K ln Ls A hp0 s.heap := hw
  have hown : s.vm.findClass "LieClock$Orders" = some m.cls := hown
  have hl : lv_has ls 7 [(0, .ref qa900), (1, .ref qa901), (2, .int zi902), (3, .int zi903), (4, .int zi904)] := hl
  obtain ⟨Q, hQ⟩ : ∃ Q : State → Prop, Q = MQ below (QBi (S := (Nat → Nat → Value)) (fun (r : Int32) (u : (Nat → Nat → Value)) => Ok K u ∧ Fr [3003, 3004, 8000, 8001, 8002, 8003, 8004, 8005, 8006, 8007, 8008, 27000, 40000, 41000, 42000] K hp0 u ∧ ((0 : Int) ≤ r.toInt ∧ r.toInt ≤ 1)) G (fun u => va_pl Ls (cellOf cy K ln u)) A) ([.ref qa900, .ref qa901, .int zi902, .int zi903, .int zi904] : List Value).toArray s 0 0 A := ⟨_, rfl⟩
  rw [← hQ]
  refine lv_iload_n hx hb dX4_avoids_0 rfl (lv_at hl 2 rfl) ?_
  refine lv_if_eq (tgt := 16) hx hb dX4_avoids_1 (by decide) (fun cn1 => ?_) (fun cn1 => ?_)
  · skip
    have bd2 : (0 : Int) ≤ zi902.toInt ∧ zi902.toInt ≤ 0 := r_eq_x cn1 (b_all zi902) bc_0 (by decide) (by decide)
    refine lv_iconst (v := 1) hx hb dX4_avoids_16 (by decide) ?_
    rw [hQ]
    exact kz_i hx hb hr hlocks hS (nz_n bc_1 (by decide) (by decide)) hp0 hw ⟨ok0, (Fr.rf), (b_wid2 bc_1 (by decide) (by decide))⟩ (Nat.le_of_ble_eq_true rfl) (Nat.le_of_ble_eq_true rfl) dX4_avoids_17
  · skip
    refine lv_iload hx hb dX4_avoids_4 (lv_at hl 4 rfl) ?_
    refine lv_if_lt (tgt := 16) hx hb dX4_avoids_6 (by decide) (fun c => absurd c (d_nlt bd904 bc_0 (by decide))) (fun _ => ?_)
    refine lv_iload hx hb dX4_avoids_9 (lv_at hl 4 rfl) ?_
    refine lv_bipush (v := 6) hx hb dX4_avoids_11 (by decide) ?_
    refine lv_icmp_lt (tgt := 18) hx hb dX4_avoids_13 (by decide) (fun _ => ?_) (fun c => absurd (d_lt bd904 bc_6 (by decide)) c)
    refine lv_aload_n hx hb dX4_avoids_18 rfl (lv_at hl 0 rfl) ?_
    obtain ⟨qa4, eq3, kd5⟩ := rd_5000 ok0 kd900
    refine p_get (ci := 4) (v := .ref qa4) (C := RX4) (T := TX4) (N := 8) hx hb hT iw_X4 hown hK hw hW kd900 (by decide) rfl rfl 0 (by decide) eq3 (hT _ tb_555) (fun _ h9 => h9) dX4_avoids_19 ?_
    refine lv_iload hx hb dX4_avoids_22 (lv_at hl 4 rfl) ?_
    refine lv_iconst (v := 1) hx hb dX4_avoids_24 (by decide) ?_
    refine lv_iadd hx hb dX4_avoids_25 (lv_topi (fun zi6 ea7 => ?_))
    have bd8 : (4 : Int) ≤ zi6.toInt ∧ zi6.toInt ≤ 4 := b_iadd ea7 bd904 bc_1 (by decide) (by decide) (by decide) (by decide)
    have qe9 : zi6.toInt = (zi904 : Int32).toInt + (1 : Int32).toInt := e_iadd ea7 bd904 bc_1 (by decide) (by decide)
    have qe10 : zi6.toInt = zi904.toInt + 1 := by have ha : (1 : Int32).toInt = 1 := (by decide); rw [ha] at qe9; exact qe9
    obtain ⟨qa12, eq11, kd13⟩ := rd_34000 ok0 kd5 ((zi6 : Int32).toNatClampNeg)
    refine p_aald (v := qa12) hx hb hK hw hW kd5 (by decide) rfl (by decide) (by decide) rfl (hW.len kd5 (n := 7) rfl (by decide)) (vp_b bd8 (by decide) (by decide)) eq11 dX4_avoids_26 ?_
    refine lv_astore (lv' := [(5, .ref qa12), (0, .ref qa900), (1, .ref qa901), (2, .int zi902), (3, .int zi903), (4, .int zi904)]) hx hb dX4_avoids_27 hl (by decide) rfl (fun ls hl => ?_)
    refine lv_iconst (v := 0) hx hb dX4_avoids_29 (by decide) ?_
    refine lv_istore (lv' := [(6, .int 0), (5, .ref qa12), (0, .ref qa900), (1, .ref qa901), (2, .int zi902), (3, .int zi903), (4, .int zi904)]) hx hb dX4_avoids_30 hl (by decide) rfl (fun ls hl => ?_)
    have lp559 : ∀ (n557 : Nat) (hp399 : Nat → Nat → Value) (zi398 : Int32) (H : Heap) (locs : List Loc) (ls : Array Slot), 16 - zi398.toInt < (n557 : Int) → Ok K hp399 → Fr [3003, 3004, 8000, 8001, 8002, 8003, 8004, 8005, 8006, 8007, 8008, 27000, 40000, 41000, 42000] K hp0 hp399 → ((0 : Int) ≤ zi398.toInt ∧ zi398.toInt ≤ 16) → lv_has ls 7 [(0, .ref qa900), (1, .ref qa901), (2, .int zi902), (3, .int zi903), (4, .int zi904), (5, .ref qa12), (6, .int zi398)] → PW G cy K ln Ls A hp399 H → va_S A s.heap H locs → W p l e ({ frames := 7, cells := 0, slots := 0, locals := 176 } : Room) s m ([.ref qa900, .ref qa901, .int zi902, .int zi903, .int zi904] : List Value).toArray below meth c H locs 0 0 Q (F0 m 32 ls []) := by
      intro n557
      induction n557 with
      | zero =>
        intro hp399 zi398 H locs ls hm560 ok401 F400 bd402 hl hw hS
        exact absurd hm560 (by have := bd402; omega)
      | succ n557 ih558 =>
        intro hp399 zi398 H locs ls hm560 ok401 F400 bd402 hl hw hS
        refine lv_iload hx hb dX4_avoids_32 (lv_at hl 6 rfl) ?_
        refine lv_aload_n hx hb dX4_avoids_34 rfl (lv_at hl 1 rfl) ?_
        obtain ⟨zi562, eq561, bd563⟩ := rd_11004 ok401 kd901
        refine p_getN (ci := 10) (v := .int zi562) (C := RX10) (T := TX10) (N := 20) hx hb hT iw_X10 hown hK hw hW kd901 (by decide) rfl rfl 4 (by decide) eq561 (hK.fl nw_95) (fun _ h9 => h9) dX4_avoids_35 ?_
        refine lv_icmp_ge (tgt := 120) hx hb dX4_avoids_38 (by decide) (fun cn564 => ?_) (fun cn564 => ?_)
        · skip
          refine lv_iconst (v := 0) hx hb dX4_avoids_120 (by decide) ?_
          rw [hQ]
          exact kz_i hx hb hr hlocks hS (nz_n bc_0 (by decide) (by decide)) hp399 hw ⟨ok401, (Fr.tr (Fr.rf) F400 (by decide)), (b_wid2 bc_0 (by decide) (by decide))⟩ (Nat.le_of_ble_eq_true rfl) (Nat.le_of_ble_eq_true rfl) dX4_avoids_121
        · skip
          have bd565 : (0 : Int) ≤ zi398.toInt ∧ zi398.toInt ≤ 15 := r_lt_x (Int32.not_le.mp cn564) bd402 bd563 (by decide) (by decide)
          have bd566 : (1 : Int) ≤ zi562.toInt ∧ zi562.toInt ≤ 16 := r_lt_y (Int32.not_le.mp cn564) bd402 bd563 (by decide) (by decide)
          refine lv_iload_n hx hb dX4_avoids_41 rfl (lv_at hl 2 rfl) ?_
          refine lv_iload hx hb dX4_avoids_42 (lv_at hl 6 rfl) ?_
          refine lv_ishr hx hb dX4_avoids_44 (lv_topi (fun zi567 ea568 => ?_))
          refine lv_iconst (v := 1) hx hb dX4_avoids_45 (by decide) ?_
          refine lv_iand hx hb dX4_avoids_46 (lv_topi (fun zi569 ea570 => ?_))
          have bd571 : (0 : Int) ≤ zi569.toInt ∧ zi569.toInt ≤ 1 := b_and_r ea570 bc_1 (by decide) (by decide) (by decide)
          refine lv_if_eq (tgt := 114) hx hb dX4_avoids_47 (by decide) (fun cn572 => ?_) (fun cn572 => ?_)
          · skip
            have bd573 : (0 : Int) ≤ zi569.toInt ∧ zi569.toInt ≤ 0 := r_eq_x cn572 bd571 bc_0 (by decide) (by decide)
            obtain ⟨zi574, ea575⟩ : ∃ z : Int32, z = zi398 + 1 := ⟨_, rfl⟩
            have bd576 : (1 : Int) ≤ zi574.toInt ∧ zi574.toInt ≤ 16 := b_iadd ea575 bd565 bc_1 (by decide) (by decide) (by decide) (by decide)
            have qe577 : zi574.toInt = (zi398 : Int32).toInt + (1 : Int32).toInt := e_iadd ea575 bd565 bc_1 (by decide) (by decide)
            have qe578 : zi574.toInt = zi398.toInt + 1 := by have ha : (1 : Int32).toInt = 1 := (by decide); rw [ha] at qe577; exact qe577
            refine lv_iinc (v := zi574) (lv' := [(6, .int zi574), (0, .ref qa900), (1, .ref qa901), (2, .int zi902), (3, .int zi903), (4, .int zi904), (5, .ref qa12)]) hx hb dX4_avoids_114 hl (k := 6) rfl ea575.symm (by decide) rfl (fun ls hl => ?_)
            refine lv_goto (tgt := 32) hx hb dX4_avoids_117 (by decide) ?_
            exact ih558 hp399 zi574 _ _ ls (by have := hm560; have := qe578; omega) ok401 (Fr.tr (Fr.rf) F400 (by decide)) (b_wid2 bd576 (by decide) (by decide)) (lv_sub hl [1, 2, 3, 4, 5, 6, 0] rfl) hw hS
          · skip
            have bd579 : (1 : Int) ≤ zi569.toInt ∧ zi569.toInt ≤ 1 := r_ne_lo cn572 bd571 (toi bc_0) (by decide) (by decide)
            refine lv_aload hx hb dX4_avoids_50 (lv_at hl 5 rfl) ?_
            refine lv_aload_n hx hb dX4_avoids_52 rfl (lv_at hl 0 rfl) ?_
            have eq580 : hp399 qa900 0 = .ref qa4 := Eq.trans (Fr.at (cq := 5000) F400 kd900 (cd_o (by decide)) (by decide)) eq3
            refine p_get (ci := 4) (v := .ref qa4) (C := RX4) (T := TX4) (N := 8) hx hb hT iw_X4 hown hK hw hW kd900 (by decide) rfl rfl 0 (by decide) eq580 (hT _ tb_555) (fun _ h9 => h9) dX4_avoids_53 ?_
            refine lv_iload hx hb dX4_avoids_56 (lv_at hl 4 rfl) ?_
            obtain ⟨qa582, eq581, kd583⟩ := rd_34000 ok401 kd5 ((zi904 : Int32).toNatClampNeg)
            refine p_aald (v := qa582) hx hb hK hw hW kd5 (by decide) rfl (by decide) (by decide) rfl (hW.len kd5 (n := 7) rfl (by decide)) (vp_b bd904 (by decide) (by decide)) eq581 dX4_avoids_58 ?_
            refine kq_v hw hS hA (va_runV (As := [.ref qa582]) (rest := []) ⟨hx, hb, hml, hown, hT⟩ (cX7_copyMoment_0 l G cy ev K ln Ls hW _ hp399 ok401 qa12 qa582 kd13 kd583) (cwV 1 hT (good_V tb_1051 tb_1223 tb_1049 tb_1050 tb_115) rfl rfl rfl (by decide +kernel) ⟨Nat.le_of_ble_eq_true rfl, Nat.le_of_ble_eq_true rfl⟩) (pool_preV (ci := 7) hK hE hS hA hw hW kd13 (by decide) rfl) rfl rfl hl.1 rfl (lv_room (Nat.le_of_ble_eq_true rfl)) dX4_avoids_59 ⟨Nat.le_of_ble_eq_true rfl, Nat.le_of_ble_eq_true rfl⟩) (fun hp584 H locs hq587 hw hS => ?_)
            obtain ⟨ok585, F586⟩ := hq587
            have hw : PW G cy K ln Ls A hp584 H := hw
            refine lv_aload hx hb dX4_avoids_62 (lv_at hl 5 rfl) ?_
            refine lv_iload_n hx hb dX4_avoids_64 rfl (lv_at hl 3 rfl) ?_
            refine p_putN (ci := 7) (v := .int zi903) (ty := .int) (C := RX7) (T := TX7) (N := 13) hx hb hT iw_X7 tyX7 tyX7_ok nmX7 hown hK hw hS hW kd13 (by decide) rfl rfl 7 (by decide) (hK.fl nw_329) (fun _ h9 => h9) rfl (by decide +kernel) rfl rfl dX4_avoids_65 (fun hp589 eh590 H locs hw hS => ?_)
            have ok591 := wr_8007 ok585 kd13 eh590
            refine lv_aload hx hb dX4_avoids_68 (lv_at hl 5 rfl) ?_
            refine lv_iconst (v := 0) hx hb dX4_avoids_70 (by decide) ?_
            refine p_putN (ci := 7) (v := .int 0) (ty := .boolean) (C := RX7) (T := TX7) (N := 13) hx hb hT iw_X7 tyX7 tyX7_ok nmX7 hown hK hw hS hW kd13 (by decide) rfl rfl 8 (by decide) (hK.fl nw_331) (fun _ h9 => h9) rfl (by decide +kernel) (nz_n bc_0 (by decide) (by decide)) (nz_f bc_0 (by decide) (by decide)) dX4_avoids_71 (fun hp592 eh593 H locs hw hS => ?_)
            have ok594 := wr_8008 bc_0 (by decide) (by decide) ok591 kd13 eh593
            refine lv_aload hx hb dX4_avoids_74 (lv_at hl 5 rfl) ?_
            refine lv_aload_n hx hb dX4_avoids_76 rfl (lv_at hl 1 rfl) ?_
            refine lv_iload hx hb dX4_avoids_77 (lv_at hl 6 rfl) ?_
            refine kq_i hw hS hA (va_runV (As := [.ref qa901, .int zi398]) (rest := []) ⟨hx, hb, hml, hown, hT⟩ (cX7_utter_0 l G cy ev K ln Ls hW _ hp592 ok594 qa12 qa901 zi398 kd13 kd901 (b_wid2 bd565 (by decide) (by decide))) (cwV 2 hT (good_V tb_1059 tb_1235 tb_1057 tb_1058 tb_115) rfl rfl rfl (by decide +kernel) ⟨Nat.le_of_ble_eq_true rfl, Nat.le_of_ble_eq_true rfl⟩) (pool_preV (ci := 7) hK hE hS hA hw hW kd13 (by decide) rfl) rfl rfl hl.1 rfl (lv_room (Nat.le_of_ble_eq_true rfl)) dX4_avoids_79 ⟨Nat.le_of_ble_eq_true rfl, Nat.le_of_ble_eq_true rfl⟩) (fun zi599 hp595 H locs hq598 hw hS => ?_)
            obtain ⟨ok596, F597, bd600⟩ := hq598
            have hw : PW G cy K ln Ls A hp595 H := hw
            refine lv_pop hx hb dX4_avoids_82 rfl ?_
            refine lv_aload hx hb dX4_avoids_83 (lv_at hl 5 rfl) ?_
            obtain ⟨zi602, eq601, bd603⟩ := rd_8008 ok596 kd13
            refine p_getN (ci := 7) (v := .int zi602) (C := RX7) (T := TX7) (N := 13) hx hb hT iw_X7 hown hK hw hW kd13 (by decide) rfl rfl 8 (by decide) eq601 (hK.fl nw_331) (fun _ h9 => h9) dX4_avoids_85 ?_
            refine lv_if_ne (tgt := 114) hx hb dX4_avoids_88 (by decide) (fun cn604 => ?_) (fun cn604 => ?_)
            · skip
              have bd605 : (1 : Int) ≤ zi602.toInt ∧ zi602.toInt ≤ 1 := r_ne_lo cn604 bd603 (toi bc_0) (by decide) (by decide)
              obtain ⟨zi606, ea607⟩ : ∃ z : Int32, z = zi398 + 1 := ⟨_, rfl⟩
              have bd608 : (1 : Int) ≤ zi606.toInt ∧ zi606.toInt ≤ 16 := b_iadd ea607 bd565 bc_1 (by decide) (by decide) (by decide) (by decide)
              have qe609 : zi606.toInt = (zi398 : Int32).toInt + (1 : Int32).toInt := e_iadd ea607 bd565 bc_1 (by decide) (by decide)
              have qe610 : zi606.toInt = zi398.toInt + 1 := by have ha : (1 : Int32).toInt = 1 := (by decide); rw [ha] at qe609; exact qe609
              refine lv_iinc (v := zi606) (lv' := [(6, .int zi606), (0, .ref qa900), (1, .ref qa901), (2, .int zi902), (3, .int zi903), (4, .int zi904), (5, .ref qa12)]) hx hb dX4_avoids_114 hl (k := 6) rfl ea607.symm (by decide) rfl (fun ls hl => ?_)
              refine lv_goto (tgt := 32) hx hb dX4_avoids_117 (by decide) ?_
              exact ih558 hp595 zi606 _ _ ls (by have := hm560; have := qe610; omega) ok596 (Fr.tr (Fr.put (cq := 8008) (Fr.put (cq := 8007) (Fr.tr (Fr.tr (Fr.rf) F400 (by decide)) F586 (by decide)) eh590 kd13 (cd_o (by decide)) (by decide)) eh593 kd13 (cd_o (by decide)) (by decide)) F597 (by decide)) (b_wid2 bd608 (by decide) (by decide)) (lv_sub hl [1, 2, 3, 4, 5, 6, 0] rfl) hw hS
            · skip
              have bd611 : (0 : Int) ≤ zi602.toInt ∧ zi602.toInt ≤ 0 := r_eq_x cn604 bd603 bc_0 (by decide) (by decide)
              refine lv_aload_n hx hb dX4_avoids_91 rfl (lv_at hl 0 rfl) ?_
              refine lv_aload_n hx hb dX4_avoids_92 rfl (lv_at hl 1 rfl) ?_
              refine lv_iload_n hx hb dX4_avoids_93 rfl (lv_at hl 2 rfl) ?_
              refine lv_iconst (v := 1) hx hb dX4_avoids_94 (by decide) ?_
              refine lv_iload hx hb dX4_avoids_95 (lv_at hl 6 rfl) ?_
              refine lv_ishl hx hb dX4_avoids_97 (lv_topi (fun zi612 ea613 => ?_))
              have bd614 : (1 : Int) ≤ zi612.toInt ∧ zi612.toInt ≤ 32768 := b_shl1 15 ea613 bd565 (by decide) (by decide) (by decide) (by decide) (by decide)
              refine lv_iconst (v := (-1)) hx hb dX4_avoids_98 (by decide) ?_
              refine lv_ixor hx hb dX4_avoids_99 (lv_topi (fun zi615 ea616 => ?_))
              refine lv_iand hx hb dX4_avoids_100 (lv_topi (fun zi617 ea618 => ?_))
              refine lv_iload_n hx hb dX4_avoids_101 rfl (lv_at hl 3 rfl) ?_
              refine lv_iload hx hb dX4_avoids_102 (lv_at hl 4 rfl) ?_
              refine lv_iconst (v := 1) hx hb dX4_avoids_104 (by decide) ?_
              refine lv_iadd hx hb dX4_avoids_105 (lv_topi (fun zi619 ea620 => ?_))
              have bd621 : (4 : Int) ≤ zi619.toInt ∧ zi619.toInt ≤ 4 := b_iadd ea620 bd904 bc_1 (by decide) (by decide) (by decide) (by decide)
              have qe622 : zi619.toInt = (zi904 : Int32).toInt + (1 : Int32).toInt := e_iadd ea620 bd904 bc_1 (by decide) (by decide)
              have qe623 : zi619.toInt = zi904.toInt + 1 := by have ha : (1 : Int32).toInt = 1 := (by decide); rw [ha] at qe622; exact qe622
              refine kq_i hw hS hA (va_runV (As := [.ref qa901, .int zi617, .int zi903, .int zi619]) (rest := []) ⟨hx, hb, hml, hown, hT⟩ (cX4_avoids_2 l G cy ev K ln Ls hW _ hp595 ok596 qa900 qa901 zi617 zi903 zi619 kd900 kd901 (b_wid2 bd621 (by decide) (by decide))) (cwV 4 hT (good_V tb_1251 tb_1248 tb_1250 tb_41 tb_119) rfl rfl rfl (by decide +kernel) ⟨Nat.le_of_ble_eq_true rfl, Nat.le_of_ble_eq_true rfl⟩) (pool_preV (ci := 4) hK hE hS hA hw hW kd900 (by decide) rfl) rfl rfl hl.1 rfl (lv_room (Nat.le_of_ble_eq_true rfl)) dX4_avoids_106 ⟨Nat.le_of_ble_eq_true rfl, Nat.le_of_ble_eq_true rfl⟩) (fun zi628 hp624 H locs hq627 hw hS => ?_)
              obtain ⟨ok625, F626, bd629⟩ := hq627
              have hw : PW G cy K ln Ls A hp624 H := hw
              refine lv_if_eq (tgt := 114) hx hb dX4_avoids_109 (by decide) (fun cn630 => ?_) (fun cn630 => ?_)
              · skip
                have bd631 : (0 : Int) ≤ zi628.toInt ∧ zi628.toInt ≤ 0 := r_eq_x cn630 bd629 bc_0 (by decide) (by decide)
                obtain ⟨zi632, ea633⟩ : ∃ z : Int32, z = zi398 + 1 := ⟨_, rfl⟩
                have bd634 : (1 : Int) ≤ zi632.toInt ∧ zi632.toInt ≤ 16 := b_iadd ea633 bd565 bc_1 (by decide) (by decide) (by decide) (by decide)
                have qe635 : zi632.toInt = (zi398 : Int32).toInt + (1 : Int32).toInt := e_iadd ea633 bd565 bc_1 (by decide) (by decide)
                have qe636 : zi632.toInt = zi398.toInt + 1 := by have ha : (1 : Int32).toInt = 1 := (by decide); rw [ha] at qe635; exact qe635
                refine lv_iinc (v := zi632) (lv' := [(6, .int zi632), (0, .ref qa900), (1, .ref qa901), (2, .int zi902), (3, .int zi903), (4, .int zi904), (5, .ref qa12)]) hx hb dX4_avoids_114 hl (k := 6) rfl ea633.symm (by decide) rfl (fun ls hl => ?_)
                refine lv_goto (tgt := 32) hx hb dX4_avoids_117 (by decide) ?_
                exact ih558 hp624 zi632 _ _ ls (by have := hm560; have := qe636; omega) ok625 (Fr.tr (Fr.tr (Fr.put (cq := 8008) (Fr.put (cq := 8007) (Fr.tr (Fr.tr (Fr.rf) F400 (by decide)) F586 (by decide)) eh590 kd13 (cd_o (by decide)) (by decide)) eh593 kd13 (cd_o (by decide)) (by decide)) F597 (by decide)) F626 (by decide)) (b_wid2 bd634 (by decide) (by decide)) (lv_sub hl [1, 2, 3, 4, 5, 6, 0] rfl) hw hS
              · skip
                have bd637 : (1 : Int) ≤ zi628.toInt ∧ zi628.toInt ≤ 1 := r_ne_lo cn630 bd629 (toi bc_0) (by decide) (by decide)
                refine lv_iconst (v := 1) hx hb dX4_avoids_112 (by decide) ?_
                rw [hQ]
                exact kz_i hx hb hr hlocks hS (nz_n bc_1 (by decide) (by decide)) hp624 hw ⟨ok625, (Fr.tr (Fr.tr (Fr.put (cq := 8008) (Fr.put (cq := 8007) (Fr.tr (Fr.tr (Fr.rf) F400 (by decide)) F586 (by decide)) eh590 kd13 (cd_o (by decide)) (by decide)) eh593 kd13 (cd_o (by decide)) (by decide)) F597 (by decide)) F626 (by decide)), (b_wid2 bc_1 (by decide) (by decide))⟩ (Nat.le_of_ble_eq_true rfl) (Nat.le_of_ble_eq_true rfl) dX4_avoids_113
    exact lp559 _ hp0 0 _ _ ls (lp_in _) ok0 (Fr.rf) (b_wid2 bc_0 (by decide) (by decide)) (lv_sub hl [2, 3, 4, 5, 6, 1, 0] rfl) hw hS

set_option maxRecDepth 100000 in
set_option maxHeartbeats 4000000 in
theorem cX4_avoids_4 (l : Launch) (G : va_G) (cy : Nat → ClassId) (ev : Ew) (K ln : Nat → Nat) (Ls : List Nat) (hW : SW K ln Ls) (sz : Nat) (hp0 : Nat → Nat → Value) (ok0 : Ok K hp0) (qa900 : Nat) (qa901 : Nat) (zi902 : Int32) (zi903 : Int32) (zi904 : Int32) (kd900 : K qa900 = 5) (kd901 : K qa901 = 11) (bd904 : ((2 : Int) ≤ zi904.toInt ∧ zi904.toInt ≤ 2)) : Met l yX4_avoids (WS yX4_avoids cX4_avoids 7 (some .boolean)) { frames := 8, cells := 0, slots := 0, locals := 202 } (PB2 [.ref qa900, .ref qa901, .int zi902, .int zi903, .int zi904] sz G cy ev (va_pl Ls (cellOf cy K ln hp0))) (QBi (S := (Nat → Nat → Value)) (fun (r : Int32) (u : (Nat → Nat → Value)) => Ok K u ∧ Fr [3003, 3004, 8000, 8001, 8002, 8003, 8004, 8005, 8006, 8007, 8008, 27000, 40000, 41000, 42000] K hp0 u ∧ ((0 : Int) ≤ r.toInt ∧ r.toInt ≤ 1)) G (fun u => va_pl Ls (cellOf cy K ln u)) (va_A (va_pl Ls (cellOf cy K ln hp0)) sz)) 0 0 (va_A (va_pl Ls (cellOf cy K ln hp0)) sz) := by
  refine met_of2 (y := yX4_avoids) (L := 7) (av := [.ref qa900, .ref qa901, .int zi902, .int zi903, .int zi904]) (Qc := fun A => QBi (S := (Nat → Nat → Value)) (fun (r : Int32) (u : (Nat → Nat → Value)) => Ok K u ∧ Fr [3003, 3004, 8000, 8001, 8002, 8003, 8004, 8005, 8006, 8007, 8008, 27000, 40000, 41000, 42000] K hp0 u ∧ ((0 : Int) ≤ r.toInt ∧ r.toInt ≤ 1)) G (fun u => va_pl Ls (cellOf cy K ln u)) A) (plainFor_of_name (by decide)) (Nat.le_of_ble_eq_true rfl) ?_
  intro p e s m below meth c hsz hx hb hr hml hown hT hlocks hin hK A hA hE hw hS ls hl
  have hw : PW G cy K ln Ls A hp0 s.heap := hw
  have hown : s.vm.findClass "LieClock$Orders" = some m.cls := hown
  have hl : lv_has ls 7 [(0, .ref qa900), (1, .ref qa901), (2, .int zi902), (3, .int zi903), (4, .int zi904)] := hl
  obtain ⟨Q, hQ⟩ : ∃ Q : State → Prop, Q = MQ below (QBi (S := (Nat → Nat → Value)) (fun (r : Int32) (u : (Nat → Nat → Value)) => Ok K u ∧ Fr [3003, 3004, 8000, 8001, 8002, 8003, 8004, 8005, 8006, 8007, 8008, 27000, 40000, 41000, 42000] K hp0 u ∧ ((0 : Int) ≤ r.toInt ∧ r.toInt ≤ 1)) G (fun u => va_pl Ls (cellOf cy K ln u)) A) ([.ref qa900, .ref qa901, .int zi902, .int zi903, .int zi904] : List Value).toArray s 0 0 A := ⟨_, rfl⟩
  rw [← hQ]
  refine lv_iload_n hx hb dX4_avoids_0 rfl (lv_at hl 2 rfl) ?_
  refine lv_if_eq (tgt := 16) hx hb dX4_avoids_1 (by decide) (fun cn1 => ?_) (fun cn1 => ?_)
  · skip
    have bd2 : (0 : Int) ≤ zi902.toInt ∧ zi902.toInt ≤ 0 := r_eq_x cn1 (b_all zi902) bc_0 (by decide) (by decide)
    refine lv_iconst (v := 1) hx hb dX4_avoids_16 (by decide) ?_
    rw [hQ]
    exact kz_i hx hb hr hlocks hS (nz_n bc_1 (by decide) (by decide)) hp0 hw ⟨ok0, (Fr.rf), (b_wid2 bc_1 (by decide) (by decide))⟩ (Nat.le_of_ble_eq_true rfl) (Nat.le_of_ble_eq_true rfl) dX4_avoids_17
  · skip
    refine lv_iload hx hb dX4_avoids_4 (lv_at hl 4 rfl) ?_
    refine lv_if_lt (tgt := 16) hx hb dX4_avoids_6 (by decide) (fun c => absurd c (d_nlt bd904 bc_0 (by decide))) (fun _ => ?_)
    refine lv_iload hx hb dX4_avoids_9 (lv_at hl 4 rfl) ?_
    refine lv_bipush (v := 6) hx hb dX4_avoids_11 (by decide) ?_
    refine lv_icmp_lt (tgt := 18) hx hb dX4_avoids_13 (by decide) (fun _ => ?_) (fun c => absurd (d_lt bd904 bc_6 (by decide)) c)
    refine lv_aload_n hx hb dX4_avoids_18 rfl (lv_at hl 0 rfl) ?_
    obtain ⟨qa4, eq3, kd5⟩ := rd_5000 ok0 kd900
    refine p_get (ci := 4) (v := .ref qa4) (C := RX4) (T := TX4) (N := 8) hx hb hT iw_X4 hown hK hw hW kd900 (by decide) rfl rfl 0 (by decide) eq3 (hT _ tb_555) (fun _ h9 => h9) dX4_avoids_19 ?_
    refine lv_iload hx hb dX4_avoids_22 (lv_at hl 4 rfl) ?_
    refine lv_iconst (v := 1) hx hb dX4_avoids_24 (by decide) ?_
    refine lv_iadd hx hb dX4_avoids_25 (lv_topi (fun zi6 ea7 => ?_))
    have bd8 : (3 : Int) ≤ zi6.toInt ∧ zi6.toInt ≤ 3 := b_iadd ea7 bd904 bc_1 (by decide) (by decide) (by decide) (by decide)
    have qe9 : zi6.toInt = (zi904 : Int32).toInt + (1 : Int32).toInt := e_iadd ea7 bd904 bc_1 (by decide) (by decide)
    have qe10 : zi6.toInt = zi904.toInt + 1 := by have ha : (1 : Int32).toInt = 1 := (by decide); rw [ha] at qe9; exact qe9
    obtain ⟨qa12, eq11, kd13⟩ := rd_34000 ok0 kd5 ((zi6 : Int32).toNatClampNeg)
    refine p_aald (v := qa12) hx hb hK hw hW kd5 (by decide) rfl (by decide) (by decide) rfl (hW.len kd5 (n := 7) rfl (by decide)) (vp_b bd8 (by decide) (by decide)) eq11 dX4_avoids_26 ?_
    refine lv_astore (lv' := [(5, .ref qa12), (0, .ref qa900), (1, .ref qa901), (2, .int zi902), (3, .int zi903), (4, .int zi904)]) hx hb dX4_avoids_27 hl (by decide) rfl (fun ls hl => ?_)
    refine lv_iconst (v := 0) hx hb dX4_avoids_29 (by decide) ?_
    refine lv_istore (lv' := [(6, .int 0), (5, .ref qa12), (0, .ref qa900), (1, .ref qa901), (2, .int zi902), (3, .int zi903), (4, .int zi904)]) hx hb dX4_avoids_30 hl (by decide) rfl (fun ls hl => ?_)
    have lp559 : ∀ (n557 : Nat) (hp399 : Nat → Nat → Value) (zi398 : Int32) (H : Heap) (locs : List Loc) (ls : Array Slot), 16 - zi398.toInt < (n557 : Int) → Ok K hp399 → Fr [3003, 3004, 8000, 8001, 8002, 8003, 8004, 8005, 8006, 8007, 8008, 27000, 40000, 41000, 42000] K hp0 hp399 → ((0 : Int) ≤ zi398.toInt ∧ zi398.toInt ≤ 16) → lv_has ls 7 [(0, .ref qa900), (1, .ref qa901), (2, .int zi902), (3, .int zi903), (4, .int zi904), (5, .ref qa12), (6, .int zi398)] → PW G cy K ln Ls A hp399 H → va_S A s.heap H locs → W p l e ({ frames := 8, cells := 0, slots := 0, locals := 202 } : Room) s m ([.ref qa900, .ref qa901, .int zi902, .int zi903, .int zi904] : List Value).toArray below meth c H locs 0 0 Q (F0 m 32 ls []) := by
      intro n557
      induction n557 with
      | zero =>
        intro hp399 zi398 H locs ls hm560 ok401 F400 bd402 hl hw hS
        exact absurd hm560 (by have := bd402; omega)
      | succ n557 ih558 =>
        intro hp399 zi398 H locs ls hm560 ok401 F400 bd402 hl hw hS
        refine lv_iload hx hb dX4_avoids_32 (lv_at hl 6 rfl) ?_
        refine lv_aload_n hx hb dX4_avoids_34 rfl (lv_at hl 1 rfl) ?_
        obtain ⟨zi562, eq561, bd563⟩ := rd_11004 ok401 kd901
        refine p_getN (ci := 10) (v := .int zi562) (C := RX10) (T := TX10) (N := 20) hx hb hT iw_X10 hown hK hw hW kd901 (by decide) rfl rfl 4 (by decide) eq561 (hK.fl nw_95) (fun _ h9 => h9) dX4_avoids_35 ?_
        refine lv_icmp_ge (tgt := 120) hx hb dX4_avoids_38 (by decide) (fun cn564 => ?_) (fun cn564 => ?_)
        · skip
          refine lv_iconst (v := 0) hx hb dX4_avoids_120 (by decide) ?_
          rw [hQ]
          exact kz_i hx hb hr hlocks hS (nz_n bc_0 (by decide) (by decide)) hp399 hw ⟨ok401, (Fr.tr (Fr.rf) F400 (by decide)), (b_wid2 bc_0 (by decide) (by decide))⟩ (Nat.le_of_ble_eq_true rfl) (Nat.le_of_ble_eq_true rfl) dX4_avoids_121
        · skip
          have bd565 : (0 : Int) ≤ zi398.toInt ∧ zi398.toInt ≤ 15 := r_lt_x (Int32.not_le.mp cn564) bd402 bd563 (by decide) (by decide)
          have bd566 : (1 : Int) ≤ zi562.toInt ∧ zi562.toInt ≤ 16 := r_lt_y (Int32.not_le.mp cn564) bd402 bd563 (by decide) (by decide)
          refine lv_iload_n hx hb dX4_avoids_41 rfl (lv_at hl 2 rfl) ?_
          refine lv_iload hx hb dX4_avoids_42 (lv_at hl 6 rfl) ?_
          refine lv_ishr hx hb dX4_avoids_44 (lv_topi (fun zi567 ea568 => ?_))
          refine lv_iconst (v := 1) hx hb dX4_avoids_45 (by decide) ?_
          refine lv_iand hx hb dX4_avoids_46 (lv_topi (fun zi569 ea570 => ?_))
          have bd571 : (0 : Int) ≤ zi569.toInt ∧ zi569.toInt ≤ 1 := b_and_r ea570 bc_1 (by decide) (by decide) (by decide)
          refine lv_if_eq (tgt := 114) hx hb dX4_avoids_47 (by decide) (fun cn572 => ?_) (fun cn572 => ?_)
          · skip
            have bd573 : (0 : Int) ≤ zi569.toInt ∧ zi569.toInt ≤ 0 := r_eq_x cn572 bd571 bc_0 (by decide) (by decide)
            obtain ⟨zi574, ea575⟩ : ∃ z : Int32, z = zi398 + 1 := ⟨_, rfl⟩
            have bd576 : (1 : Int) ≤ zi574.toInt ∧ zi574.toInt ≤ 16 := b_iadd ea575 bd565 bc_1 (by decide) (by decide) (by decide) (by decide)
            have qe577 : zi574.toInt = (zi398 : Int32).toInt + (1 : Int32).toInt := e_iadd ea575 bd565 bc_1 (by decide) (by decide)
            have qe578 : zi574.toInt = zi398.toInt + 1 := by have ha : (1 : Int32).toInt = 1 := (by decide); rw [ha] at qe577; exact qe577
            refine lv_iinc (v := zi574) (lv' := [(6, .int zi574), (0, .ref qa900), (1, .ref qa901), (2, .int zi902), (3, .int zi903), (4, .int zi904), (5, .ref qa12)]) hx hb dX4_avoids_114 hl (k := 6) rfl ea575.symm (by decide) rfl (fun ls hl => ?_)
            refine lv_goto (tgt := 32) hx hb dX4_avoids_117 (by decide) ?_
            exact ih558 hp399 zi574 _ _ ls (by have := hm560; have := qe578; omega) ok401 (Fr.tr (Fr.rf) F400 (by decide)) (b_wid2 bd576 (by decide) (by decide)) (lv_sub hl [1, 2, 3, 4, 5, 6, 0] rfl) hw hS
          · skip
            have bd579 : (1 : Int) ≤ zi569.toInt ∧ zi569.toInt ≤ 1 := r_ne_lo cn572 bd571 (toi bc_0) (by decide) (by decide)
            refine lv_aload hx hb dX4_avoids_50 (lv_at hl 5 rfl) ?_
            refine lv_aload_n hx hb dX4_avoids_52 rfl (lv_at hl 0 rfl) ?_
            have eq580 : hp399 qa900 0 = .ref qa4 := Eq.trans (Fr.at (cq := 5000) F400 kd900 (cd_o (by decide)) (by decide)) eq3
            refine p_get (ci := 4) (v := .ref qa4) (C := RX4) (T := TX4) (N := 8) hx hb hT iw_X4 hown hK hw hW kd900 (by decide) rfl rfl 0 (by decide) eq580 (hT _ tb_555) (fun _ h9 => h9) dX4_avoids_53 ?_
            refine lv_iload hx hb dX4_avoids_56 (lv_at hl 4 rfl) ?_
            obtain ⟨qa582, eq581, kd583⟩ := rd_34000 ok401 kd5 ((zi904 : Int32).toNatClampNeg)
            refine p_aald (v := qa582) hx hb hK hw hW kd5 (by decide) rfl (by decide) (by decide) rfl (hW.len kd5 (n := 7) rfl (by decide)) (vp_b bd904 (by decide) (by decide)) eq581 dX4_avoids_58 ?_
            refine kq_v hw hS hA (va_runV (As := [.ref qa582]) (rest := []) ⟨hx, hb, hml, hown, hT⟩ (cX7_copyMoment_0 l G cy ev K ln Ls hW _ hp399 ok401 qa12 qa582 kd13 kd583) (cwV 1 hT (good_V tb_1051 tb_1223 tb_1049 tb_1050 tb_115) rfl rfl rfl (by decide +kernel) ⟨Nat.le_of_ble_eq_true rfl, Nat.le_of_ble_eq_true rfl⟩) (pool_preV (ci := 7) hK hE hS hA hw hW kd13 (by decide) rfl) rfl rfl hl.1 rfl (lv_room (Nat.le_of_ble_eq_true rfl)) dX4_avoids_59 ⟨Nat.le_of_ble_eq_true rfl, Nat.le_of_ble_eq_true rfl⟩) (fun hp584 H locs hq587 hw hS => ?_)
            obtain ⟨ok585, F586⟩ := hq587
            have hw : PW G cy K ln Ls A hp584 H := hw
            refine lv_aload hx hb dX4_avoids_62 (lv_at hl 5 rfl) ?_
            refine lv_iload_n hx hb dX4_avoids_64 rfl (lv_at hl 3 rfl) ?_
            refine p_putN (ci := 7) (v := .int zi903) (ty := .int) (C := RX7) (T := TX7) (N := 13) hx hb hT iw_X7 tyX7 tyX7_ok nmX7 hown hK hw hS hW kd13 (by decide) rfl rfl 7 (by decide) (hK.fl nw_329) (fun _ h9 => h9) rfl (by decide +kernel) rfl rfl dX4_avoids_65 (fun hp589 eh590 H locs hw hS => ?_)
            have ok591 := wr_8007 ok585 kd13 eh590
            refine lv_aload hx hb dX4_avoids_68 (lv_at hl 5 rfl) ?_
            refine lv_iconst (v := 0) hx hb dX4_avoids_70 (by decide) ?_
            refine p_putN (ci := 7) (v := .int 0) (ty := .boolean) (C := RX7) (T := TX7) (N := 13) hx hb hT iw_X7 tyX7 tyX7_ok nmX7 hown hK hw hS hW kd13 (by decide) rfl rfl 8 (by decide) (hK.fl nw_331) (fun _ h9 => h9) rfl (by decide +kernel) (nz_n bc_0 (by decide) (by decide)) (nz_f bc_0 (by decide) (by decide)) dX4_avoids_71 (fun hp592 eh593 H locs hw hS => ?_)
            have ok594 := wr_8008 bc_0 (by decide) (by decide) ok591 kd13 eh593
            refine lv_aload hx hb dX4_avoids_74 (lv_at hl 5 rfl) ?_
            refine lv_aload_n hx hb dX4_avoids_76 rfl (lv_at hl 1 rfl) ?_
            refine lv_iload hx hb dX4_avoids_77 (lv_at hl 6 rfl) ?_
            refine kq_i hw hS hA (va_runV (As := [.ref qa901, .int zi398]) (rest := []) ⟨hx, hb, hml, hown, hT⟩ (cX7_utter_0 l G cy ev K ln Ls hW _ hp592 ok594 qa12 qa901 zi398 kd13 kd901 (b_wid2 bd565 (by decide) (by decide))) (cwV 2 hT (good_V tb_1059 tb_1235 tb_1057 tb_1058 tb_115) rfl rfl rfl (by decide +kernel) ⟨Nat.le_of_ble_eq_true rfl, Nat.le_of_ble_eq_true rfl⟩) (pool_preV (ci := 7) hK hE hS hA hw hW kd13 (by decide) rfl) rfl rfl hl.1 rfl (lv_room (Nat.le_of_ble_eq_true rfl)) dX4_avoids_79 ⟨Nat.le_of_ble_eq_true rfl, Nat.le_of_ble_eq_true rfl⟩) (fun zi599 hp595 H locs hq598 hw hS => ?_)
            obtain ⟨ok596, F597, bd600⟩ := hq598
            have hw : PW G cy K ln Ls A hp595 H := hw
            refine lv_pop hx hb dX4_avoids_82 rfl ?_
            refine lv_aload hx hb dX4_avoids_83 (lv_at hl 5 rfl) ?_
            obtain ⟨zi602, eq601, bd603⟩ := rd_8008 ok596 kd13
            refine p_getN (ci := 7) (v := .int zi602) (C := RX7) (T := TX7) (N := 13) hx hb hT iw_X7 hown hK hw hW kd13 (by decide) rfl rfl 8 (by decide) eq601 (hK.fl nw_331) (fun _ h9 => h9) dX4_avoids_85 ?_
            refine lv_if_ne (tgt := 114) hx hb dX4_avoids_88 (by decide) (fun cn604 => ?_) (fun cn604 => ?_)
            · skip
              have bd605 : (1 : Int) ≤ zi602.toInt ∧ zi602.toInt ≤ 1 := r_ne_lo cn604 bd603 (toi bc_0) (by decide) (by decide)
              obtain ⟨zi606, ea607⟩ : ∃ z : Int32, z = zi398 + 1 := ⟨_, rfl⟩
              have bd608 : (1 : Int) ≤ zi606.toInt ∧ zi606.toInt ≤ 16 := b_iadd ea607 bd565 bc_1 (by decide) (by decide) (by decide) (by decide)
              have qe609 : zi606.toInt = (zi398 : Int32).toInt + (1 : Int32).toInt := e_iadd ea607 bd565 bc_1 (by decide) (by decide)
              have qe610 : zi606.toInt = zi398.toInt + 1 := by have ha : (1 : Int32).toInt = 1 := (by decide); rw [ha] at qe609; exact qe609
              refine lv_iinc (v := zi606) (lv' := [(6, .int zi606), (0, .ref qa900), (1, .ref qa901), (2, .int zi902), (3, .int zi903), (4, .int zi904), (5, .ref qa12)]) hx hb dX4_avoids_114 hl (k := 6) rfl ea607.symm (by decide) rfl (fun ls hl => ?_)
              refine lv_goto (tgt := 32) hx hb dX4_avoids_117 (by decide) ?_
              exact ih558 hp595 zi606 _ _ ls (by have := hm560; have := qe610; omega) ok596 (Fr.tr (Fr.put (cq := 8008) (Fr.put (cq := 8007) (Fr.tr (Fr.tr (Fr.rf) F400 (by decide)) F586 (by decide)) eh590 kd13 (cd_o (by decide)) (by decide)) eh593 kd13 (cd_o (by decide)) (by decide)) F597 (by decide)) (b_wid2 bd608 (by decide) (by decide)) (lv_sub hl [1, 2, 3, 4, 5, 6, 0] rfl) hw hS
            · skip
              have bd611 : (0 : Int) ≤ zi602.toInt ∧ zi602.toInt ≤ 0 := r_eq_x cn604 bd603 bc_0 (by decide) (by decide)
              refine lv_aload_n hx hb dX4_avoids_91 rfl (lv_at hl 0 rfl) ?_
              refine lv_aload_n hx hb dX4_avoids_92 rfl (lv_at hl 1 rfl) ?_
              refine lv_iload_n hx hb dX4_avoids_93 rfl (lv_at hl 2 rfl) ?_
              refine lv_iconst (v := 1) hx hb dX4_avoids_94 (by decide) ?_
              refine lv_iload hx hb dX4_avoids_95 (lv_at hl 6 rfl) ?_
              refine lv_ishl hx hb dX4_avoids_97 (lv_topi (fun zi612 ea613 => ?_))
              have bd614 : (1 : Int) ≤ zi612.toInt ∧ zi612.toInt ≤ 32768 := b_shl1 15 ea613 bd565 (by decide) (by decide) (by decide) (by decide) (by decide)
              refine lv_iconst (v := (-1)) hx hb dX4_avoids_98 (by decide) ?_
              refine lv_ixor hx hb dX4_avoids_99 (lv_topi (fun zi615 ea616 => ?_))
              refine lv_iand hx hb dX4_avoids_100 (lv_topi (fun zi617 ea618 => ?_))
              refine lv_iload_n hx hb dX4_avoids_101 rfl (lv_at hl 3 rfl) ?_
              refine lv_iload hx hb dX4_avoids_102 (lv_at hl 4 rfl) ?_
              refine lv_iconst (v := 1) hx hb dX4_avoids_104 (by decide) ?_
              refine lv_iadd hx hb dX4_avoids_105 (lv_topi (fun zi619 ea620 => ?_))
              have bd621 : (3 : Int) ≤ zi619.toInt ∧ zi619.toInt ≤ 3 := b_iadd ea620 bd904 bc_1 (by decide) (by decide) (by decide) (by decide)
              have qe622 : zi619.toInt = (zi904 : Int32).toInt + (1 : Int32).toInt := e_iadd ea620 bd904 bc_1 (by decide) (by decide)
              have qe623 : zi619.toInt = zi904.toInt + 1 := by have ha : (1 : Int32).toInt = 1 := (by decide); rw [ha] at qe622; exact qe622
              refine kq_i hw hS hA (va_runV (As := [.ref qa901, .int zi617, .int zi903, .int zi619]) (rest := []) ⟨hx, hb, hml, hown, hT⟩ (cX4_avoids_3 l G cy ev K ln Ls hW _ hp595 ok596 qa900 qa901 zi617 zi903 zi619 kd900 kd901 (b_wid2 bd621 (by decide) (by decide))) (cwV 4 hT (good_V tb_1251 tb_1248 tb_1250 tb_41 tb_119) rfl rfl rfl (by decide +kernel) ⟨Nat.le_of_ble_eq_true rfl, Nat.le_of_ble_eq_true rfl⟩) (pool_preV (ci := 4) hK hE hS hA hw hW kd900 (by decide) rfl) rfl rfl hl.1 rfl (lv_room (Nat.le_of_ble_eq_true rfl)) dX4_avoids_106 ⟨Nat.le_of_ble_eq_true rfl, Nat.le_of_ble_eq_true rfl⟩) (fun zi628 hp624 H locs hq627 hw hS => ?_)
              obtain ⟨ok625, F626, bd629⟩ := hq627
              have hw : PW G cy K ln Ls A hp624 H := hw
              refine lv_if_eq (tgt := 114) hx hb dX4_avoids_109 (by decide) (fun cn630 => ?_) (fun cn630 => ?_)
              · skip
                have bd631 : (0 : Int) ≤ zi628.toInt ∧ zi628.toInt ≤ 0 := r_eq_x cn630 bd629 bc_0 (by decide) (by decide)
                obtain ⟨zi632, ea633⟩ : ∃ z : Int32, z = zi398 + 1 := ⟨_, rfl⟩
                have bd634 : (1 : Int) ≤ zi632.toInt ∧ zi632.toInt ≤ 16 := b_iadd ea633 bd565 bc_1 (by decide) (by decide) (by decide) (by decide)
                have qe635 : zi632.toInt = (zi398 : Int32).toInt + (1 : Int32).toInt := e_iadd ea633 bd565 bc_1 (by decide) (by decide)
                have qe636 : zi632.toInt = zi398.toInt + 1 := by have ha : (1 : Int32).toInt = 1 := (by decide); rw [ha] at qe635; exact qe635
                refine lv_iinc (v := zi632) (lv' := [(6, .int zi632), (0, .ref qa900), (1, .ref qa901), (2, .int zi902), (3, .int zi903), (4, .int zi904), (5, .ref qa12)]) hx hb dX4_avoids_114 hl (k := 6) rfl ea633.symm (by decide) rfl (fun ls hl => ?_)
                refine lv_goto (tgt := 32) hx hb dX4_avoids_117 (by decide) ?_
                exact ih558 hp624 zi632 _ _ ls (by have := hm560; have := qe636; omega) ok625 (Fr.tr (Fr.tr (Fr.put (cq := 8008) (Fr.put (cq := 8007) (Fr.tr (Fr.tr (Fr.rf) F400 (by decide)) F586 (by decide)) eh590 kd13 (cd_o (by decide)) (by decide)) eh593 kd13 (cd_o (by decide)) (by decide)) F597 (by decide)) F626 (by decide)) (b_wid2 bd634 (by decide) (by decide)) (lv_sub hl [1, 2, 3, 4, 5, 6, 0] rfl) hw hS
              · skip
                have bd637 : (1 : Int) ≤ zi628.toInt ∧ zi628.toInt ≤ 1 := r_ne_lo cn630 bd629 (toi bc_0) (by decide) (by decide)
                refine lv_iconst (v := 1) hx hb dX4_avoids_112 (by decide) ?_
                rw [hQ]
                exact kz_i hx hb hr hlocks hS (nz_n bc_1 (by decide) (by decide)) hp624 hw ⟨ok625, (Fr.tr (Fr.tr (Fr.put (cq := 8008) (Fr.put (cq := 8007) (Fr.tr (Fr.tr (Fr.rf) F400 (by decide)) F586 (by decide)) eh590 kd13 (cd_o (by decide)) (by decide)) eh593 kd13 (cd_o (by decide)) (by decide)) F597 (by decide)) F626 (by decide)), (b_wid2 bc_1 (by decide) (by decide))⟩ (Nat.le_of_ble_eq_true rfl) (Nat.le_of_ble_eq_true rfl) dX4_avoids_113
    exact lp559 _ hp0 0 _ _ ls (lp_in _) ok0 (Fr.rf) (b_wid2 bc_0 (by decide) (by decide)) (lv_sub hl [2, 3, 4, 5, 6, 1, 0] rfl) hw hS

set_option maxRecDepth 100000 in
set_option maxHeartbeats 4000000 in
theorem cX4_avoids_5 (l : Launch) (G : va_G) (cy : Nat → ClassId) (ev : Ew) (K ln : Nat → Nat) (Ls : List Nat) (hW : SW K ln Ls) (sz : Nat) (hp0 : Nat → Nat → Value) (ok0 : Ok K hp0) (qa900 : Nat) (qa901 : Nat) (zi902 : Int32) (zi903 : Int32) (zi904 : Int32) (kd900 : K qa900 = 5) (kd901 : K qa901 = 11) (bd904 : ((1 : Int) ≤ zi904.toInt ∧ zi904.toInt ≤ 1)) : Met l yX4_avoids (WS yX4_avoids cX4_avoids 7 (some .boolean)) { frames := 9, cells := 0, slots := 0, locals := 228 } (PB2 [.ref qa900, .ref qa901, .int zi902, .int zi903, .int zi904] sz G cy ev (va_pl Ls (cellOf cy K ln hp0))) (QBi (S := (Nat → Nat → Value)) (fun (r : Int32) (u : (Nat → Nat → Value)) => Ok K u ∧ Fr [3003, 3004, 8000, 8001, 8002, 8003, 8004, 8005, 8006, 8007, 8008, 27000, 40000, 41000, 42000] K hp0 u ∧ ((0 : Int) ≤ r.toInt ∧ r.toInt ≤ 1)) G (fun u => va_pl Ls (cellOf cy K ln u)) (va_A (va_pl Ls (cellOf cy K ln hp0)) sz)) 0 0 (va_A (va_pl Ls (cellOf cy K ln hp0)) sz) := by
  refine met_of2 (y := yX4_avoids) (L := 7) (av := [.ref qa900, .ref qa901, .int zi902, .int zi903, .int zi904]) (Qc := fun A => QBi (S := (Nat → Nat → Value)) (fun (r : Int32) (u : (Nat → Nat → Value)) => Ok K u ∧ Fr [3003, 3004, 8000, 8001, 8002, 8003, 8004, 8005, 8006, 8007, 8008, 27000, 40000, 41000, 42000] K hp0 u ∧ ((0 : Int) ≤ r.toInt ∧ r.toInt ≤ 1)) G (fun u => va_pl Ls (cellOf cy K ln u)) A) (plainFor_of_name (by decide)) (Nat.le_of_ble_eq_true rfl) ?_
  intro p e s m below meth c hsz hx hb hr hml hown hT hlocks hin hK A hA hE hw hS ls hl
  have hw : PW G cy K ln Ls A hp0 s.heap := hw
  have hown : s.vm.findClass "LieClock$Orders" = some m.cls := hown
  have hl : lv_has ls 7 [(0, .ref qa900), (1, .ref qa901), (2, .int zi902), (3, .int zi903), (4, .int zi904)] := hl
  obtain ⟨Q, hQ⟩ : ∃ Q : State → Prop, Q = MQ below (QBi (S := (Nat → Nat → Value)) (fun (r : Int32) (u : (Nat → Nat → Value)) => Ok K u ∧ Fr [3003, 3004, 8000, 8001, 8002, 8003, 8004, 8005, 8006, 8007, 8008, 27000, 40000, 41000, 42000] K hp0 u ∧ ((0 : Int) ≤ r.toInt ∧ r.toInt ≤ 1)) G (fun u => va_pl Ls (cellOf cy K ln u)) A) ([.ref qa900, .ref qa901, .int zi902, .int zi903, .int zi904] : List Value).toArray s 0 0 A := ⟨_, rfl⟩
  rw [← hQ]
  refine lv_iload_n hx hb dX4_avoids_0 rfl (lv_at hl 2 rfl) ?_
  refine lv_if_eq (tgt := 16) hx hb dX4_avoids_1 (by decide) (fun cn1 => ?_) (fun cn1 => ?_)
  · skip
    have bd2 : (0 : Int) ≤ zi902.toInt ∧ zi902.toInt ≤ 0 := r_eq_x cn1 (b_all zi902) bc_0 (by decide) (by decide)
    refine lv_iconst (v := 1) hx hb dX4_avoids_16 (by decide) ?_
    rw [hQ]
    exact kz_i hx hb hr hlocks hS (nz_n bc_1 (by decide) (by decide)) hp0 hw ⟨ok0, (Fr.rf), (b_wid2 bc_1 (by decide) (by decide))⟩ (Nat.le_of_ble_eq_true rfl) (Nat.le_of_ble_eq_true rfl) dX4_avoids_17
  · skip
    refine lv_iload hx hb dX4_avoids_4 (lv_at hl 4 rfl) ?_
    refine lv_if_lt (tgt := 16) hx hb dX4_avoids_6 (by decide) (fun c => absurd c (d_nlt bd904 bc_0 (by decide))) (fun _ => ?_)
    refine lv_iload hx hb dX4_avoids_9 (lv_at hl 4 rfl) ?_
    refine lv_bipush (v := 6) hx hb dX4_avoids_11 (by decide) ?_
    refine lv_icmp_lt (tgt := 18) hx hb dX4_avoids_13 (by decide) (fun _ => ?_) (fun c => absurd (d_lt bd904 bc_6 (by decide)) c)
    refine lv_aload_n hx hb dX4_avoids_18 rfl (lv_at hl 0 rfl) ?_
    obtain ⟨qa4, eq3, kd5⟩ := rd_5000 ok0 kd900
    refine p_get (ci := 4) (v := .ref qa4) (C := RX4) (T := TX4) (N := 8) hx hb hT iw_X4 hown hK hw hW kd900 (by decide) rfl rfl 0 (by decide) eq3 (hT _ tb_555) (fun _ h9 => h9) dX4_avoids_19 ?_
    refine lv_iload hx hb dX4_avoids_22 (lv_at hl 4 rfl) ?_
    refine lv_iconst (v := 1) hx hb dX4_avoids_24 (by decide) ?_
    refine lv_iadd hx hb dX4_avoids_25 (lv_topi (fun zi6 ea7 => ?_))
    have bd8 : (2 : Int) ≤ zi6.toInt ∧ zi6.toInt ≤ 2 := b_iadd ea7 bd904 bc_1 (by decide) (by decide) (by decide) (by decide)
    have qe9 : zi6.toInt = (zi904 : Int32).toInt + (1 : Int32).toInt := e_iadd ea7 bd904 bc_1 (by decide) (by decide)
    have qe10 : zi6.toInt = zi904.toInt + 1 := by have ha : (1 : Int32).toInt = 1 := (by decide); rw [ha] at qe9; exact qe9
    obtain ⟨qa12, eq11, kd13⟩ := rd_34000 ok0 kd5 ((zi6 : Int32).toNatClampNeg)
    refine p_aald (v := qa12) hx hb hK hw hW kd5 (by decide) rfl (by decide) (by decide) rfl (hW.len kd5 (n := 7) rfl (by decide)) (vp_b bd8 (by decide) (by decide)) eq11 dX4_avoids_26 ?_
    refine lv_astore (lv' := [(5, .ref qa12), (0, .ref qa900), (1, .ref qa901), (2, .int zi902), (3, .int zi903), (4, .int zi904)]) hx hb dX4_avoids_27 hl (by decide) rfl (fun ls hl => ?_)
    refine lv_iconst (v := 0) hx hb dX4_avoids_29 (by decide) ?_
    refine lv_istore (lv' := [(6, .int 0), (5, .ref qa12), (0, .ref qa900), (1, .ref qa901), (2, .int zi902), (3, .int zi903), (4, .int zi904)]) hx hb dX4_avoids_30 hl (by decide) rfl (fun ls hl => ?_)
    have lp559 : ∀ (n557 : Nat) (hp399 : Nat → Nat → Value) (zi398 : Int32) (H : Heap) (locs : List Loc) (ls : Array Slot), 16 - zi398.toInt < (n557 : Int) → Ok K hp399 → Fr [3003, 3004, 8000, 8001, 8002, 8003, 8004, 8005, 8006, 8007, 8008, 27000, 40000, 41000, 42000] K hp0 hp399 → ((0 : Int) ≤ zi398.toInt ∧ zi398.toInt ≤ 16) → lv_has ls 7 [(0, .ref qa900), (1, .ref qa901), (2, .int zi902), (3, .int zi903), (4, .int zi904), (5, .ref qa12), (6, .int zi398)] → PW G cy K ln Ls A hp399 H → va_S A s.heap H locs → W p l e ({ frames := 9, cells := 0, slots := 0, locals := 228 } : Room) s m ([.ref qa900, .ref qa901, .int zi902, .int zi903, .int zi904] : List Value).toArray below meth c H locs 0 0 Q (F0 m 32 ls []) := by
      intro n557
      induction n557 with
      | zero =>
        intro hp399 zi398 H locs ls hm560 ok401 F400 bd402 hl hw hS
        exact absurd hm560 (by have := bd402; omega)
      | succ n557 ih558 =>
        intro hp399 zi398 H locs ls hm560 ok401 F400 bd402 hl hw hS
        refine lv_iload hx hb dX4_avoids_32 (lv_at hl 6 rfl) ?_
        refine lv_aload_n hx hb dX4_avoids_34 rfl (lv_at hl 1 rfl) ?_
        obtain ⟨zi562, eq561, bd563⟩ := rd_11004 ok401 kd901
        refine p_getN (ci := 10) (v := .int zi562) (C := RX10) (T := TX10) (N := 20) hx hb hT iw_X10 hown hK hw hW kd901 (by decide) rfl rfl 4 (by decide) eq561 (hK.fl nw_95) (fun _ h9 => h9) dX4_avoids_35 ?_
        refine lv_icmp_ge (tgt := 120) hx hb dX4_avoids_38 (by decide) (fun cn564 => ?_) (fun cn564 => ?_)
        · skip
          refine lv_iconst (v := 0) hx hb dX4_avoids_120 (by decide) ?_
          rw [hQ]
          exact kz_i hx hb hr hlocks hS (nz_n bc_0 (by decide) (by decide)) hp399 hw ⟨ok401, (Fr.tr (Fr.rf) F400 (by decide)), (b_wid2 bc_0 (by decide) (by decide))⟩ (Nat.le_of_ble_eq_true rfl) (Nat.le_of_ble_eq_true rfl) dX4_avoids_121
        · skip
          have bd565 : (0 : Int) ≤ zi398.toInt ∧ zi398.toInt ≤ 15 := r_lt_x (Int32.not_le.mp cn564) bd402 bd563 (by decide) (by decide)
          have bd566 : (1 : Int) ≤ zi562.toInt ∧ zi562.toInt ≤ 16 := r_lt_y (Int32.not_le.mp cn564) bd402 bd563 (by decide) (by decide)
          refine lv_iload_n hx hb dX4_avoids_41 rfl (lv_at hl 2 rfl) ?_
          refine lv_iload hx hb dX4_avoids_42 (lv_at hl 6 rfl) ?_
          refine lv_ishr hx hb dX4_avoids_44 (lv_topi (fun zi567 ea568 => ?_))
          refine lv_iconst (v := 1) hx hb dX4_avoids_45 (by decide) ?_
          refine lv_iand hx hb dX4_avoids_46 (lv_topi (fun zi569 ea570 => ?_))
          have bd571 : (0 : Int) ≤ zi569.toInt ∧ zi569.toInt ≤ 1 := b_and_r ea570 bc_1 (by decide) (by decide) (by decide)
          refine lv_if_eq (tgt := 114) hx hb dX4_avoids_47 (by decide) (fun cn572 => ?_) (fun cn572 => ?_)
          · skip
            have bd573 : (0 : Int) ≤ zi569.toInt ∧ zi569.toInt ≤ 0 := r_eq_x cn572 bd571 bc_0 (by decide) (by decide)
            obtain ⟨zi574, ea575⟩ : ∃ z : Int32, z = zi398 + 1 := ⟨_, rfl⟩
            have bd576 : (1 : Int) ≤ zi574.toInt ∧ zi574.toInt ≤ 16 := b_iadd ea575 bd565 bc_1 (by decide) (by decide) (by decide) (by decide)
            have qe577 : zi574.toInt = (zi398 : Int32).toInt + (1 : Int32).toInt := e_iadd ea575 bd565 bc_1 (by decide) (by decide)
            have qe578 : zi574.toInt = zi398.toInt + 1 := by have ha : (1 : Int32).toInt = 1 := (by decide); rw [ha] at qe577; exact qe577
            refine lv_iinc (v := zi574) (lv' := [(6, .int zi574), (0, .ref qa900), (1, .ref qa901), (2, .int zi902), (3, .int zi903), (4, .int zi904), (5, .ref qa12)]) hx hb dX4_avoids_114 hl (k := 6) rfl ea575.symm (by decide) rfl (fun ls hl => ?_)
            refine lv_goto (tgt := 32) hx hb dX4_avoids_117 (by decide) ?_
            exact ih558 hp399 zi574 _ _ ls (by have := hm560; have := qe578; omega) ok401 (Fr.tr (Fr.rf) F400 (by decide)) (b_wid2 bd576 (by decide) (by decide)) (lv_sub hl [1, 2, 3, 4, 5, 6, 0] rfl) hw hS
          · skip
            have bd579 : (1 : Int) ≤ zi569.toInt ∧ zi569.toInt ≤ 1 := r_ne_lo cn572 bd571 (toi bc_0) (by decide) (by decide)
            refine lv_aload hx hb dX4_avoids_50 (lv_at hl 5 rfl) ?_
            refine lv_aload_n hx hb dX4_avoids_52 rfl (lv_at hl 0 rfl) ?_
            have eq580 : hp399 qa900 0 = .ref qa4 := Eq.trans (Fr.at (cq := 5000) F400 kd900 (cd_o (by decide)) (by decide)) eq3
            refine p_get (ci := 4) (v := .ref qa4) (C := RX4) (T := TX4) (N := 8) hx hb hT iw_X4 hown hK hw hW kd900 (by decide) rfl rfl 0 (by decide) eq580 (hT _ tb_555) (fun _ h9 => h9) dX4_avoids_53 ?_
            refine lv_iload hx hb dX4_avoids_56 (lv_at hl 4 rfl) ?_
            obtain ⟨qa582, eq581, kd583⟩ := rd_34000 ok401 kd5 ((zi904 : Int32).toNatClampNeg)
            refine p_aald (v := qa582) hx hb hK hw hW kd5 (by decide) rfl (by decide) (by decide) rfl (hW.len kd5 (n := 7) rfl (by decide)) (vp_b bd904 (by decide) (by decide)) eq581 dX4_avoids_58 ?_
            refine kq_v hw hS hA (va_runV (As := [.ref qa582]) (rest := []) ⟨hx, hb, hml, hown, hT⟩ (cX7_copyMoment_0 l G cy ev K ln Ls hW _ hp399 ok401 qa12 qa582 kd13 kd583) (cwV 1 hT (good_V tb_1051 tb_1223 tb_1049 tb_1050 tb_115) rfl rfl rfl (by decide +kernel) ⟨Nat.le_of_ble_eq_true rfl, Nat.le_of_ble_eq_true rfl⟩) (pool_preV (ci := 7) hK hE hS hA hw hW kd13 (by decide) rfl) rfl rfl hl.1 rfl (lv_room (Nat.le_of_ble_eq_true rfl)) dX4_avoids_59 ⟨Nat.le_of_ble_eq_true rfl, Nat.le_of_ble_eq_true rfl⟩) (fun hp584 H locs hq587 hw hS => ?_)
            obtain ⟨ok585, F586⟩ := hq587
            have hw : PW G cy K ln Ls A hp584 H := hw
            refine lv_aload hx hb dX4_avoids_62 (lv_at hl 5 rfl) ?_
            refine lv_iload_n hx hb dX4_avoids_64 rfl (lv_at hl 3 rfl) ?_
            refine p_putN (ci := 7) (v := .int zi903) (ty := .int) (C := RX7) (T := TX7) (N := 13) hx hb hT iw_X7 tyX7 tyX7_ok nmX7 hown hK hw hS hW kd13 (by decide) rfl rfl 7 (by decide) (hK.fl nw_329) (fun _ h9 => h9) rfl (by decide +kernel) rfl rfl dX4_avoids_65 (fun hp589 eh590 H locs hw hS => ?_)
            have ok591 := wr_8007 ok585 kd13 eh590
            refine lv_aload hx hb dX4_avoids_68 (lv_at hl 5 rfl) ?_
            refine lv_iconst (v := 0) hx hb dX4_avoids_70 (by decide) ?_
            refine p_putN (ci := 7) (v := .int 0) (ty := .boolean) (C := RX7) (T := TX7) (N := 13) hx hb hT iw_X7 tyX7 tyX7_ok nmX7 hown hK hw hS hW kd13 (by decide) rfl rfl 8 (by decide) (hK.fl nw_331) (fun _ h9 => h9) rfl (by decide +kernel) (nz_n bc_0 (by decide) (by decide)) (nz_f bc_0 (by decide) (by decide)) dX4_avoids_71 (fun hp592 eh593 H locs hw hS => ?_)
            have ok594 := wr_8008 bc_0 (by decide) (by decide) ok591 kd13 eh593
            refine lv_aload hx hb dX4_avoids_74 (lv_at hl 5 rfl) ?_
            refine lv_aload_n hx hb dX4_avoids_76 rfl (lv_at hl 1 rfl) ?_
            refine lv_iload hx hb dX4_avoids_77 (lv_at hl 6 rfl) ?_
            refine kq_i hw hS hA (va_runV (As := [.ref qa901, .int zi398]) (rest := []) ⟨hx, hb, hml, hown, hT⟩ (cX7_utter_0 l G cy ev K ln Ls hW _ hp592 ok594 qa12 qa901 zi398 kd13 kd901 (b_wid2 bd565 (by decide) (by decide))) (cwV 2 hT (good_V tb_1059 tb_1235 tb_1057 tb_1058 tb_115) rfl rfl rfl (by decide +kernel) ⟨Nat.le_of_ble_eq_true rfl, Nat.le_of_ble_eq_true rfl⟩) (pool_preV (ci := 7) hK hE hS hA hw hW kd13 (by decide) rfl) rfl rfl hl.1 rfl (lv_room (Nat.le_of_ble_eq_true rfl)) dX4_avoids_79 ⟨Nat.le_of_ble_eq_true rfl, Nat.le_of_ble_eq_true rfl⟩) (fun zi599 hp595 H locs hq598 hw hS => ?_)
            obtain ⟨ok596, F597, bd600⟩ := hq598
            have hw : PW G cy K ln Ls A hp595 H := hw
            refine lv_pop hx hb dX4_avoids_82 rfl ?_
            refine lv_aload hx hb dX4_avoids_83 (lv_at hl 5 rfl) ?_
            obtain ⟨zi602, eq601, bd603⟩ := rd_8008 ok596 kd13
            refine p_getN (ci := 7) (v := .int zi602) (C := RX7) (T := TX7) (N := 13) hx hb hT iw_X7 hown hK hw hW kd13 (by decide) rfl rfl 8 (by decide) eq601 (hK.fl nw_331) (fun _ h9 => h9) dX4_avoids_85 ?_
            refine lv_if_ne (tgt := 114) hx hb dX4_avoids_88 (by decide) (fun cn604 => ?_) (fun cn604 => ?_)
            · skip
              have bd605 : (1 : Int) ≤ zi602.toInt ∧ zi602.toInt ≤ 1 := r_ne_lo cn604 bd603 (toi bc_0) (by decide) (by decide)
              obtain ⟨zi606, ea607⟩ : ∃ z : Int32, z = zi398 + 1 := ⟨_, rfl⟩
              have bd608 : (1 : Int) ≤ zi606.toInt ∧ zi606.toInt ≤ 16 := b_iadd ea607 bd565 bc_1 (by decide) (by decide) (by decide) (by decide)
              have qe609 : zi606.toInt = (zi398 : Int32).toInt + (1 : Int32).toInt := e_iadd ea607 bd565 bc_1 (by decide) (by decide)
              have qe610 : zi606.toInt = zi398.toInt + 1 := by have ha : (1 : Int32).toInt = 1 := (by decide); rw [ha] at qe609; exact qe609
              refine lv_iinc (v := zi606) (lv' := [(6, .int zi606), (0, .ref qa900), (1, .ref qa901), (2, .int zi902), (3, .int zi903), (4, .int zi904), (5, .ref qa12)]) hx hb dX4_avoids_114 hl (k := 6) rfl ea607.symm (by decide) rfl (fun ls hl => ?_)
              refine lv_goto (tgt := 32) hx hb dX4_avoids_117 (by decide) ?_
              exact ih558 hp595 zi606 _ _ ls (by have := hm560; have := qe610; omega) ok596 (Fr.tr (Fr.put (cq := 8008) (Fr.put (cq := 8007) (Fr.tr (Fr.tr (Fr.rf) F400 (by decide)) F586 (by decide)) eh590 kd13 (cd_o (by decide)) (by decide)) eh593 kd13 (cd_o (by decide)) (by decide)) F597 (by decide)) (b_wid2 bd608 (by decide) (by decide)) (lv_sub hl [1, 2, 3, 4, 5, 6, 0] rfl) hw hS
            · skip
              have bd611 : (0 : Int) ≤ zi602.toInt ∧ zi602.toInt ≤ 0 := r_eq_x cn604 bd603 bc_0 (by decide) (by decide)
              refine lv_aload_n hx hb dX4_avoids_91 rfl (lv_at hl 0 rfl) ?_
              refine lv_aload_n hx hb dX4_avoids_92 rfl (lv_at hl 1 rfl) ?_
              refine lv_iload_n hx hb dX4_avoids_93 rfl (lv_at hl 2 rfl) ?_
              refine lv_iconst (v := 1) hx hb dX4_avoids_94 (by decide) ?_
              refine lv_iload hx hb dX4_avoids_95 (lv_at hl 6 rfl) ?_
              refine lv_ishl hx hb dX4_avoids_97 (lv_topi (fun zi612 ea613 => ?_))
              have bd614 : (1 : Int) ≤ zi612.toInt ∧ zi612.toInt ≤ 32768 := b_shl1 15 ea613 bd565 (by decide) (by decide) (by decide) (by decide) (by decide)
              refine lv_iconst (v := (-1)) hx hb dX4_avoids_98 (by decide) ?_
              refine lv_ixor hx hb dX4_avoids_99 (lv_topi (fun zi615 ea616 => ?_))
              refine lv_iand hx hb dX4_avoids_100 (lv_topi (fun zi617 ea618 => ?_))
              refine lv_iload_n hx hb dX4_avoids_101 rfl (lv_at hl 3 rfl) ?_
              refine lv_iload hx hb dX4_avoids_102 (lv_at hl 4 rfl) ?_
              refine lv_iconst (v := 1) hx hb dX4_avoids_104 (by decide) ?_
              refine lv_iadd hx hb dX4_avoids_105 (lv_topi (fun zi619 ea620 => ?_))
              have bd621 : (2 : Int) ≤ zi619.toInt ∧ zi619.toInt ≤ 2 := b_iadd ea620 bd904 bc_1 (by decide) (by decide) (by decide) (by decide)
              have qe622 : zi619.toInt = (zi904 : Int32).toInt + (1 : Int32).toInt := e_iadd ea620 bd904 bc_1 (by decide) (by decide)
              have qe623 : zi619.toInt = zi904.toInt + 1 := by have ha : (1 : Int32).toInt = 1 := (by decide); rw [ha] at qe622; exact qe622
              refine kq_i hw hS hA (va_runV (As := [.ref qa901, .int zi617, .int zi903, .int zi619]) (rest := []) ⟨hx, hb, hml, hown, hT⟩ (cX4_avoids_4 l G cy ev K ln Ls hW _ hp595 ok596 qa900 qa901 zi617 zi903 zi619 kd900 kd901 (b_wid2 bd621 (by decide) (by decide))) (cwV 4 hT (good_V tb_1251 tb_1248 tb_1250 tb_41 tb_119) rfl rfl rfl (by decide +kernel) ⟨Nat.le_of_ble_eq_true rfl, Nat.le_of_ble_eq_true rfl⟩) (pool_preV (ci := 4) hK hE hS hA hw hW kd900 (by decide) rfl) rfl rfl hl.1 rfl (lv_room (Nat.le_of_ble_eq_true rfl)) dX4_avoids_106 ⟨Nat.le_of_ble_eq_true rfl, Nat.le_of_ble_eq_true rfl⟩) (fun zi628 hp624 H locs hq627 hw hS => ?_)
              obtain ⟨ok625, F626, bd629⟩ := hq627
              have hw : PW G cy K ln Ls A hp624 H := hw
              refine lv_if_eq (tgt := 114) hx hb dX4_avoids_109 (by decide) (fun cn630 => ?_) (fun cn630 => ?_)
              · skip
                have bd631 : (0 : Int) ≤ zi628.toInt ∧ zi628.toInt ≤ 0 := r_eq_x cn630 bd629 bc_0 (by decide) (by decide)
                obtain ⟨zi632, ea633⟩ : ∃ z : Int32, z = zi398 + 1 := ⟨_, rfl⟩
                have bd634 : (1 : Int) ≤ zi632.toInt ∧ zi632.toInt ≤ 16 := b_iadd ea633 bd565 bc_1 (by decide) (by decide) (by decide) (by decide)
                have qe635 : zi632.toInt = (zi398 : Int32).toInt + (1 : Int32).toInt := e_iadd ea633 bd565 bc_1 (by decide) (by decide)
                have qe636 : zi632.toInt = zi398.toInt + 1 := by have ha : (1 : Int32).toInt = 1 := (by decide); rw [ha] at qe635; exact qe635
                refine lv_iinc (v := zi632) (lv' := [(6, .int zi632), (0, .ref qa900), (1, .ref qa901), (2, .int zi902), (3, .int zi903), (4, .int zi904), (5, .ref qa12)]) hx hb dX4_avoids_114 hl (k := 6) rfl ea633.symm (by decide) rfl (fun ls hl => ?_)
                refine lv_goto (tgt := 32) hx hb dX4_avoids_117 (by decide) ?_
                exact ih558 hp624 zi632 _ _ ls (by have := hm560; have := qe636; omega) ok625 (Fr.tr (Fr.tr (Fr.put (cq := 8008) (Fr.put (cq := 8007) (Fr.tr (Fr.tr (Fr.rf) F400 (by decide)) F586 (by decide)) eh590 kd13 (cd_o (by decide)) (by decide)) eh593 kd13 (cd_o (by decide)) (by decide)) F597 (by decide)) F626 (by decide)) (b_wid2 bd634 (by decide) (by decide)) (lv_sub hl [1, 2, 3, 4, 5, 6, 0] rfl) hw hS
              · skip
                have bd637 : (1 : Int) ≤ zi628.toInt ∧ zi628.toInt ≤ 1 := r_ne_lo cn630 bd629 (toi bc_0) (by decide) (by decide)
                refine lv_iconst (v := 1) hx hb dX4_avoids_112 (by decide) ?_
                rw [hQ]
                exact kz_i hx hb hr hlocks hS (nz_n bc_1 (by decide) (by decide)) hp624 hw ⟨ok625, (Fr.tr (Fr.tr (Fr.put (cq := 8008) (Fr.put (cq := 8007) (Fr.tr (Fr.tr (Fr.rf) F400 (by decide)) F586 (by decide)) eh590 kd13 (cd_o (by decide)) (by decide)) eh593 kd13 (cd_o (by decide)) (by decide)) F597 (by decide)) F626 (by decide)), (b_wid2 bc_1 (by decide) (by decide))⟩ (Nat.le_of_ble_eq_true rfl) (Nat.le_of_ble_eq_true rfl) dX4_avoids_113
    exact lp559 _ hp0 0 _ _ ls (lp_in _) ok0 (Fr.rf) (b_wid2 bc_0 (by decide) (by decide)) (lv_sub hl [2, 3, 4, 5, 6, 1, 0] rfl) hw hS

set_option maxRecDepth 100000 in
set_option maxHeartbeats 4000000 in
theorem cX4_avoids_6 (l : Launch) (G : va_G) (cy : Nat → ClassId) (ev : Ew) (K ln : Nat → Nat) (Ls : List Nat) (hW : SW K ln Ls) (sz : Nat) (hp0 : Nat → Nat → Value) (ok0 : Ok K hp0) (qa900 : Nat) (qa901 : Nat) (zi902 : Int32) (zi903 : Int32) (zi904 : Int32) (kd900 : K qa900 = 5) (kd901 : K qa901 = 11) (bd904 : ((0 : Int) ≤ zi904.toInt ∧ zi904.toInt ≤ 0)) : Met l yX4_avoids (WS yX4_avoids cX4_avoids 7 (some .boolean)) { frames := 10, cells := 0, slots := 0, locals := 254 } (PB2 [.ref qa900, .ref qa901, .int zi902, .int zi903, .int zi904] sz G cy ev (va_pl Ls (cellOf cy K ln hp0))) (QBi (S := (Nat → Nat → Value)) (fun (r : Int32) (u : (Nat → Nat → Value)) => Ok K u ∧ Fr [3003, 3004, 8000, 8001, 8002, 8003, 8004, 8005, 8006, 8007, 8008, 27000, 40000, 41000, 42000] K hp0 u ∧ ((0 : Int) ≤ r.toInt ∧ r.toInt ≤ 1)) G (fun u => va_pl Ls (cellOf cy K ln u)) (va_A (va_pl Ls (cellOf cy K ln hp0)) sz)) 0 0 (va_A (va_pl Ls (cellOf cy K ln hp0)) sz) := by
  refine met_of2 (y := yX4_avoids) (L := 7) (av := [.ref qa900, .ref qa901, .int zi902, .int zi903, .int zi904]) (Qc := fun A => QBi (S := (Nat → Nat → Value)) (fun (r : Int32) (u : (Nat → Nat → Value)) => Ok K u ∧ Fr [3003, 3004, 8000, 8001, 8002, 8003, 8004, 8005, 8006, 8007, 8008, 27000, 40000, 41000, 42000] K hp0 u ∧ ((0 : Int) ≤ r.toInt ∧ r.toInt ≤ 1)) G (fun u => va_pl Ls (cellOf cy K ln u)) A) (plainFor_of_name (by decide)) (Nat.le_of_ble_eq_true rfl) ?_
  intro p e s m below meth c hsz hx hb hr hml hown hT hlocks hin hK A hA hE hw hS ls hl
  have hw : PW G cy K ln Ls A hp0 s.heap := hw
  have hown : s.vm.findClass "LieClock$Orders" = some m.cls := hown
  have hl : lv_has ls 7 [(0, .ref qa900), (1, .ref qa901), (2, .int zi902), (3, .int zi903), (4, .int zi904)] := hl
  obtain ⟨Q, hQ⟩ : ∃ Q : State → Prop, Q = MQ below (QBi (S := (Nat → Nat → Value)) (fun (r : Int32) (u : (Nat → Nat → Value)) => Ok K u ∧ Fr [3003, 3004, 8000, 8001, 8002, 8003, 8004, 8005, 8006, 8007, 8008, 27000, 40000, 41000, 42000] K hp0 u ∧ ((0 : Int) ≤ r.toInt ∧ r.toInt ≤ 1)) G (fun u => va_pl Ls (cellOf cy K ln u)) A) ([.ref qa900, .ref qa901, .int zi902, .int zi903, .int zi904] : List Value).toArray s 0 0 A := ⟨_, rfl⟩
  rw [← hQ]
  refine lv_iload_n hx hb dX4_avoids_0 rfl (lv_at hl 2 rfl) ?_
  refine lv_if_eq (tgt := 16) hx hb dX4_avoids_1 (by decide) (fun cn1 => ?_) (fun cn1 => ?_)
  · skip
    have bd2 : (0 : Int) ≤ zi902.toInt ∧ zi902.toInt ≤ 0 := r_eq_x cn1 (b_all zi902) bc_0 (by decide) (by decide)
    refine lv_iconst (v := 1) hx hb dX4_avoids_16 (by decide) ?_
    rw [hQ]
    exact kz_i hx hb hr hlocks hS (nz_n bc_1 (by decide) (by decide)) hp0 hw ⟨ok0, (Fr.rf), (b_wid2 bc_1 (by decide) (by decide))⟩ (Nat.le_of_ble_eq_true rfl) (Nat.le_of_ble_eq_true rfl) dX4_avoids_17
  · skip
    refine lv_iload hx hb dX4_avoids_4 (lv_at hl 4 rfl) ?_
    refine lv_if_lt (tgt := 16) hx hb dX4_avoids_6 (by decide) (fun c => absurd c (d_nlt bd904 bc_0 (by decide))) (fun _ => ?_)
    refine lv_iload hx hb dX4_avoids_9 (lv_at hl 4 rfl) ?_
    refine lv_bipush (v := 6) hx hb dX4_avoids_11 (by decide) ?_
    refine lv_icmp_lt (tgt := 18) hx hb dX4_avoids_13 (by decide) (fun _ => ?_) (fun c => absurd (d_lt bd904 bc_6 (by decide)) c)
    refine lv_aload_n hx hb dX4_avoids_18 rfl (lv_at hl 0 rfl) ?_
    obtain ⟨qa4, eq3, kd5⟩ := rd_5000 ok0 kd900
    refine p_get (ci := 4) (v := .ref qa4) (C := RX4) (T := TX4) (N := 8) hx hb hT iw_X4 hown hK hw hW kd900 (by decide) rfl rfl 0 (by decide) eq3 (hT _ tb_555) (fun _ h9 => h9) dX4_avoids_19 ?_
    refine lv_iload hx hb dX4_avoids_22 (lv_at hl 4 rfl) ?_
    refine lv_iconst (v := 1) hx hb dX4_avoids_24 (by decide) ?_
    refine lv_iadd hx hb dX4_avoids_25 (lv_topi (fun zi6 ea7 => ?_))
    have bd8 : (1 : Int) ≤ zi6.toInt ∧ zi6.toInt ≤ 1 := b_iadd ea7 bd904 bc_1 (by decide) (by decide) (by decide) (by decide)
    have qe9 : zi6.toInt = (zi904 : Int32).toInt + (1 : Int32).toInt := e_iadd ea7 bd904 bc_1 (by decide) (by decide)
    have qe10 : zi6.toInt = zi904.toInt + 1 := by have ha : (1 : Int32).toInt = 1 := (by decide); rw [ha] at qe9; exact qe9
    obtain ⟨qa12, eq11, kd13⟩ := rd_34000 ok0 kd5 ((zi6 : Int32).toNatClampNeg)
    refine p_aald (v := qa12) hx hb hK hw hW kd5 (by decide) rfl (by decide) (by decide) rfl (hW.len kd5 (n := 7) rfl (by decide)) (vp_b bd8 (by decide) (by decide)) eq11 dX4_avoids_26 ?_
    refine lv_astore (lv' := [(5, .ref qa12), (0, .ref qa900), (1, .ref qa901), (2, .int zi902), (3, .int zi903), (4, .int zi904)]) hx hb dX4_avoids_27 hl (by decide) rfl (fun ls hl => ?_)
    refine lv_iconst (v := 0) hx hb dX4_avoids_29 (by decide) ?_
    refine lv_istore (lv' := [(6, .int 0), (5, .ref qa12), (0, .ref qa900), (1, .ref qa901), (2, .int zi902), (3, .int zi903), (4, .int zi904)]) hx hb dX4_avoids_30 hl (by decide) rfl (fun ls hl => ?_)
    have lp559 : ∀ (n557 : Nat) (hp399 : Nat → Nat → Value) (zi398 : Int32) (H : Heap) (locs : List Loc) (ls : Array Slot), 16 - zi398.toInt < (n557 : Int) → Ok K hp399 → Fr [3003, 3004, 8000, 8001, 8002, 8003, 8004, 8005, 8006, 8007, 8008, 27000, 40000, 41000, 42000] K hp0 hp399 → ((0 : Int) ≤ zi398.toInt ∧ zi398.toInt ≤ 16) → lv_has ls 7 [(0, .ref qa900), (1, .ref qa901), (2, .int zi902), (3, .int zi903), (4, .int zi904), (5, .ref qa12), (6, .int zi398)] → PW G cy K ln Ls A hp399 H → va_S A s.heap H locs → W p l e ({ frames := 10, cells := 0, slots := 0, locals := 254 } : Room) s m ([.ref qa900, .ref qa901, .int zi902, .int zi903, .int zi904] : List Value).toArray below meth c H locs 0 0 Q (F0 m 32 ls []) := by
      intro n557
      induction n557 with
      | zero =>
        intro hp399 zi398 H locs ls hm560 ok401 F400 bd402 hl hw hS
        exact absurd hm560 (by have := bd402; omega)
      | succ n557 ih558 =>
        intro hp399 zi398 H locs ls hm560 ok401 F400 bd402 hl hw hS
        refine lv_iload hx hb dX4_avoids_32 (lv_at hl 6 rfl) ?_
        refine lv_aload_n hx hb dX4_avoids_34 rfl (lv_at hl 1 rfl) ?_
        obtain ⟨zi562, eq561, bd563⟩ := rd_11004 ok401 kd901
        refine p_getN (ci := 10) (v := .int zi562) (C := RX10) (T := TX10) (N := 20) hx hb hT iw_X10 hown hK hw hW kd901 (by decide) rfl rfl 4 (by decide) eq561 (hK.fl nw_95) (fun _ h9 => h9) dX4_avoids_35 ?_
        refine lv_icmp_ge (tgt := 120) hx hb dX4_avoids_38 (by decide) (fun cn564 => ?_) (fun cn564 => ?_)
        · skip
          refine lv_iconst (v := 0) hx hb dX4_avoids_120 (by decide) ?_
          rw [hQ]
          exact kz_i hx hb hr hlocks hS (nz_n bc_0 (by decide) (by decide)) hp399 hw ⟨ok401, (Fr.tr (Fr.rf) F400 (by decide)), (b_wid2 bc_0 (by decide) (by decide))⟩ (Nat.le_of_ble_eq_true rfl) (Nat.le_of_ble_eq_true rfl) dX4_avoids_121
        · skip
          have bd565 : (0 : Int) ≤ zi398.toInt ∧ zi398.toInt ≤ 15 := r_lt_x (Int32.not_le.mp cn564) bd402 bd563 (by decide) (by decide)
          have bd566 : (1 : Int) ≤ zi562.toInt ∧ zi562.toInt ≤ 16 := r_lt_y (Int32.not_le.mp cn564) bd402 bd563 (by decide) (by decide)
          refine lv_iload_n hx hb dX4_avoids_41 rfl (lv_at hl 2 rfl) ?_
          refine lv_iload hx hb dX4_avoids_42 (lv_at hl 6 rfl) ?_
          refine lv_ishr hx hb dX4_avoids_44 (lv_topi (fun zi567 ea568 => ?_))
          refine lv_iconst (v := 1) hx hb dX4_avoids_45 (by decide) ?_
          refine lv_iand hx hb dX4_avoids_46 (lv_topi (fun zi569 ea570 => ?_))
          have bd571 : (0 : Int) ≤ zi569.toInt ∧ zi569.toInt ≤ 1 := b_and_r ea570 bc_1 (by decide) (by decide) (by decide)
          refine lv_if_eq (tgt := 114) hx hb dX4_avoids_47 (by decide) (fun cn572 => ?_) (fun cn572 => ?_)
          · skip
            have bd573 : (0 : Int) ≤ zi569.toInt ∧ zi569.toInt ≤ 0 := r_eq_x cn572 bd571 bc_0 (by decide) (by decide)
            obtain ⟨zi574, ea575⟩ : ∃ z : Int32, z = zi398 + 1 := ⟨_, rfl⟩
            have bd576 : (1 : Int) ≤ zi574.toInt ∧ zi574.toInt ≤ 16 := b_iadd ea575 bd565 bc_1 (by decide) (by decide) (by decide) (by decide)
            have qe577 : zi574.toInt = (zi398 : Int32).toInt + (1 : Int32).toInt := e_iadd ea575 bd565 bc_1 (by decide) (by decide)
            have qe578 : zi574.toInt = zi398.toInt + 1 := by have ha : (1 : Int32).toInt = 1 := (by decide); rw [ha] at qe577; exact qe577
            refine lv_iinc (v := zi574) (lv' := [(6, .int zi574), (0, .ref qa900), (1, .ref qa901), (2, .int zi902), (3, .int zi903), (4, .int zi904), (5, .ref qa12)]) hx hb dX4_avoids_114 hl (k := 6) rfl ea575.symm (by decide) rfl (fun ls hl => ?_)
            refine lv_goto (tgt := 32) hx hb dX4_avoids_117 (by decide) ?_
            exact ih558 hp399 zi574 _ _ ls (by have := hm560; have := qe578; omega) ok401 (Fr.tr (Fr.rf) F400 (by decide)) (b_wid2 bd576 (by decide) (by decide)) (lv_sub hl [1, 2, 3, 4, 5, 6, 0] rfl) hw hS
          · skip
            have bd579 : (1 : Int) ≤ zi569.toInt ∧ zi569.toInt ≤ 1 := r_ne_lo cn572 bd571 (toi bc_0) (by decide) (by decide)
            refine lv_aload hx hb dX4_avoids_50 (lv_at hl 5 rfl) ?_
            refine lv_aload_n hx hb dX4_avoids_52 rfl (lv_at hl 0 rfl) ?_
            have eq580 : hp399 qa900 0 = .ref qa4 := Eq.trans (Fr.at (cq := 5000) F400 kd900 (cd_o (by decide)) (by decide)) eq3
            refine p_get (ci := 4) (v := .ref qa4) (C := RX4) (T := TX4) (N := 8) hx hb hT iw_X4 hown hK hw hW kd900 (by decide) rfl rfl 0 (by decide) eq580 (hT _ tb_555) (fun _ h9 => h9) dX4_avoids_53 ?_
            refine lv_iload hx hb dX4_avoids_56 (lv_at hl 4 rfl) ?_
            obtain ⟨qa582, eq581, kd583⟩ := rd_34000 ok401 kd5 ((zi904 : Int32).toNatClampNeg)
            refine p_aald (v := qa582) hx hb hK hw hW kd5 (by decide) rfl (by decide) (by decide) rfl (hW.len kd5 (n := 7) rfl (by decide)) (vp_b bd904 (by decide) (by decide)) eq581 dX4_avoids_58 ?_
            refine kq_v hw hS hA (va_runV (As := [.ref qa582]) (rest := []) ⟨hx, hb, hml, hown, hT⟩ (cX7_copyMoment_0 l G cy ev K ln Ls hW _ hp399 ok401 qa12 qa582 kd13 kd583) (cwV 1 hT (good_V tb_1051 tb_1223 tb_1049 tb_1050 tb_115) rfl rfl rfl (by decide +kernel) ⟨Nat.le_of_ble_eq_true rfl, Nat.le_of_ble_eq_true rfl⟩) (pool_preV (ci := 7) hK hE hS hA hw hW kd13 (by decide) rfl) rfl rfl hl.1 rfl (lv_room (Nat.le_of_ble_eq_true rfl)) dX4_avoids_59 ⟨Nat.le_of_ble_eq_true rfl, Nat.le_of_ble_eq_true rfl⟩) (fun hp584 H locs hq587 hw hS => ?_)
            obtain ⟨ok585, F586⟩ := hq587
            have hw : PW G cy K ln Ls A hp584 H := hw
            refine lv_aload hx hb dX4_avoids_62 (lv_at hl 5 rfl) ?_
            refine lv_iload_n hx hb dX4_avoids_64 rfl (lv_at hl 3 rfl) ?_
            refine p_putN (ci := 7) (v := .int zi903) (ty := .int) (C := RX7) (T := TX7) (N := 13) hx hb hT iw_X7 tyX7 tyX7_ok nmX7 hown hK hw hS hW kd13 (by decide) rfl rfl 7 (by decide) (hK.fl nw_329) (fun _ h9 => h9) rfl (by decide +kernel) rfl rfl dX4_avoids_65 (fun hp589 eh590 H locs hw hS => ?_)
            have ok591 := wr_8007 ok585 kd13 eh590
            refine lv_aload hx hb dX4_avoids_68 (lv_at hl 5 rfl) ?_
            refine lv_iconst (v := 0) hx hb dX4_avoids_70 (by decide) ?_
            refine p_putN (ci := 7) (v := .int 0) (ty := .boolean) (C := RX7) (T := TX7) (N := 13) hx hb hT iw_X7 tyX7 tyX7_ok nmX7 hown hK hw hS hW kd13 (by decide) rfl rfl 8 (by decide) (hK.fl nw_331) (fun _ h9 => h9) rfl (by decide +kernel) (nz_n bc_0 (by decide) (by decide)) (nz_f bc_0 (by decide) (by decide)) dX4_avoids_71 (fun hp592 eh593 H locs hw hS => ?_)
            have ok594 := wr_8008 bc_0 (by decide) (by decide) ok591 kd13 eh593
            refine lv_aload hx hb dX4_avoids_74 (lv_at hl 5 rfl) ?_
            refine lv_aload_n hx hb dX4_avoids_76 rfl (lv_at hl 1 rfl) ?_
            refine lv_iload hx hb dX4_avoids_77 (lv_at hl 6 rfl) ?_
            refine kq_i hw hS hA (va_runV (As := [.ref qa901, .int zi398]) (rest := []) ⟨hx, hb, hml, hown, hT⟩ (cX7_utter_0 l G cy ev K ln Ls hW _ hp592 ok594 qa12 qa901 zi398 kd13 kd901 (b_wid2 bd565 (by decide) (by decide))) (cwV 2 hT (good_V tb_1059 tb_1235 tb_1057 tb_1058 tb_115) rfl rfl rfl (by decide +kernel) ⟨Nat.le_of_ble_eq_true rfl, Nat.le_of_ble_eq_true rfl⟩) (pool_preV (ci := 7) hK hE hS hA hw hW kd13 (by decide) rfl) rfl rfl hl.1 rfl (lv_room (Nat.le_of_ble_eq_true rfl)) dX4_avoids_79 ⟨Nat.le_of_ble_eq_true rfl, Nat.le_of_ble_eq_true rfl⟩) (fun zi599 hp595 H locs hq598 hw hS => ?_)
            obtain ⟨ok596, F597, bd600⟩ := hq598
            have hw : PW G cy K ln Ls A hp595 H := hw
            refine lv_pop hx hb dX4_avoids_82 rfl ?_
            refine lv_aload hx hb dX4_avoids_83 (lv_at hl 5 rfl) ?_
            obtain ⟨zi602, eq601, bd603⟩ := rd_8008 ok596 kd13
            refine p_getN (ci := 7) (v := .int zi602) (C := RX7) (T := TX7) (N := 13) hx hb hT iw_X7 hown hK hw hW kd13 (by decide) rfl rfl 8 (by decide) eq601 (hK.fl nw_331) (fun _ h9 => h9) dX4_avoids_85 ?_
            refine lv_if_ne (tgt := 114) hx hb dX4_avoids_88 (by decide) (fun cn604 => ?_) (fun cn604 => ?_)
            · skip
              have bd605 : (1 : Int) ≤ zi602.toInt ∧ zi602.toInt ≤ 1 := r_ne_lo cn604 bd603 (toi bc_0) (by decide) (by decide)
              obtain ⟨zi606, ea607⟩ : ∃ z : Int32, z = zi398 + 1 := ⟨_, rfl⟩
              have bd608 : (1 : Int) ≤ zi606.toInt ∧ zi606.toInt ≤ 16 := b_iadd ea607 bd565 bc_1 (by decide) (by decide) (by decide) (by decide)
              have qe609 : zi606.toInt = (zi398 : Int32).toInt + (1 : Int32).toInt := e_iadd ea607 bd565 bc_1 (by decide) (by decide)
              have qe610 : zi606.toInt = zi398.toInt + 1 := by have ha : (1 : Int32).toInt = 1 := (by decide); rw [ha] at qe609; exact qe609
              refine lv_iinc (v := zi606) (lv' := [(6, .int zi606), (0, .ref qa900), (1, .ref qa901), (2, .int zi902), (3, .int zi903), (4, .int zi904), (5, .ref qa12)]) hx hb dX4_avoids_114 hl (k := 6) rfl ea607.symm (by decide) rfl (fun ls hl => ?_)
              refine lv_goto (tgt := 32) hx hb dX4_avoids_117 (by decide) ?_
              exact ih558 hp595 zi606 _ _ ls (by have := hm560; have := qe610; omega) ok596 (Fr.tr (Fr.put (cq := 8008) (Fr.put (cq := 8007) (Fr.tr (Fr.tr (Fr.rf) F400 (by decide)) F586 (by decide)) eh590 kd13 (cd_o (by decide)) (by decide)) eh593 kd13 (cd_o (by decide)) (by decide)) F597 (by decide)) (b_wid2 bd608 (by decide) (by decide)) (lv_sub hl [1, 2, 3, 4, 5, 6, 0] rfl) hw hS
            · skip
              have bd611 : (0 : Int) ≤ zi602.toInt ∧ zi602.toInt ≤ 0 := r_eq_x cn604 bd603 bc_0 (by decide) (by decide)
              refine lv_aload_n hx hb dX4_avoids_91 rfl (lv_at hl 0 rfl) ?_
              refine lv_aload_n hx hb dX4_avoids_92 rfl (lv_at hl 1 rfl) ?_
              refine lv_iload_n hx hb dX4_avoids_93 rfl (lv_at hl 2 rfl) ?_
              refine lv_iconst (v := 1) hx hb dX4_avoids_94 (by decide) ?_
              refine lv_iload hx hb dX4_avoids_95 (lv_at hl 6 rfl) ?_
              refine lv_ishl hx hb dX4_avoids_97 (lv_topi (fun zi612 ea613 => ?_))
              have bd614 : (1 : Int) ≤ zi612.toInt ∧ zi612.toInt ≤ 32768 := b_shl1 15 ea613 bd565 (by decide) (by decide) (by decide) (by decide) (by decide)
              refine lv_iconst (v := (-1)) hx hb dX4_avoids_98 (by decide) ?_
              refine lv_ixor hx hb dX4_avoids_99 (lv_topi (fun zi615 ea616 => ?_))
              refine lv_iand hx hb dX4_avoids_100 (lv_topi (fun zi617 ea618 => ?_))
              refine lv_iload_n hx hb dX4_avoids_101 rfl (lv_at hl 3 rfl) ?_
              refine lv_iload hx hb dX4_avoids_102 (lv_at hl 4 rfl) ?_
              refine lv_iconst (v := 1) hx hb dX4_avoids_104 (by decide) ?_
              refine lv_iadd hx hb dX4_avoids_105 (lv_topi (fun zi619 ea620 => ?_))
              have bd621 : (1 : Int) ≤ zi619.toInt ∧ zi619.toInt ≤ 1 := b_iadd ea620 bd904 bc_1 (by decide) (by decide) (by decide) (by decide)
              have qe622 : zi619.toInt = (zi904 : Int32).toInt + (1 : Int32).toInt := e_iadd ea620 bd904 bc_1 (by decide) (by decide)
              have qe623 : zi619.toInt = zi904.toInt + 1 := by have ha : (1 : Int32).toInt = 1 := (by decide); rw [ha] at qe622; exact qe622
              refine kq_i hw hS hA (va_runV (As := [.ref qa901, .int zi617, .int zi903, .int zi619]) (rest := []) ⟨hx, hb, hml, hown, hT⟩ (cX4_avoids_5 l G cy ev K ln Ls hW _ hp595 ok596 qa900 qa901 zi617 zi903 zi619 kd900 kd901 (b_wid2 bd621 (by decide) (by decide))) (cwV 4 hT (good_V tb_1251 tb_1248 tb_1250 tb_41 tb_119) rfl rfl rfl (by decide +kernel) ⟨Nat.le_of_ble_eq_true rfl, Nat.le_of_ble_eq_true rfl⟩) (pool_preV (ci := 4) hK hE hS hA hw hW kd900 (by decide) rfl) rfl rfl hl.1 rfl (lv_room (Nat.le_of_ble_eq_true rfl)) dX4_avoids_106 ⟨Nat.le_of_ble_eq_true rfl, Nat.le_of_ble_eq_true rfl⟩) (fun zi628 hp624 H locs hq627 hw hS => ?_)
              obtain ⟨ok625, F626, bd629⟩ := hq627
              have hw : PW G cy K ln Ls A hp624 H := hw
              refine lv_if_eq (tgt := 114) hx hb dX4_avoids_109 (by decide) (fun cn630 => ?_) (fun cn630 => ?_)
              · skip
                have bd631 : (0 : Int) ≤ zi628.toInt ∧ zi628.toInt ≤ 0 := r_eq_x cn630 bd629 bc_0 (by decide) (by decide)
                obtain ⟨zi632, ea633⟩ : ∃ z : Int32, z = zi398 + 1 := ⟨_, rfl⟩
                have bd634 : (1 : Int) ≤ zi632.toInt ∧ zi632.toInt ≤ 16 := b_iadd ea633 bd565 bc_1 (by decide) (by decide) (by decide) (by decide)
                have qe635 : zi632.toInt = (zi398 : Int32).toInt + (1 : Int32).toInt := e_iadd ea633 bd565 bc_1 (by decide) (by decide)
                have qe636 : zi632.toInt = zi398.toInt + 1 := by have ha : (1 : Int32).toInt = 1 := (by decide); rw [ha] at qe635; exact qe635
                refine lv_iinc (v := zi632) (lv' := [(6, .int zi632), (0, .ref qa900), (1, .ref qa901), (2, .int zi902), (3, .int zi903), (4, .int zi904), (5, .ref qa12)]) hx hb dX4_avoids_114 hl (k := 6) rfl ea633.symm (by decide) rfl (fun ls hl => ?_)
                refine lv_goto (tgt := 32) hx hb dX4_avoids_117 (by decide) ?_
                exact ih558 hp624 zi632 _ _ ls (by have := hm560; have := qe636; omega) ok625 (Fr.tr (Fr.tr (Fr.put (cq := 8008) (Fr.put (cq := 8007) (Fr.tr (Fr.tr (Fr.rf) F400 (by decide)) F586 (by decide)) eh590 kd13 (cd_o (by decide)) (by decide)) eh593 kd13 (cd_o (by decide)) (by decide)) F597 (by decide)) F626 (by decide)) (b_wid2 bd634 (by decide) (by decide)) (lv_sub hl [1, 2, 3, 4, 5, 6, 0] rfl) hw hS
              · skip
                have bd637 : (1 : Int) ≤ zi628.toInt ∧ zi628.toInt ≤ 1 := r_ne_lo cn630 bd629 (toi bc_0) (by decide) (by decide)
                refine lv_iconst (v := 1) hx hb dX4_avoids_112 (by decide) ?_
                rw [hQ]
                exact kz_i hx hb hr hlocks hS (nz_n bc_1 (by decide) (by decide)) hp624 hw ⟨ok625, (Fr.tr (Fr.tr (Fr.put (cq := 8008) (Fr.put (cq := 8007) (Fr.tr (Fr.tr (Fr.rf) F400 (by decide)) F586 (by decide)) eh590 kd13 (cd_o (by decide)) (by decide)) eh593 kd13 (cd_o (by decide)) (by decide)) F597 (by decide)) F626 (by decide)), (b_wid2 bc_1 (by decide) (by decide))⟩ (Nat.le_of_ble_eq_true rfl) (Nat.le_of_ble_eq_true rfl) dX4_avoids_113
    exact lp559 _ hp0 0 _ _ ls (lp_in _) ok0 (Fr.rf) (b_wid2 bc_0 (by decide) (by decide)) (lv_sub hl [2, 3, 4, 5, 6, 1, 0] rfl) hw hS

set_option maxRecDepth 100000 in
set_option maxHeartbeats 4000000 in
theorem cX4_canAvoid_0 (l : Launch) (G : va_G) (cy : Nat → ClassId) (ev : Ew) (K ln : Nat → Nat) (Ls : List Nat) (hW : SW K ln Ls) (sz : Nat) (hp0 : Nat → Nat → Value) (ok0 : Ok K hp0) (qa900 : Nat) (qa901 : Nat) (qa902 : Nat) (zi903 : Int32) (zi904 : Int32) (kd900 : K qa900 = 5) (kd901 : K qa901 = 11) (kd902 : K qa902 = 8) : Met l yX4_canAvoid (WS yX4_canAvoid cX4_canAvoid 5 (some .boolean)) { frames := 11, cells := 0, slots := 0, locals := 280 } (PB2 [.ref qa900, .ref qa901, .ref qa902, .int zi903, .int zi904] sz G cy ev (va_pl Ls (cellOf cy K ln hp0))) (QBi (S := (Nat → Nat → Value)) (fun (r : Int32) (u : (Nat → Nat → Value)) => Ok K u ∧ Fr [3003, 3004, 8000, 8001, 8002, 8003, 8004, 8005, 8006, 8007, 8008, 27000, 40000, 41000, 42000] K hp0 u ∧ ((0 : Int) ≤ r.toInt ∧ r.toInt ≤ 1)) G (fun u => va_pl Ls (cellOf cy K ln u)) (va_A (va_pl Ls (cellOf cy K ln hp0)) sz)) 0 0 (va_A (va_pl Ls (cellOf cy K ln hp0)) sz) := by
  refine met_of2 (y := yX4_canAvoid) (L := 5) (av := [.ref qa900, .ref qa901, .ref qa902, .int zi903, .int zi904]) (Qc := fun A => QBi (S := (Nat → Nat → Value)) (fun (r : Int32) (u : (Nat → Nat → Value)) => Ok K u ∧ Fr [3003, 3004, 8000, 8001, 8002, 8003, 8004, 8005, 8006, 8007, 8008, 27000, 40000, 41000, 42000] K hp0 u ∧ ((0 : Int) ≤ r.toInt ∧ r.toInt ≤ 1)) G (fun u => va_pl Ls (cellOf cy K ln u)) A) (plainFor_of_name (by decide)) (Nat.le_of_ble_eq_true rfl) ?_
  intro p e s m below meth c hsz hx hb hr hml hown hT hlocks hin hK A hA hE hw hS ls hl
  have hw : PW G cy K ln Ls A hp0 s.heap := hw
  have hown : s.vm.findClass "LieClock$Orders" = some m.cls := hown
  have hl : lv_has ls 5 [(0, .ref qa900), (1, .ref qa901), (2, .ref qa902), (3, .int zi903), (4, .int zi904)] := hl
  obtain ⟨Q, hQ⟩ : ∃ Q : State → Prop, Q = MQ below (QBi (S := (Nat → Nat → Value)) (fun (r : Int32) (u : (Nat → Nat → Value)) => Ok K u ∧ Fr [3003, 3004, 8000, 8001, 8002, 8003, 8004, 8005, 8006, 8007, 8008, 27000, 40000, 41000, 42000] K hp0 u ∧ ((0 : Int) ≤ r.toInt ∧ r.toInt ≤ 1)) G (fun u => va_pl Ls (cellOf cy K ln u)) A) ([.ref qa900, .ref qa901, .ref qa902, .int zi903, .int zi904] : List Value).toArray s 0 0 A := ⟨_, rfl⟩
  rw [← hQ]
  refine lv_aload_n hx hb dX4_canAvoid_0 rfl (lv_at hl 0 rfl) ?_
  obtain ⟨qa2, eq1, kd3⟩ := rd_5000 ok0 kd900
  refine p_get (ci := 4) (v := .ref qa2) (C := RX4) (T := TX4) (N := 8) hx hb hT iw_X4 hown hK hw hW kd900 (by decide) rfl rfl 0 (by decide) eq1 (hT _ tb_555) (fun _ h9 => h9) dX4_canAvoid_1 ?_
  refine lv_iconst (v := 0) hx hb dX4_canAvoid_4 (by decide) ?_
  obtain ⟨qa5, eq4, kd6⟩ := rd_34000 ok0 kd3 ((0 : Int32).toNatClampNeg)
  refine p_aald (v := qa5) hx hb hK hw hW kd3 (by decide) rfl (by decide) (by decide) rfl (hW.len kd3 (n := 7) rfl (by decide)) (vp_b bc_0 (by decide) (by decide)) eq4 dX4_canAvoid_5 ?_
  refine lv_aload_n hx hb dX4_canAvoid_6 rfl (lv_at hl 2 rfl) ?_
  refine kq_v hw hS hA (va_runV (As := [.ref qa902]) (rest := []) ⟨hx, hb, hml, hown, hT⟩ (cX7_copyMoment_0 l G cy ev K ln Ls hW _ hp0 ok0 qa5 qa902 kd6 kd902) (cwV 1 hT (good_V tb_1051 tb_1223 tb_1049 tb_1050 tb_115) rfl rfl rfl (by decide +kernel) ⟨Nat.le_of_ble_eq_true rfl, Nat.le_of_ble_eq_true rfl⟩) (pool_preV (ci := 7) hK hE hS hA hw hW kd6 (by decide) rfl) rfl rfl hl.1 rfl (lv_room (Nat.le_of_ble_eq_true rfl)) dX4_canAvoid_7 ⟨Nat.le_of_ble_eq_true rfl, Nat.le_of_ble_eq_true rfl⟩) (fun hp7 H locs hq10 hw hS => ?_)
  obtain ⟨ok8, F9⟩ := hq10
  have hw : PW G cy K ln Ls A hp7 H := hw
  refine lv_aload_n hx hb dX4_canAvoid_10 rfl (lv_at hl 0 rfl) ?_
  refine lv_aload_n hx hb dX4_canAvoid_11 rfl (lv_at hl 1 rfl) ?_
  refine lv_iload_n hx hb dX4_canAvoid_12 rfl (lv_at hl 3 rfl) ?_
  refine lv_iload hx hb dX4_canAvoid_13 (lv_at hl 4 rfl) ?_
  refine lv_iconst (v := 0) hx hb dX4_canAvoid_15 (by decide) ?_
  refine kq_i hw hS hA (va_runV (As := [.ref qa901, .int zi903, .int zi904, .int 0]) (rest := []) ⟨hx, hb, hml, hown, hT⟩ (cX4_avoids_6 l G cy ev K ln Ls hW _ hp7 ok8 qa900 qa901 zi903 zi904 0 kd900 kd901 (b_wid2 bc_0 (by decide) (by decide))) (cwV 4 hT (good_V tb_1251 tb_1248 tb_1250 tb_41 tb_119) rfl rfl rfl (by decide +kernel) ⟨Nat.le_of_ble_eq_true rfl, Nat.le_of_ble_eq_true rfl⟩) (pool_preV (ci := 4) hK hE hS hA hw hW kd900 (by decide) rfl) rfl rfl hl.1 rfl (lv_room (Nat.le_of_ble_eq_true rfl)) dX4_canAvoid_16 ⟨Nat.le_of_ble_eq_true rfl, Nat.le_of_ble_eq_true rfl⟩) (fun zi16 hp12 H locs hq15 hw hS => ?_)
  obtain ⟨ok13, F14, bd17⟩ := hq15
  have hw : PW G cy K ln Ls A hp12 H := hw
  rw [hQ]
  exact kz_i hx hb hr hlocks hS (nz_n bd17 (by decide) (by decide)) hp12 hw ⟨ok13, (Fr.tr (Fr.tr (Fr.rf) F9 (by decide)) F14 (by decide)), (b_wid2 bd17 (by decide) (by decide))⟩ (Nat.le_of_ble_eq_true rfl) (Nat.le_of_ble_eq_true rfl) dX4_canAvoid_19

set_option maxRecDepth 100000 in
set_option maxHeartbeats 4000000 in
theorem cX1_clear_0 (l : Launch) (G : va_G) (cy : Nat → ClassId) (ev : Ew) (K ln : Nat → Nat) (Ls : List Nat) (hW : SW K ln Ls) (sz : Nat) (hp0 : Nat → Nat → Value) (ok0 : Ok K hp0) (qa900 : Nat) (kd900 : K qa900 = 2) : Met l yX1_clear (WS yX1_clear cX1_clear 2 none) { frames := 0, cells := 0, slots := 0, locals := 0 } (PB2 [.ref qa900] sz G cy ev (va_pl Ls (cellOf cy K ln hp0))) (QBv (S := (Nat → Nat → Value)) (fun u : (Nat → Nat → Value) => Ok K u ∧ Fr [2003, 22000] K hp0 u) G (fun u => va_pl Ls (cellOf cy K ln u)) (va_A (va_pl Ls (cellOf cy K ln hp0)) sz)) 0 0 (va_A (va_pl Ls (cellOf cy K ln hp0)) sz) := by
  refine met_of2 (y := yX1_clear) (L := 2) (av := [.ref qa900]) (Qc := fun A => QBv (S := (Nat → Nat → Value)) (fun u : (Nat → Nat → Value) => Ok K u ∧ Fr [2003, 22000] K hp0 u) G (fun u => va_pl Ls (cellOf cy K ln u)) A) (plainFor_of_name (by decide)) (Nat.le_of_ble_eq_true rfl) ?_
  intro p e s m below meth c hsz hx hb hr hml hown hT hlocks hin hK A hA hE hw hS ls hl
  have hw : PW G cy K ln Ls A hp0 s.heap := hw
  have hown : s.vm.findClass "LieClock$Book" = some m.cls := hown
  have hl : lv_has ls 2 [(0, .ref qa900)] := hl
  obtain ⟨Q, hQ⟩ : ∃ Q : State → Prop, Q = MQ below (QBv (S := (Nat → Nat → Value)) (fun u : (Nat → Nat → Value) => Ok K u ∧ Fr [2003, 22000] K hp0 u) G (fun u => va_pl Ls (cellOf cy K ln u)) A) ([.ref qa900] : List Value).toArray s 0 0 A := ⟨_, rfl⟩
  rw [← hQ]
  refine lv_aload_n hx hb dX1_clear_0 rfl (lv_at hl 0 rfl) ?_
  refine lv_iconst (v := 0) hx hb dX1_clear_1 (by decide) ?_
  refine p_put (ci := 1) (v := .int 0) (ty := .int) (C := RX1) (T := TX1) (N := 8) hx hb hT iw_X1 tyX1 tyX1_ok nmX1 hown hK hw hS hW kd900 (by decide) rfl rfl 3 (by decide) (hT _ tb_631) (fun _ h9 => h9) rfl (by decide +kernel) rfl rfl dX1_clear_2 (fun hp1 eh2 H locs hw hS => ?_)
  have ok3 := wr_2003 bc_0 (by decide) (by decide) ok0 kd900 eh2
  refine lv_iconst (v := 0) hx hb dX1_clear_5 (by decide) ?_
  refine lv_istore_n (lv' := [(1, .int 0), (0, .ref qa900)]) hx hb dX1_clear_6 rfl hl (by decide) rfl (fun ls hl => ?_)
  have lp115 : ∀ (n113 : Nat) (hp81 : Nat → Nat → Value) (zi80 : Int32) (H : Heap) (locs : List Loc) (ls : Array Slot), 6 - zi80.toInt < (n113 : Int) → Ok K hp81 → Fr [22000] K hp1 hp81 → ((0 : Int) ≤ zi80.toInt ∧ zi80.toInt ≤ 6) → lv_has ls 2 [(0, .ref qa900), (1, .int zi80)] → PW G cy K ln Ls A hp81 H → va_S A s.heap H locs → W p l e ({ frames := 0, cells := 0, slots := 0, locals := 0 } : Room) s m ([.ref qa900] : List Value).toArray below meth c H locs 0 0 Q (F0 m 7 ls []) := by
    intro n113
    induction n113 with
    | zero =>
      intro hp81 zi80 H locs ls hm116 ok83 F82 bd84 hl hw hS
      exact absurd hm116 (by have := bd84; omega)
    | succ n113 ih114 =>
      intro hp81 zi80 H locs ls hm116 ok83 F82 bd84 hl hw hS
      refine lv_iload_n hx hb dX1_clear_7 rfl (lv_at hl 1 rfl) ?_
      refine lv_iconst (v := 5) hx hb dX1_clear_8 (by decide) ?_
      refine lv_icmp_gt (tgt := 25) hx hb dX1_clear_9 (by decide) (fun cn117 => ?_) (fun cn117 => ?_)
      · skip
        have bd118 : (6 : Int) ≤ zi80.toInt ∧ zi80.toInt ≤ 6 := r_lt_y cn117 bc_5 bd84 (by decide) (by decide)
        rw [hQ]
        exact kz_v hx hb hr hlocks hS hp81 hw ⟨ok83, (Fr.tr (Fr.put (cq := 2003) (Fr.rf) eh2 kd900 (cd_o (by decide)) (by decide)) F82 (by decide))⟩ (Nat.le_of_ble_eq_true rfl) (Nat.le_of_ble_eq_true rfl) dX1_clear_25
      · skip
        have bd119 : (0 : Int) ≤ zi80.toInt ∧ zi80.toInt ≤ 5 := r_le_x (Int32.not_lt.mp cn117) bd84 bc_5 (by decide) (by decide)
        refine lv_aload_n hx hb dX1_clear_12 rfl (lv_at hl 0 rfl) ?_
        obtain ⟨qa121, eq120, kd122⟩ := rd_2004 ok83 kd900
        refine p_get (ci := 1) (v := .ref qa121) (C := RX1) (T := TX1) (N := 8) hx hb hT iw_X1 hown hK hw hW kd900 (by decide) rfl rfl 4 (by decide) eq120 (hT _ tb_633) (fun _ h9 => h9) dX1_clear_13 ?_
        refine lv_iload_n hx hb dX1_clear_16 rfl (lv_at hl 1 rfl) ?_
        refine lv_iconst (v := 0) hx hb dX1_clear_17 (by decide) ?_
        refine p_zast (x := 0) hx hb hK hw hS hW kd122 (by decide) rfl (hW.len kd122 (n := 6) rfl (by decide)) (vp_b bd119 (by decide) (by decide)) dX1_clear_18 (fun hp123 eh124 H locs hw hS => ?_)
        have ok125 := wr_22000 (nar_z 0) (by decide) (by decide) ok83 kd122 eh124
        obtain ⟨zi126, ea127⟩ : ∃ z : Int32, z = zi80 + 1 := ⟨_, rfl⟩
        have bd128 : (1 : Int) ≤ zi126.toInt ∧ zi126.toInt ≤ 6 := b_iadd ea127 bd119 bc_1 (by decide) (by decide) (by decide) (by decide)
        have qe129 : zi126.toInt = (zi80 : Int32).toInt + (1 : Int32).toInt := e_iadd ea127 bd119 bc_1 (by decide) (by decide)
        have qe130 : zi126.toInt = zi80.toInt + 1 := by have ha : (1 : Int32).toInt = 1 := (by decide); rw [ha] at qe129; exact qe129
        refine lv_iinc (v := zi126) (lv' := [(1, .int zi126), (0, .ref qa900)]) hx hb dX1_clear_19 hl (k := 1) rfl ea127.symm (by decide) rfl (fun ls hl => ?_)
        refine lv_goto (tgt := 7) hx hb dX1_clear_22 (by decide) ?_
        exact ih114 hp123 zi126 _ _ ls (by have := hm116; have := qe130; omega) ok125 (Fr.put (cq := 22000) (Fr.tr (Fr.rf) F82 (by decide)) eh124 kd122 (cd_a (by decide)) (by decide)) (b_wid2 bd128 (by decide) (by decide)) (lv_sub hl [1, 0] rfl) hw hS
  exact lp115 _ hp1 0 _ _ ls (lp_in _) ok3 (Fr.rf) (b_wid2 bc_0 (by decide) (by decide)) (lv_sub hl [1, 0] rfl) hw hS

set_option maxRecDepth 100000 in
set_option maxHeartbeats 4000000 in
theorem cX1_add_0 (l : Launch) (G : va_G) (cy : Nat → ClassId) (ev : Ew) (K ln : Nat → Nat) (Ls : List Nat) (hW : SW K ln Ls) (sz : Nat) (hp0 : Nat → Nat → Value) (ok0 : Ok K hp0) (qa900 : Nat) (zi901 : Int32) (kd900 : K qa900 = 2) : Met l yX1_add (WS yX1_add cX1_add 2 (some .int)) { frames := 0, cells := 0, slots := 0, locals := 0 } (PB2 [.ref qa900, .int zi901] sz G cy ev (va_pl Ls (cellOf cy K ln hp0))) (QBi (S := (Nat → Nat → Value)) (fun (r : Int32) (u : (Nat → Nat → Value)) => Ok K u ∧ Fr [2003, 21000] K hp0 u ∧ ((-1 : Int) ≤ r.toInt ∧ r.toInt ≤ 4)) G (fun u => va_pl Ls (cellOf cy K ln u)) (va_A (va_pl Ls (cellOf cy K ln hp0)) sz)) 0 0 (va_A (va_pl Ls (cellOf cy K ln hp0)) sz) := by
  refine met_of2 (y := yX1_add) (L := 2) (av := [.ref qa900, .int zi901]) (Qc := fun A => QBi (S := (Nat → Nat → Value)) (fun (r : Int32) (u : (Nat → Nat → Value)) => Ok K u ∧ Fr [2003, 21000] K hp0 u ∧ ((-1 : Int) ≤ r.toInt ∧ r.toInt ≤ 4)) G (fun u => va_pl Ls (cellOf cy K ln u)) A) (plainFor_of_name (by decide)) (Nat.le_of_ble_eq_true rfl) ?_
  intro p e s m below meth c hsz hx hb hr hml hown hT hlocks hin hK A hA hE hw hS ls hl
  have hw : PW G cy K ln Ls A hp0 s.heap := hw
  have hown : s.vm.findClass "LieClock$Book" = some m.cls := hown
  have hl : lv_has ls 2 [(0, .ref qa900), (1, .int zi901)] := hl
  obtain ⟨Q, hQ⟩ : ∃ Q : State → Prop, Q = MQ below (QBi (S := (Nat → Nat → Value)) (fun (r : Int32) (u : (Nat → Nat → Value)) => Ok K u ∧ Fr [2003, 21000] K hp0 u ∧ ((-1 : Int) ≤ r.toInt ∧ r.toInt ≤ 4)) G (fun u => va_pl Ls (cellOf cy K ln u)) A) ([.ref qa900, .int zi901] : List Value).toArray s 0 0 A := ⟨_, rfl⟩
  rw [← hQ]
  refine lv_aload_n hx hb dX1_add_0 rfl (lv_at hl 0 rfl) ?_
  obtain ⟨zi2, eq1, bd3⟩ := rd_2003 ok0 kd900
  refine p_get (ci := 1) (v := .int zi2) (C := RX1) (T := TX1) (N := 8) hx hb hT iw_X1 hown hK hw hW kd900 (by decide) rfl rfl 3 (by decide) eq1 (hT _ tb_631) (fun _ h9 => h9) dX1_add_1 ?_
  refine lv_iconst (v := 5) hx hb dX1_add_4 (by decide) ?_
  refine lv_icmp_lt (tgt := 10) hx hb dX1_add_5 (by decide) (fun cn4 => ?_) (fun cn4 => ?_)
  · skip
    have bd5 : (0 : Int) ≤ zi2.toInt ∧ zi2.toInt ≤ 4 := r_lt_x cn4 bd3 bc_5 (by decide) (by decide)
    refine lv_aload_n hx hb dX1_add_10 rfl (lv_at hl 0 rfl) ?_
    obtain ⟨qa7, eq6, kd8⟩ := rd_2002 ok0 kd900
    refine p_get (ci := 1) (v := .ref qa7) (C := RX1) (T := TX1) (N := 8) hx hb hT iw_X1 hown hK hw hW kd900 (by decide) rfl rfl 2 (by decide) eq6 (hT _ tb_630) (fun _ h9 => h9) dX1_add_11 ?_
    refine lv_aload_n hx hb dX1_add_14 rfl (lv_at hl 0 rfl) ?_
    refine p_get (ci := 1) (v := .int zi2) (C := RX1) (T := TX1) (N := 8) hx hb hT iw_X1 hown hK hw hW kd900 (by decide) rfl rfl 3 (by decide) eq1 (hT _ tb_631) (fun _ h9 => h9) dX1_add_15 ?_
    refine lv_iload_n hx hb dX1_add_18 rfl (lv_at hl 1 rfl) ?_
    refine p_iast (x := zi901) hx hb hK hw hS hW kd8 (by decide) rfl (hW.len kd8 (n := 5) rfl (by decide)) (vp_b bd5 (by decide) (by decide)) dX1_add_19 (fun hp9 eh10 H locs hw hS => ?_)
    have ok11 := wr_21000 ok0 kd8 eh10
    refine lv_aload_n hx hb dX1_add_20 rfl (lv_at hl 0 rfl) ?_
    refine lv_dup hx hb dX1_add_21 rfl ?_
    have eq12 : hp9 qa900 3 = .int zi2 := Eq.trans (up_at eh10 (Or.inl (kd_ne kd900 kd8 (by decide)))) eq1
    refine p_get (ci := 1) (v := .int zi2) (C := RX1) (T := TX1) (N := 8) hx hb hT iw_X1 hown hK hw hW kd900 (by decide) rfl rfl 3 (by decide) eq12 (hT _ tb_631) (fun _ h9 => h9) dX1_add_22 ?_
    refine lv_iconst (v := 1) hx hb dX1_add_25 (by decide) ?_
    refine lv_iadd hx hb dX1_add_26 (lv_topi (fun zi13 ea14 => ?_))
    have bd15 : (1 : Int) ≤ zi13.toInt ∧ zi13.toInt ≤ 5 := b_iadd ea14 bd5 bc_1 (by decide) (by decide) (by decide) (by decide)
    have qe16 : zi13.toInt = (zi2 : Int32).toInt + (1 : Int32).toInt := e_iadd ea14 bd5 bc_1 (by decide) (by decide)
    have qe17 : zi13.toInt = zi2.toInt + 1 := by have ha : (1 : Int32).toInt = 1 := (by decide); rw [ha] at qe16; exact qe16
    refine p_put (ci := 1) (v := .int zi13) (ty := .int) (C := RX1) (T := TX1) (N := 8) hx hb hT iw_X1 tyX1 tyX1_ok nmX1 hown hK hw hS hW kd900 (by decide) rfl rfl 3 (by decide) (hT _ tb_631) (fun _ h9 => h9) rfl (by decide +kernel) rfl rfl dX1_add_27 (fun hp18 eh19 H locs hw hS => ?_)
    have ok20 := wr_2003 bd15 (by decide) (by decide) ok11 kd900 eh19
    refine lv_aload_n hx hb dX1_add_30 rfl (lv_at hl 0 rfl) ?_
    refine p_get (ci := 1) (v := .int zi13) (C := RX1) (T := TX1) (N := 8) hx hb hT iw_X1 hown hK hw hW kd900 (by decide) rfl rfl 3 (by decide) (hp_self eh19) (hT _ tb_631) (fun _ h9 => h9) dX1_add_31 ?_
    refine lv_iconst (v := 1) hx hb dX1_add_34 (by decide) ?_
    refine lv_isub hx hb dX1_add_35 (lv_topi (fun zi21 ea22 => ?_))
    have bd23 : (0 : Int) ≤ zi21.toInt ∧ zi21.toInt ≤ 4 := b_isub ea22 bd15 bc_1 (by decide) (by decide) (by decide) (by decide)
    have qe24 : zi21.toInt = (zi13 : Int32).toInt - (1 : Int32).toInt := e_isub ea22 bd15 bc_1 (by decide) (by decide)
    have qe25 : zi21.toInt = zi13.toInt - 1 := by have ha : (1 : Int32).toInt = 1 := (by decide); rw [ha] at qe24; exact qe24
    rw [hQ]
    exact kz_i hx hb hr hlocks hS rfl hp18 hw ⟨ok20, (Fr.put (cq := 2003) (Fr.put (cq := 21000) (Fr.rf) eh10 kd8 (cd_a (by decide)) (by decide)) eh19 kd900 (cd_o (by decide)) (by decide)), (b_wid2 bd23 (by decide) (by decide))⟩ (Nat.le_of_ble_eq_true rfl) (Nat.le_of_ble_eq_true rfl) dX1_add_36
  · skip
    have bd26 : (5 : Int) ≤ zi2.toInt ∧ zi2.toInt ≤ 5 := r_le_y (Int32.not_lt.mp cn4) bc_5 bd3 (by decide) (by decide)
    refine lv_iconst (v := (-1)) hx hb dX1_add_8 (by decide) ?_
    rw [hQ]
    exact kz_i hx hb hr hlocks hS rfl hp0 hw ⟨ok0, (Fr.rf), (b_wid2 bc_m1 (by decide) (by decide))⟩ (Nat.le_of_ble_eq_true rfl) (Nat.le_of_ble_eq_true rfl) dX1_add_9

set_option maxRecDepth 100000 in
set_option maxHeartbeats 4000000 in
theorem cX11_feed_0 (l : Launch) (G : va_G) (cy : Nat → ClassId) (ev : Ew) (K ln : Nat → Nat) (Ls : List Nat) (hW : SW K ln Ls) (sz : Nat) (hp0 : Nat → Nat → Value) (ok0 : Ok K hp0) (qa900 : Nat) (zi901 : Int32) (zi902 : Int32) (zi903 : Int32) (zi904 : Int32) (zi905 : Int32) (kd900 : K qa900 = 12) : Met l yX11_feed (WS yX11_feed cX11_feed 6 (some .int)) { frames := 1, cells := 0, slots := 0, locals := 22 } (PB2 [.ref qa900, .int zi901, .int zi902, .int zi903, .int zi904, .int zi905] sz G cy ev (va_pl Ls (cellOf cy K ln hp0))) (QBi (S := (Nat → Nat → Value)) (fun (r : Int32) (u : (Nat → Nat → Value)) => Ok K u ∧ Fr [9001, 43000] K hp0 u ∧ ((-1 : Int) ≤ r.toInt ∧ r.toInt ≤ 2000)) G (fun u => va_pl Ls (cellOf cy K ln u)) (va_A (va_pl Ls (cellOf cy K ln hp0)) sz)) 0 0 (va_A (va_pl Ls (cellOf cy K ln hp0)) sz) := by
  refine met_of2 (y := yX11_feed) (L := 6) (av := [.ref qa900, .int zi901, .int zi902, .int zi903, .int zi904, .int zi905]) (Qc := fun A => QBi (S := (Nat → Nat → Value)) (fun (r : Int32) (u : (Nat → Nat → Value)) => Ok K u ∧ Fr [9001, 43000] K hp0 u ∧ ((-1 : Int) ≤ r.toInt ∧ r.toInt ≤ 2000)) G (fun u => va_pl Ls (cellOf cy K ln u)) A) (plainFor_of_name (by decide)) (Nat.le_of_ble_eq_true rfl) ?_
  intro p e s m below meth c hsz hx hb hr hml hown hT hlocks hin hK A hA hE hw hS ls hl
  have hw : PW G cy K ln Ls A hp0 s.heap := hw
  have hown : s.vm.findClass "LieClock" = some m.cls := hown
  have hl : lv_has ls 6 [(0, .ref qa900), (1, .int zi901), (2, .int zi902), (3, .int zi903), (4, .int zi904), (5, .int zi905)] := hl
  obtain ⟨Q, hQ⟩ : ∃ Q : State → Prop, Q = MQ below (QBi (S := (Nat → Nat → Value)) (fun (r : Int32) (u : (Nat → Nat → Value)) => Ok K u ∧ Fr [9001, 43000] K hp0 u ∧ ((-1 : Int) ≤ r.toInt ∧ r.toInt ≤ 2000)) G (fun u => va_pl Ls (cellOf cy K ln u)) A) ([.ref qa900, .int zi901, .int zi902, .int zi903, .int zi904, .int zi905] : List Value).toArray s 0 0 A := ⟨_, rfl⟩
  rw [← hQ]
  refine lv_aload_n hx hb dX11_feed_0 rfl (lv_at hl 0 rfl) ?_
  obtain ⟨qa2, eq1, kd3⟩ := rd_12000 ok0 kd900
  refine p_get (ci := 11) (v := .ref qa2) (C := RX11) (T := TX11) (N := 17) hx hb hT iw_X11 hown hK hw hW kd900 (by decide) rfl rfl 0 (by decide) eq1 (hT _ tb_657) (fun _ h9 => h9) dX11_feed_1 ?_
  obtain ⟨zi5, eq4, bd6⟩ := rd_9001 ok0 kd3
  refine p_getN (ci := 8) (v := .int zi5) (C := RX8) (T := TX8) (N := 2) hx hb hT iw_X8 hown hK hw hW kd3 (by decide) rfl rfl 1 (by decide) eq4 (hK.fl nw_39) (fun _ h9 => h9) dX11_feed_4 ?_
  refine lv_sipush (v := 1980) hx hb dX11_feed_7 (by decide) ?_
  refine lv_icmp_le (tgt := 15) hx hb dX11_feed_10 (by decide) (fun cn7 => ?_) (fun cn7 => ?_)
  · skip
    have bd8 : (0 : Int) ≤ zi5.toInt ∧ zi5.toInt ≤ 1980 := r_le_x cn7 bd6 bc_1980 (by decide) (by decide)
    refine lv_aload_n hx hb dX11_feed_15 rfl (lv_at hl 0 rfl) ?_
    refine p_get (ci := 11) (v := .ref qa2) (C := RX11) (T := TX11) (N := 17) hx hb hT iw_X11 hown hK hw hW kd900 (by decide) rfl rfl 0 (by decide) eq1 (hT _ tb_657) (fun _ h9 => h9) dX11_feed_16 ?_
    refine lv_iload_n hx hb dX11_feed_19 rfl (lv_at hl 1 rfl) ?_
    refine kq_v hw hS hA (va_runV (As := [.int zi901]) (rest := []) ⟨hx, hb, hml, hown, hT⟩ (cX8_append_0 l G cy ev K ln Ls hW _ hp0 ok0 qa2 zi901 kd3) (cwV 1 hT (good_V tb_716 tb_713 tb_714 tb_715 tb_106) rfl rfl rfl (by decide +kernel) ⟨Nat.le_of_ble_eq_true rfl, Nat.le_of_ble_eq_true rfl⟩) (pool_preV (ci := 8) hK hE hS hA hw hW kd3 (by decide) rfl) rfl rfl hl.1 rfl (lv_room (Nat.le_of_ble_eq_true rfl)) dX11_feed_20 ⟨Nat.le_of_ble_eq_true rfl, Nat.le_of_ble_eq_true rfl⟩) (fun hp9 H locs hq12 hw hS => ?_)
    obtain ⟨ok10, F11⟩ := hq12
    have hw : PW G cy K ln Ls A hp9 H := hw
    refine lv_aload_n hx hb dX11_feed_23 rfl (lv_at hl 0 rfl) ?_
    have eq14 : hp9 qa900 0 = .ref qa2 := Eq.trans (Fr.at (cq := 12000) F11 kd900 (cd_o (by decide)) (by decide)) eq1
    refine p_get (ci := 11) (v := .ref qa2) (C := RX11) (T := TX11) (N := 17) hx hb hT iw_X11 hown hK hw hW kd900 (by decide) rfl rfl 0 (by decide) eq14 (hT _ tb_657) (fun _ h9 => h9) dX11_feed_24 ?_
    refine lv_iload_n hx hb dX11_feed_27 rfl (lv_at hl 2 rfl) ?_
    refine kq_v hw hS hA (va_runV (As := [.int zi902]) (rest := []) ⟨hx, hb, hml, hown, hT⟩ (cX8_append_0 l G cy ev K ln Ls hW _ hp9 ok10 qa2 zi902 kd3) (cwV 1 hT (good_V tb_716 tb_713 tb_714 tb_715 tb_106) rfl rfl rfl (by decide +kernel) ⟨Nat.le_of_ble_eq_true rfl, Nat.le_of_ble_eq_true rfl⟩) (pool_preV (ci := 8) hK hE hS hA hw hW kd3 (by decide) rfl) rfl rfl hl.1 rfl (lv_room (Nat.le_of_ble_eq_true rfl)) dX11_feed_28 ⟨Nat.le_of_ble_eq_true rfl, Nat.le_of_ble_eq_true rfl⟩) (fun hp15 H locs hq18 hw hS => ?_)
    obtain ⟨ok16, F17⟩ := hq18
    have hw : PW G cy K ln Ls A hp15 H := hw
    refine lv_aload_n hx hb dX11_feed_31 rfl (lv_at hl 0 rfl) ?_
    have eq20 : hp15 qa900 0 = .ref qa2 := Eq.trans (Fr.at (cq := 12000) F17 kd900 (cd_o (by decide)) (by decide)) eq14
    refine p_get (ci := 11) (v := .ref qa2) (C := RX11) (T := TX11) (N := 17) hx hb hT iw_X11 hown hK hw hW kd900 (by decide) rfl rfl 0 (by decide) eq20 (hT _ tb_657) (fun _ h9 => h9) dX11_feed_32 ?_
    refine lv_iload_n hx hb dX11_feed_35 rfl (lv_at hl 3 rfl) ?_
    refine kq_v hw hS hA (va_runV (As := [.int zi903]) (rest := []) ⟨hx, hb, hml, hown, hT⟩ (cX8_append_0 l G cy ev K ln Ls hW _ hp15 ok16 qa2 zi903 kd3) (cwV 1 hT (good_V tb_716 tb_713 tb_714 tb_715 tb_106) rfl rfl rfl (by decide +kernel) ⟨Nat.le_of_ble_eq_true rfl, Nat.le_of_ble_eq_true rfl⟩) (pool_preV (ci := 8) hK hE hS hA hw hW kd3 (by decide) rfl) rfl rfl hl.1 rfl (lv_room (Nat.le_of_ble_eq_true rfl)) dX11_feed_36 ⟨Nat.le_of_ble_eq_true rfl, Nat.le_of_ble_eq_true rfl⟩) (fun hp21 H locs hq24 hw hS => ?_)
    obtain ⟨ok22, F23⟩ := hq24
    have hw : PW G cy K ln Ls A hp21 H := hw
    refine lv_aload_n hx hb dX11_feed_39 rfl (lv_at hl 0 rfl) ?_
    have eq26 : hp21 qa900 0 = .ref qa2 := Eq.trans (Fr.at (cq := 12000) F23 kd900 (cd_o (by decide)) (by decide)) eq20
    refine p_get (ci := 11) (v := .ref qa2) (C := RX11) (T := TX11) (N := 17) hx hb hT iw_X11 hown hK hw hW kd900 (by decide) rfl rfl 0 (by decide) eq26 (hT _ tb_657) (fun _ h9 => h9) dX11_feed_40 ?_
    refine lv_iload hx hb dX11_feed_43 (lv_at hl 4 rfl) ?_
    refine kq_v hw hS hA (va_runV (As := [.int zi904]) (rest := []) ⟨hx, hb, hml, hown, hT⟩ (cX8_append_0 l G cy ev K ln Ls hW _ hp21 ok22 qa2 zi904 kd3) (cwV 1 hT (good_V tb_716 tb_713 tb_714 tb_715 tb_106) rfl rfl rfl (by decide +kernel) ⟨Nat.le_of_ble_eq_true rfl, Nat.le_of_ble_eq_true rfl⟩) (pool_preV (ci := 8) hK hE hS hA hw hW kd3 (by decide) rfl) rfl rfl hl.1 rfl (lv_room (Nat.le_of_ble_eq_true rfl)) dX11_feed_45 ⟨Nat.le_of_ble_eq_true rfl, Nat.le_of_ble_eq_true rfl⟩) (fun hp27 H locs hq30 hw hS => ?_)
    obtain ⟨ok28, F29⟩ := hq30
    have hw : PW G cy K ln Ls A hp27 H := hw
    refine lv_aload_n hx hb dX11_feed_48 rfl (lv_at hl 0 rfl) ?_
    have eq32 : hp27 qa900 0 = .ref qa2 := Eq.trans (Fr.at (cq := 12000) F29 kd900 (cd_o (by decide)) (by decide)) eq26
    refine p_get (ci := 11) (v := .ref qa2) (C := RX11) (T := TX11) (N := 17) hx hb hT iw_X11 hown hK hw hW kd900 (by decide) rfl rfl 0 (by decide) eq32 (hT _ tb_657) (fun _ h9 => h9) dX11_feed_49 ?_
    refine lv_iload hx hb dX11_feed_52 (lv_at hl 5 rfl) ?_
    refine kq_v hw hS hA (va_runV (As := [.int zi905]) (rest := []) ⟨hx, hb, hml, hown, hT⟩ (cX8_append_0 l G cy ev K ln Ls hW _ hp27 ok28 qa2 zi905 kd3) (cwV 1 hT (good_V tb_716 tb_713 tb_714 tb_715 tb_106) rfl rfl rfl (by decide +kernel) ⟨Nat.le_of_ble_eq_true rfl, Nat.le_of_ble_eq_true rfl⟩) (pool_preV (ci := 8) hK hE hS hA hw hW kd3 (by decide) rfl) rfl rfl hl.1 rfl (lv_room (Nat.le_of_ble_eq_true rfl)) dX11_feed_54 ⟨Nat.le_of_ble_eq_true rfl, Nat.le_of_ble_eq_true rfl⟩) (fun hp33 H locs hq36 hw hS => ?_)
    obtain ⟨ok34, F35⟩ := hq36
    have hw : PW G cy K ln Ls A hp33 H := hw
    refine lv_aload_n hx hb dX11_feed_57 rfl (lv_at hl 0 rfl) ?_
    have eq38 : hp33 qa900 0 = .ref qa2 := Eq.trans (Fr.at (cq := 12000) F35 kd900 (cd_o (by decide)) (by decide)) eq32
    refine p_get (ci := 11) (v := .ref qa2) (C := RX11) (T := TX11) (N := 17) hx hb hT iw_X11 hown hK hw hW kd900 (by decide) rfl rfl 0 (by decide) eq38 (hT _ tb_657) (fun _ h9 => h9) dX11_feed_58 ?_
    obtain ⟨zi40, eq39, bd41⟩ := rd_9001 ok34 kd3
    refine p_getN (ci := 8) (v := .int zi40) (C := RX8) (T := TX8) (N := 2) hx hb hT iw_X8 hown hK hw hW kd3 (by decide) rfl rfl 1 (by decide) eq39 (hK.fl nw_39) (fun _ h9 => h9) dX11_feed_61 ?_
    rw [hQ]
    exact kz_i hx hb hr hlocks hS rfl hp33 hw ⟨ok34, (Fr.tr (Fr.tr (Fr.tr (Fr.tr (Fr.tr (Fr.rf) F11 (by decide)) F17 (by decide)) F23 (by decide)) F29 (by decide)) F35 (by decide)), (b_wid2 bd41 (by decide) (by decide))⟩ (Nat.le_of_ble_eq_true rfl) (Nat.le_of_ble_eq_true rfl) dX11_feed_64
  · skip
    have bd42 : (1981 : Int) ≤ zi5.toInt ∧ zi5.toInt ≤ 2000 := r_lt_y (Int32.not_le.mp cn7) bc_1980 bd6 (by decide) (by decide)
    refine lv_iconst (v := (-1)) hx hb dX11_feed_13 (by decide) ?_
    rw [hQ]
    exact kz_i hx hb hr hlocks hS rfl hp0 hw ⟨ok0, (Fr.rf), (b_wid2 bc_m1 (by decide) (by decide))⟩ (Nat.le_of_ble_eq_true rfl) (Nat.le_of_ble_eq_true rfl) dX11_feed_14

set_option maxRecDepth 100000 in
set_option maxHeartbeats 4000000 in
theorem cX11_back_0 (l : Launch) (G : va_G) (cy : Nat → ClassId) (ev : Ew) (K ln : Nat → Nat) (Ls : List Nat) (hW : SW K ln Ls) (sz : Nat) (hp0 : Nat → Nat → Value) (ok0 : Ok K hp0) (qa900 : Nat) (zi901 : Int32) (kd900 : K qa900 = 12) : Met l yX11_back (WS yX11_back cX11_back 2 (some .int)) { frames := 0, cells := 0, slots := 0, locals := 0 } (PB2 [.ref qa900, .int zi901] sz G cy ev (va_pl Ls (cellOf cy K ln hp0))) (QBi (S := (Nat → Nat → Value)) (fun (r : Int32) (u : (Nat → Nat → Value)) => Ok K u ∧ Fr [9001] K hp0 u ∧ ((-1 : Int) ≤ r.toInt ∧ r.toInt ≤ 2000)) G (fun u => va_pl Ls (cellOf cy K ln u)) (va_A (va_pl Ls (cellOf cy K ln hp0)) sz)) 0 0 (va_A (va_pl Ls (cellOf cy K ln hp0)) sz) := by
  refine met_of2 (y := yX11_back) (L := 2) (av := [.ref qa900, .int zi901]) (Qc := fun A => QBi (S := (Nat → Nat → Value)) (fun (r : Int32) (u : (Nat → Nat → Value)) => Ok K u ∧ Fr [9001] K hp0 u ∧ ((-1 : Int) ≤ r.toInt ∧ r.toInt ≤ 2000)) G (fun u => va_pl Ls (cellOf cy K ln u)) A) (plainFor_of_name (by decide)) (Nat.le_of_ble_eq_true rfl) ?_
  intro p e s m below meth c hsz hx hb hr hml hown hT hlocks hin hK A hA hE hw hS ls hl
  have hw : PW G cy K ln Ls A hp0 s.heap := hw
  have hown : s.vm.findClass "LieClock" = some m.cls := hown
  have hl : lv_has ls 2 [(0, .ref qa900), (1, .int zi901)] := hl
  obtain ⟨Q, hQ⟩ : ∃ Q : State → Prop, Q = MQ below (QBi (S := (Nat → Nat → Value)) (fun (r : Int32) (u : (Nat → Nat → Value)) => Ok K u ∧ Fr [9001] K hp0 u ∧ ((-1 : Int) ≤ r.toInt ∧ r.toInt ≤ 2000)) G (fun u => va_pl Ls (cellOf cy K ln u)) A) ([.ref qa900, .int zi901] : List Value).toArray s 0 0 A := ⟨_, rfl⟩
  rw [← hQ]
  refine lv_iload_n hx hb dX11_back_0 rfl (lv_at hl 1 rfl) ?_
  refine lv_if_lt (tgt := 15) hx hb dX11_back_1 (by decide) (fun cn1 => ?_) (fun cn1 => ?_)
  · skip
    have bd2 : (-2147483648 : Int) ≤ zi901.toInt ∧ zi901.toInt ≤ -1 := r_lt_x cn1 (b_all zi901) bc_0 (by decide) (by decide)
    refine lv_iconst (v := (-1)) hx hb dX11_back_15 (by decide) ?_
    rw [hQ]
    exact kz_i hx hb hr hlocks hS rfl hp0 hw ⟨ok0, (Fr.rf), (b_wid2 bc_m1 (by decide) (by decide))⟩ (Nat.le_of_ble_eq_true rfl) (Nat.le_of_ble_eq_true rfl) dX11_back_16
  · skip
    have bd3 : (0 : Int) ≤ zi901.toInt ∧ zi901.toInt ≤ 2147483647 := r_le_y (Int32.not_lt.mp cn1) bc_0 (b_all zi901) (by decide) (by decide)
    refine lv_iload_n hx hb dX11_back_4 rfl (lv_at hl 1 rfl) ?_
    refine lv_aload_n hx hb dX11_back_5 rfl (lv_at hl 0 rfl) ?_
    obtain ⟨qa5, eq4, kd6⟩ := rd_12000 ok0 kd900
    refine p_get (ci := 11) (v := .ref qa5) (C := RX11) (T := TX11) (N := 17) hx hb hT iw_X11 hown hK hw hW kd900 (by decide) rfl rfl 0 (by decide) eq4 (hT _ tb_657) (fun _ h9 => h9) dX11_back_6 ?_
    obtain ⟨zi8, eq7, bd9⟩ := rd_9001 ok0 kd6
    refine p_getN (ci := 8) (v := .int zi8) (C := RX8) (T := TX8) (N := 2) hx hb hT iw_X8 hown hK hw hW kd6 (by decide) rfl rfl 1 (by decide) eq7 (hK.fl nw_39) (fun _ h9 => h9) dX11_back_9 ?_
    refine lv_icmp_le (tgt := 17) hx hb dX11_back_12 (by decide) (fun cn10 => ?_) (fun cn10 => ?_)
    · skip
      have bd11 : (0 : Int) ≤ zi901.toInt ∧ zi901.toInt ≤ 2000 := r_le_x cn10 bd3 bd9 (by decide) (by decide)
      refine lv_aload_n hx hb dX11_back_17 rfl (lv_at hl 0 rfl) ?_
      refine p_get (ci := 11) (v := .ref qa5) (C := RX11) (T := TX11) (N := 17) hx hb hT iw_X11 hown hK hw hW kd900 (by decide) rfl rfl 0 (by decide) eq4 (hT _ tb_657) (fun _ h9 => h9) dX11_back_18 ?_
      refine lv_dup hx hb dX11_back_21 rfl ?_
      refine p_getN (ci := 8) (v := .int zi8) (C := RX8) (T := TX8) (N := 2) hx hb hT iw_X8 hown hK hw hW kd6 (by decide) rfl rfl 1 (by decide) eq7 (hK.fl nw_39) (fun _ h9 => h9) dX11_back_22 ?_
      refine lv_iload_n hx hb dX11_back_25 rfl (lv_at hl 1 rfl) ?_
      refine lv_isub hx hb dX11_back_26 (lv_topi (fun zi12 ea13 => ?_))
      have bd14 : (0 : Int) ≤ zi12.toInt ∧ zi12.toInt ≤ 2000 := b_isub_le ea13 bd9 bd11 cn10 (by decide) (by decide) (by decide)
      refine p_putN (ci := 8) (v := .int zi12) (ty := .int) (C := RX8) (T := TX8) (N := 2) hx hb hT iw_X8 tyX8 tyX8_ok nmX8 hown hK hw hS hW kd6 (by decide) rfl rfl 1 (by decide) (hK.fl nw_39) (fun _ h9 => h9) rfl (by decide +kernel) rfl rfl dX11_back_27 (fun hp15 eh16 H locs hw hS => ?_)
      have ok17 := wr_9001 bd14 (by decide) (by decide) ok0 kd6 eh16
      refine lv_aload_n hx hb dX11_back_30 rfl (lv_at hl 0 rfl) ?_
      have eq18 : hp15 qa900 0 = .ref qa5 := Eq.trans (up_at eh16 (Or.inl (kd_ne kd900 kd6 (by decide)))) eq4
      refine p_get (ci := 11) (v := .ref qa5) (C := RX11) (T := TX11) (N := 17) hx hb hT iw_X11 hown hK hw hW kd900 (by decide) rfl rfl 0 (by decide) eq18 (hT _ tb_657) (fun _ h9 => h9) dX11_back_31 ?_
      refine p_getN (ci := 8) (v := .int zi12) (C := RX8) (T := TX8) (N := 2) hx hb hT iw_X8 hown hK hw hW kd6 (by decide) rfl rfl 1 (by decide) (hp_self eh16) (hK.fl nw_39) (fun _ h9 => h9) dX11_back_34 ?_
      rw [hQ]
      exact kz_i hx hb hr hlocks hS rfl hp15 hw ⟨ok17, (Fr.put (cq := 9001) (Fr.rf) eh16 kd6 (cd_o (by decide)) (by decide)), (b_wid2 bd14 (by decide) (by decide))⟩ (Nat.le_of_ble_eq_true rfl) (Nat.le_of_ble_eq_true rfl) dX11_back_37
    · skip
      have bd19 : (1 : Int) ≤ zi901.toInt ∧ zi901.toInt ≤ 2147483647 := r_lt_y (Int32.not_le.mp cn10) bd9 bd3 (by decide) (by decide)
      refine lv_iconst (v := (-1)) hx hb dX11_back_15 (by decide) ?_
      rw [hQ]
      exact kz_i hx hb hr hlocks hS rfl hp0 hw ⟨ok0, (Fr.rf), (b_wid2 bc_m1 (by decide) (by decide))⟩ (Nat.le_of_ble_eq_true rfl) (Nat.le_of_ble_eq_true rfl) dX11_back_16

set_option maxRecDepth 100000 in
set_option maxHeartbeats 4000000 in
theorem cX11_forgetSearches_0 (l : Launch) (G : va_G) (cy : Nat → ClassId) (ev : Ew) (K ln : Nat → Nat) (Ls : List Nat) (hW : SW K ln Ls) (sz : Nat) (hp0 : Nat → Nat → Value) (ok0 : Ok K hp0) (qa900 : Nat) (kd900 : K qa900 = 12) : Met l yX11_forgetSearches (WS yX11_forgetSearches cX11_forgetSearches 1 none) { frames := 0, cells := 0, slots := 0, locals := 0 } (PB2 [.ref qa900] sz G cy ev (va_pl Ls (cellOf cy K ln hp0))) (QBv (S := (Nat → Nat → Value)) (fun u : (Nat → Nat → Value) => Ok K u ∧ Fr [1005, 5005] K hp0 u) G (fun u => va_pl Ls (cellOf cy K ln u)) (va_A (va_pl Ls (cellOf cy K ln hp0)) sz)) 0 0 (va_A (va_pl Ls (cellOf cy K ln hp0)) sz) := by
  refine met_of2 (y := yX11_forgetSearches) (L := 1) (av := [.ref qa900]) (Qc := fun A => QBv (S := (Nat → Nat → Value)) (fun u : (Nat → Nat → Value) => Ok K u ∧ Fr [1005, 5005] K hp0 u) G (fun u => va_pl Ls (cellOf cy K ln u)) A) (plainFor_of_name (by decide)) (Nat.le_of_ble_eq_true rfl) ?_
  intro p e s m below meth c hsz hx hb hr hml hown hT hlocks hin hK A hA hE hw hS ls hl
  have hw : PW G cy K ln Ls A hp0 s.heap := hw
  have hown : s.vm.findClass "LieClock" = some m.cls := hown
  have hl : lv_has ls 1 [(0, .ref qa900)] := hl
  obtain ⟨Q, hQ⟩ : ∃ Q : State → Prop, Q = MQ below (QBv (S := (Nat → Nat → Value)) (fun u : (Nat → Nat → Value) => Ok K u ∧ Fr [1005, 5005] K hp0 u) G (fun u => va_pl Ls (cellOf cy K ln u)) A) ([.ref qa900] : List Value).toArray s 0 0 A := ⟨_, rfl⟩
  rw [← hQ]
  refine lv_aload_n hx hb dX11_forgetSearches_0 rfl (lv_at hl 0 rfl) ?_
  obtain ⟨qa2, eq1, kd3⟩ := rd_12015 ok0 kd900
  refine p_get (ci := 11) (v := .ref qa2) (C := RX11) (T := TX11) (N := 17) hx hb hT iw_X11 hown hK hw hW kd900 (by decide) rfl rfl 15 (by decide) eq1 (hT _ tb_672) (fun _ h9 => h9) dX11_forgetSearches_1 ?_
  refine lv_iconst (v := 0) hx hb dX11_forgetSearches_4 (by decide) ?_
  refine p_putN (ci := 0) (v := .int 0) (ty := .boolean) (C := RX0) (T := TX0) (N := 8) hx hb hT iw_X0 tyX0 tyX0_ok nmX0 hown hK hw hS hW kd3 (by decide) rfl rfl 5 (by decide) (hK.fl nw_496) (fun _ h9 => h9) rfl (by decide +kernel) (nz_n bc_0 (by decide) (by decide)) (nz_f bc_0 (by decide) (by decide)) dX11_forgetSearches_5 (fun hp4 eh5 H locs hw hS => ?_)
  have ok6 := wr_1005 bc_0 (by decide) (by decide) ok0 kd3 eh5
  refine lv_aload_n hx hb dX11_forgetSearches_8 rfl (lv_at hl 0 rfl) ?_
  obtain ⟨qa8, eq7, kd9⟩ := rd_12014 ok6 kd900
  refine p_get (ci := 11) (v := .ref qa8) (C := RX11) (T := TX11) (N := 17) hx hb hT iw_X11 hown hK hw hW kd900 (by decide) rfl rfl 14 (by decide) eq7 (hT _ tb_671) (fun _ h9 => h9) dX11_forgetSearches_9 ?_
  refine lv_iconst (v := 0) hx hb dX11_forgetSearches_12 (by decide) ?_
  refine p_putN (ci := 4) (v := .int 0) (ty := .boolean) (C := RX4) (T := TX4) (N := 8) hx hb hT iw_X4 tyX4 tyX4_ok nmX4 hown hK hw hS hW kd9 (by decide) rfl rfl 5 (by decide) (hK.fl nw_459) (fun _ h9 => h9) rfl (by decide +kernel) (nz_n bc_0 (by decide) (by decide)) (nz_f bc_0 (by decide) (by decide)) dX11_forgetSearches_13 (fun hp10 eh11 H locs hw hS => ?_)
  have ok12 := wr_5005 bc_0 (by decide) (by decide) ok6 kd9 eh11
  rw [hQ]
  exact kz_v hx hb hr hlocks hS hp10 hw ⟨ok12, (Fr.put (cq := 5005) (Fr.put (cq := 1005) (Fr.rf) eh5 kd3 (cd_o (by decide)) (by decide)) eh11 kd9 (cd_o (by decide)) (by decide))⟩ (Nat.le_of_ble_eq_true rfl) (Nat.le_of_ble_eq_true rfl) dX11_forgetSearches_16

set_option maxRecDepth 100000 in
set_option maxHeartbeats 4000000 in
theorem cX11_read_0 (l : Launch) (G : va_G) (cy : Nat → ClassId) (ev : Ew) (K ln : Nat → Nat) (Ls : List Nat) (hW : SW K ln Ls) (sz : Nat) (hp0 : Nat → Nat → Value) (ok0 : Ok K hp0) (qa900 : Nat) (kd900 : K qa900 = 12) : Met l yX11_read (WS yX11_read cX11_read 4 (some .int)) { frames := 25, cells := 0, slots := 0, locals := 605 } (PB2 [.ref qa900] sz G cy ev (va_pl Ls (cellOf cy K ln hp0))) (QBi (S := (Nat → Nat → Value)) (fun (r : Int32) (u : (Nat → Nat → Value)) => Ok K u ∧ Fr [1005, 2003, 3002, 5005, 6001, 6002, 6003, 6004, 6005, 6006, 8000, 8001, 8002, 8003, 8004, 8005, 9001, 10004, 11000, 11001, 11002, 11003, 11004, 11005, 11006, 11007, 11008, 11009, 12001, 12003, 12004, 12008, 22000, 26000, 40000, 41000, 42000, 44000, 45000, 46000, 48000, 49000, 50000, 51000, 52000, 53000, 54000, 55000, 59000] K hp0 u) G (fun u => va_pl Ls (cellOf cy K ln u)) (va_A (va_pl Ls (cellOf cy K ln hp0)) sz)) 0 0 (va_A (va_pl Ls (cellOf cy K ln hp0)) sz) := by
  refine met_of2 (y := yX11_read) (L := 4) (av := [.ref qa900]) (Qc := fun A => QBi (S := (Nat → Nat → Value)) (fun (r : Int32) (u : (Nat → Nat → Value)) => Ok K u ∧ Fr [1005, 2003, 3002, 5005, 6001, 6002, 6003, 6004, 6005, 6006, 8000, 8001, 8002, 8003, 8004, 8005, 9001, 10004, 11000, 11001, 11002, 11003, 11004, 11005, 11006, 11007, 11008, 11009, 12001, 12003, 12004, 12008, 22000, 26000, 40000, 41000, 42000, 44000, 45000, 46000, 48000, 49000, 50000, 51000, 52000, 53000, 54000, 55000, 59000] K hp0 u) G (fun u => va_pl Ls (cellOf cy K ln u)) A) (plainFor_of_name (by decide)) (Nat.le_of_ble_eq_true rfl) ?_
  intro p e s m below meth c hsz hx hb hr hml hown hT hlocks hin hK A hA hE hw hS ls hl
  have hw : PW G cy K ln Ls A hp0 s.heap := hw
  have hown : s.vm.findClass "LieClock" = some m.cls := hown
  have hl : lv_has ls 4 [(0, .ref qa900)] := hl
  obtain ⟨Q, hQ⟩ : ∃ Q : State → Prop, Q = MQ below (QBi (S := (Nat → Nat → Value)) (fun (r : Int32) (u : (Nat → Nat → Value)) => Ok K u ∧ Fr [1005, 2003, 3002, 5005, 6001, 6002, 6003, 6004, 6005, 6006, 8000, 8001, 8002, 8003, 8004, 8005, 9001, 10004, 11000, 11001, 11002, 11003, 11004, 11005, 11006, 11007, 11008, 11009, 12001, 12003, 12004, 12008, 22000, 26000, 40000, 41000, 42000, 44000, 45000, 46000, 48000, 49000, 50000, 51000, 52000, 53000, 54000, 55000, 59000] K hp0 u) G (fun u => va_pl Ls (cellOf cy K ln u)) A) ([.ref qa900] : List Value).toArray s 0 0 A := ⟨_, rfl⟩
  rw [← hQ]
  refine lv_aload_n hx hb dX11_read_0 rfl (lv_at hl 0 rfl) ?_
  obtain ⟨qa2, eq1, kd3⟩ := rd_12002 ok0 kd900
  refine p_get (ci := 11) (v := .ref qa2) (C := RX11) (T := TX11) (N := 17) hx hb hT iw_X11 hown hK hw hW kd900 (by decide) rfl rfl 2 (by decide) eq1 (hT _ tb_659) (fun _ h9 => h9) dX11_read_1 ?_
  refine lv_aload_n hx hb dX11_read_4 rfl (lv_at hl 0 rfl) ?_
  obtain ⟨qa5, eq4, kd6⟩ := rd_12000 ok0 kd900
  refine p_get (ci := 11) (v := .ref qa5) (C := RX11) (T := TX11) (N := 17) hx hb hT iw_X11 hown hK hw hW kd900 (by decide) rfl rfl 0 (by decide) eq4 (hT _ tb_657) (fun _ h9 => h9) dX11_read_5 ?_
  refine lv_aload_n hx hb dX11_read_8 rfl (lv_at hl 0 rfl) ?_
  obtain ⟨qa8, eq7, kd9⟩ := rd_12004 ok0 kd900
  refine p_get (ci := 11) (v := .ref qa8) (C := RX11) (T := TX11) (N := 17) hx hb hT iw_X11 hown hK hw hW kd900 (by decide) rfl rfl 4 (by decide) eq7 (hT _ tb_661) (fun _ h9 => h9) dX11_read_9 ?_
  refine kq_i hw hS hA (va_runV (As := [.ref qa5, .ref qa8]) (rest := []) ⟨hx, hb, hml, hown, hT⟩ (cX5_parse_0 l G cy ev K ln Ls hW _ hp0 ok0 qa2 qa5 qa8 kd3 kd6 kd9) (cwV 2 hT (good_V tb_728 tb_725 tb_726 tb_727 tb_109) rfl rfl rfl (by decide +kernel) ⟨Nat.le_of_ble_eq_true rfl, Nat.le_of_ble_eq_true rfl⟩) (pool_preV (ci := 5) hK hE hS hA hw hW kd3 (by decide) rfl) rfl rfl hl.1 rfl (lv_room (Nat.le_of_ble_eq_true rfl)) dX11_read_12 ⟨Nat.le_of_ble_eq_true rfl, Nat.le_of_ble_eq_true rfl⟩) (fun zi14 hp10 H locs hq13 hw hS => ?_)
  obtain ⟨ok11, F12⟩ := hq13
  have hw : PW G cy K ln Ls A hp10 H := hw
  refine lv_istore_n (lv' := [(1, .int zi14), (0, .ref qa900)]) hx hb dX11_read_15 rfl hl (by decide) rfl (fun ls hl => ?_)
  refine lv_aload_n hx hb dX11_read_16 rfl (lv_at hl 1 rfl) ?_
  have eq15 : hp10 qa900 0 = .ref qa5 := Eq.trans (Fr.at (cq := 12000) F12 kd900 (cd_o (by decide)) (by decide)) eq4
  refine p_get (ci := 11) (v := .ref qa5) (C := RX11) (T := TX11) (N := 17) hx hb hT iw_X11 hown hK hw hW kd900 (by decide) rfl rfl 0 (by decide) eq15 (hT _ tb_657) (fun _ h9 => h9) dX11_read_17 ?_
  refine lv_iconst (v := 0) hx hb dX11_read_20 (by decide) ?_
  refine p_putN (ci := 8) (v := .int 0) (ty := .int) (C := RX8) (T := TX8) (N := 2) hx hb hT iw_X8 tyX8 tyX8_ok nmX8 hown hK hw hS hW kd6 (by decide) rfl rfl 1 (by decide) (hK.fl nw_39) (fun _ h9 => h9) rfl (by decide +kernel) rfl rfl dX11_read_21 (fun hp16 eh17 H locs hw hS => ?_)
  have ok18 := wr_9001 bc_0 (by decide) (by decide) ok11 kd6 eh17
  refine lv_aload_n hx hb dX11_read_24 rfl (lv_at hl 1 rfl) ?_
  refine lv_aload_n hx hb dX11_read_25 rfl (lv_at hl 1 rfl) ?_
  have eq19 : hp16 qa900 2 = .ref qa2 := Eq.trans (up_at eh17 (Or.inl (kd_ne kd900 kd6 (by decide)))) (Eq.trans (Fr.at (cq := 12002) F12 kd900 (cd_o (by decide)) (by decide)) eq1)
  refine p_get (ci := 11) (v := .ref qa2) (C := RX11) (T := TX11) (N := 17) hx hb hT iw_X11 hown hK hw hW kd900 (by decide) rfl rfl 2 (by decide) eq19 (hT _ tb_659) (fun _ h9 => h9) dX11_read_26 ?_
  refine kq_i hw hS hA (va_runV (As := []) (rest := [.ref qa900]) ⟨hx, hb, hml, hown, hT⟩ (cX5_faultPlace_0 l G cy ev K ln Ls hW _ hp16 ok18 qa2 kd3) (cwV 0 hT (good_V tb_969 tb_966 tb_967 tb_968 tb_109) rfl rfl rfl (by decide +kernel) ⟨Nat.le_of_ble_eq_true rfl, Nat.le_of_ble_eq_true rfl⟩) (pool_preV (ci := 5) hK hE hS hA hw hW kd3 (by decide) rfl) rfl rfl hl.1 rfl (lv_room (Nat.le_of_ble_eq_true rfl)) dX11_read_29 ⟨Nat.le_of_ble_eq_true rfl, Nat.le_of_ble_eq_true rfl⟩) (fun zi24 hp20 H locs hq23 hw hS => ?_)
  obtain ⟨ok21, F22⟩ := hq23
  obtain rfl : hp16 = hp20 := (Fr.nil F22).symm
  have hw : PW G cy K ln Ls A hp16 H := hw
  refine p_put (ci := 11) (v := .int zi24) (ty := .int) (C := RX11) (T := TX11) (N := 17) hx hb hT iw_X11 tyX11 tyX11_ok nmX11 hown hK hw hS hW kd900 (by decide) rfl rfl 1 (by decide) (hT _ tb_658) (fun _ h9 => h9) rfl (by decide +kernel) rfl rfl dX11_read_32 (fun hp25 eh26 H locs hw hS => ?_)
  have ok27 := wr_12001 ok18 kd900 eh26
  refine lv_iload_n hx hb dX11_read_35 rfl (lv_at hl 0 rfl) ?_
  refine lv_if_eq (tgt := 41) hx hb dX11_read_36 (by decide) (fun cn28 => ?_) (fun cn28 => ?_)
  · skip
    have bd29 : (0 : Int) ≤ zi14.toInt ∧ zi14.toInt ≤ 0 := r_eq_x cn28 (b_all zi14) bc_0 (by decide) (by decide)
    refine lv_aload_n hx hb dX11_read_41 rfl (lv_at hl 1 rfl) ?_
    obtain ⟨qa31, eq30, kd32⟩ := rd_12003 ok27 kd900
    refine p_get (ci := 11) (v := .ref qa31) (C := RX11) (T := TX11) (N := 17) hx hb hT iw_X11 hown hK hw hW kd900 (by decide) rfl rfl 3 (by decide) eq30 (hT _ tb_660) (fun _ h9 => h9) dX11_read_42 ?_
    refine lv_astore_n (lv' := [(2, .ref qa31), (1, .int zi14), (0, .ref qa900)]) hx hb dX11_read_45 rfl hl (by decide) rfl (fun ls hl => ?_)
    refine lv_aload_n hx hb dX11_read_46 rfl (lv_at hl 2 rfl) ?_
    refine lv_aload_n hx hb dX11_read_47 rfl (lv_at hl 2 rfl) ?_
    have eq33 : hp25 qa900 4 = .ref qa8 := Eq.trans (up_at eh26 (Or.inr (by decide))) (Eq.trans (up_at eh17 (Or.inl (kd_ne kd900 kd6 (by decide)))) (Eq.trans (Fr.at (cq := 12004) F12 kd900 (cd_o (by decide)) (by decide)) eq7))
    refine p_get (ci := 11) (v := .ref qa8) (C := RX11) (T := TX11) (N := 17) hx hb hT iw_X11 hown hK hw hW kd900 (by decide) rfl rfl 4 (by decide) eq33 (hT _ tb_661) (fun _ h9 => h9) dX11_read_48 ?_
    refine p_put (ci := 11) (v := .ref qa8) (ty := .object "LieClock$Told") (C := RX11) (T := TX11) (N := 17) hx hb hT iw_X11 tyX11 tyX11_ok nmX11 hown hK hw hS hW kd900 (by decide) rfl rfl 3 (by decide) (hT _ tb_660) (fun _ h9 => h9) rfl (by decide +kernel) rfl rfl dX11_read_51 (fun hp34 eh35 H locs hw hS => ?_)
    have ok36 := wr_12003 kd9 ok27 kd900 eh35
    refine lv_aload_n hx hb dX11_read_54 rfl (lv_at hl 2 rfl) ?_
    refine lv_aload_n hx hb dX11_read_55 rfl (lv_at hl 0 rfl) ?_
    refine p_put (ci := 11) (v := .ref qa31) (ty := .object "LieClock$Told") (C := RX11) (T := TX11) (N := 17) hx hb hT iw_X11 tyX11 tyX11_ok nmX11 hown hK hw hS hW kd900 (by decide) rfl rfl 4 (by decide) (hT _ tb_661) (fun _ h9 => h9) rfl (by decide +kernel) rfl rfl dX11_read_56 (fun hp37 eh38 H locs hw hS => ?_)
    have ok39 := wr_12004 kd32 ok36 kd900 eh38
    refine lv_aload_n hx hb dX11_read_59 rfl (lv_at hl 2 rfl) ?_
    obtain ⟨qa41, eq40, kd42⟩ := rd_12005 ok39 kd900
    refine p_get (ci := 11) (v := .ref qa41) (C := RX11) (T := TX11) (N := 17) hx hb hT iw_X11 hown hK hw hW kd900 (by decide) rfl rfl 5 (by decide) eq40 (hT _ tb_662) (fun _ h9 => h9) dX11_read_60 ?_
    refine lv_aload_n hx hb dX11_read_63 rfl (lv_at hl 2 rfl) ?_
    have eq43 : hp37 qa900 3 = .ref qa8 := Eq.trans (up_at eh38 (Or.inr (by decide))) (hp_self eh35)
    refine p_get (ci := 11) (v := .ref qa8) (C := RX11) (T := TX11) (N := 17) hx hb hT iw_X11 hown hK hw hW kd900 (by decide) rfl rfl 3 (by decide) eq43 (hT _ tb_660) (fun _ h9 => h9) dX11_read_64 ?_
    refine kq_v hw hS hA (va_runV (As := [.ref qa8]) (rest := []) ⟨hx, hb, hml, hown, hT⟩ (cX7_begin_0 l G cy ev K ln Ls hW _ hp37 ok39 qa41 qa8 kd42 kd9) (cwV 1 hT (good_V tb_474 tb_471 tb_472 tb_473 tb_115) rfl rfl rfl (by decide +kernel) ⟨Nat.le_of_ble_eq_true rfl, Nat.le_of_ble_eq_true rfl⟩) (pool_preV (ci := 7) hK hE hS hA hw hW kd42 (by decide) rfl) rfl rfl hl.1 rfl (lv_room (Nat.le_of_ble_eq_true rfl)) dX11_read_67 ⟨Nat.le_of_ble_eq_true rfl, Nat.le_of_ble_eq_true rfl⟩) (fun hp44 H locs hq47 hw hS => ?_)
    obtain ⟨ok45, F46⟩ := hq47
    have hw : PW G cy K ln Ls A hp44 H := hw
    refine lv_aload_n hx hb dX11_read_70 rfl (lv_at hl 2 rfl) ?_
    refine lv_iconst (v := 0) hx hb dX11_read_71 (by decide) ?_
    refine p_put (ci := 11) (v := .int 0) (ty := .int) (C := RX11) (T := TX11) (N := 17) hx hb hT iw_X11 tyX11 tyX11_ok nmX11 hown hK hw hS hW kd900 (by decide) rfl rfl 8 (by decide) (hT _ tb_665) (fun _ h9 => h9) rfl (by decide +kernel) rfl rfl dX11_read_72 (fun hp49 eh50 H locs hw hS => ?_)
    have ok51 := wr_12008 bc_0 (by decide) (by decide) ok45 kd900 eh50
    refine lv_aload_n hx hb dX11_read_75 rfl (lv_at hl 2 rfl) ?_
    obtain ⟨qa53, eq52, kd54⟩ := rd_12016 ok51 kd900
    refine p_get (ci := 11) (v := .ref qa53) (C := RX11) (T := TX11) (N := 17) hx hb hT iw_X11 hown hK hw hW kd900 (by decide) rfl rfl 16 (by decide) eq52 (hT _ tb_673) (fun _ h9 => h9) dX11_read_76 ?_
    refine kq_v hw hS hA (va_runV (As := []) (rest := []) ⟨hx, hb, hml, hown, hT⟩ (cX1_clear_0 l G cy ev K ln Ls hW _ hp49 ok51 qa53 kd54) (cwV 0 hT (good_V tb_973 tb_970 tb_971 tb_972 tb_121) rfl rfl rfl (by decide +kernel) ⟨Nat.le_of_ble_eq_true rfl, Nat.le_of_ble_eq_true rfl⟩) (pool_preV (ci := 1) hK hE hS hA hw hW kd54 (by decide) rfl) rfl rfl hl.1 rfl (lv_room (Nat.le_of_ble_eq_true rfl)) dX11_read_79 ⟨Nat.le_of_ble_eq_true rfl, Nat.le_of_ble_eq_true rfl⟩) (fun hp55 H locs hq58 hw hS => ?_)
    obtain ⟨ok56, F57⟩ := hq58
    have hw : PW G cy K ln Ls A hp55 H := hw
    refine lv_iconst (v := 0) hx hb dX11_read_82 (by decide) ?_
    refine lv_istore_n (lv' := [(3, .int 0), (2, .ref qa31), (1, .int zi14), (0, .ref qa900)]) hx hb dX11_read_83 rfl hl (by decide) rfl (fun ls hl => ?_)
    have lp171 : ∀ (n169 : Nat) (hp137 : Nat → Nat → Value) (zi136 : Int32) (H : Heap) (locs : List Loc) (ls : Array Slot), 3 - zi136.toInt < (n169 : Int) → Ok K hp137 → Fr [59000] K hp55 hp137 → ((0 : Int) ≤ zi136.toInt ∧ zi136.toInt ≤ 3) → lv_has ls 4 [(0, .ref qa900), (3, .int zi136)] → PW G cy K ln Ls A hp137 H → va_S A s.heap H locs → W p l e ({ frames := 25, cells := 0, slots := 0, locals := 605 } : Room) s m ([.ref qa900] : List Value).toArray below meth c H locs 0 0 Q (F0 m 84 ls []) := by
      intro n169
      induction n169 with
      | zero =>
        intro hp137 zi136 H locs ls hm172 ok139 F138 bd140 hl hw hS
        exact absurd hm172 (by have := bd140; omega)
      | succ n169 ih170 =>
        intro hp137 zi136 H locs ls hm172 ok139 F138 bd140 hl hw hS
        refine lv_iload_n hx hb dX11_read_84 rfl (lv_at hl 1 rfl) ?_
        refine lv_iconst (v := 3) hx hb dX11_read_85 (by decide) ?_
        refine lv_icmp_ge (tgt := 102) hx hb dX11_read_86 (by decide) (fun cn173 => ?_) (fun cn173 => ?_)
        · skip
          have bd187 : (3 : Int) ≤ zi136.toInt ∧ zi136.toInt ≤ 3 := r_le_y cn173 bc_3 bd140 (by decide) (by decide)
          refine lv_aload_n hx hb dX11_read_102 rfl (lv_at hl 0 rfl) ?_
          refine kq_v hw hS hA (va_runV (As := []) (rest := []) ⟨hx, hb, hml, hown, hT⟩ (cX11_forgetSearches_0 l G cy ev K ln Ls hW _ hp137 ok139 qa900 kd900) (cwV 0 hT (good_V tb_977 tb_974 tb_976 tb_26 tb_105) rfl rfl rfl (by decide +kernel) ⟨Nat.le_of_ble_eq_true rfl, Nat.le_of_ble_eq_true rfl⟩) (pool_preV (ci := 11) hK hE hS hA hw hW kd900 (by decide) rfl) rfl rfl hl.1 rfl (lv_room (Nat.le_of_ble_eq_true rfl)) dX11_read_103 ⟨Nat.le_of_ble_eq_true rfl, Nat.le_of_ble_eq_true rfl⟩) (fun hp188 H locs hq191 hw hS => ?_)
          obtain ⟨ok189, F190⟩ := hq191
          have hw : PW G cy K ln Ls A hp188 H := hw
          refine lv_iconst (v := 0) hx hb dX11_read_106 (by decide) ?_
          rw [hQ]
          exact kz_i hx hb hr hlocks hS rfl hp188 hw ⟨ok189, (Fr.tr (Fr.tr (Fr.tr (Fr.put (cq := 12008) (Fr.tr (Fr.put (cq := 12004) (Fr.put (cq := 12003) (Fr.put (cq := 12001) (Fr.put (cq := 9001) (Fr.tr (Fr.rf) F12 (by decide)) eh17 kd6 (cd_o (by decide)) (by decide)) eh26 kd900 (cd_o (by decide)) (by decide)) eh35 kd900 (cd_o (by decide)) (by decide)) eh38 kd900 (cd_o (by decide)) (by decide)) F46 (by decide)) eh50 kd900 (cd_o (by decide)) (by decide)) F57 (by decide)) F138 (by decide)) F190 (by decide))⟩ (Nat.le_of_ble_eq_true rfl) (Nat.le_of_ble_eq_true rfl) dX11_read_107
        · skip
          have bd193 : (0 : Int) ≤ zi136.toInt ∧ zi136.toInt ≤ 2 := r_lt_x (Int32.not_le.mp cn173) bd140 bc_3 (by decide) (by decide)
          refine lv_aload_n hx hb dX11_read_89 rfl (lv_at hl 0 rfl) ?_
          obtain ⟨qa195, eq194, kd196⟩ := rd_12012 ok139 kd900
          refine p_get (ci := 11) (v := .ref qa195) (C := RX11) (T := TX11) (N := 17) hx hb hT iw_X11 hown hK hw hW kd900 (by decide) rfl rfl 12 (by decide) eq194 (hT _ tb_669) (fun _ h9 => h9) dX11_read_90 ?_
          refine lv_iload_n hx hb dX11_read_93 rfl (lv_at hl 1 rfl) ?_
          refine lv_iconst (v := 0) hx hb dX11_read_94 (by decide) ?_
          refine p_zast (x := 0) hx hb hK hw hS hW kd196 (by decide) rfl (hW.len kd196 (n := 3) rfl (by decide)) (vp_b bd193 (by decide) (by decide)) dX11_read_95 (fun hp197 eh198 H locs hw hS => ?_)
          have ok199 := wr_59000 (nar_z 0) (by decide) (by decide) ok139 kd196 eh198
          obtain ⟨zi200, ea201⟩ : ∃ z : Int32, z = zi136 + 1 := ⟨_, rfl⟩
          have bd202 : (1 : Int) ≤ zi200.toInt ∧ zi200.toInt ≤ 3 := b_iadd ea201 bd193 bc_1 (by decide) (by decide) (by decide) (by decide)
          have qe203 : zi200.toInt = (zi136 : Int32).toInt + (1 : Int32).toInt := e_iadd ea201 bd193 bc_1 (by decide) (by decide)
          have qe204 : zi200.toInt = zi136.toInt + 1 := by have ha : (1 : Int32).toInt = 1 := (by decide); rw [ha] at qe203; exact qe203
          refine lv_iinc (v := zi200) (lv' := [(3, .int zi200), (0, .ref qa900)]) hx hb dX11_read_96 hl (k := 1) rfl ea201.symm (by decide) rfl (fun ls hl => ?_)
          refine lv_goto (tgt := 84) hx hb dX11_read_99 (by decide) ?_
          exact ih170 hp197 zi200 _ _ ls (by have := hm172; have := qe204; omega) ok199 (Fr.put (cq := 59000) (Fr.tr (Fr.rf) F138 (by decide)) eh198 kd196 (cd_a (by decide)) (by decide)) (b_wid2 bd202 (by decide) (by decide)) (lv_sub hl [1, 0] rfl) hw hS
    exact lp171 _ hp55 0 _ _ ls (lp_in _) ok56 (Fr.rf) (b_wid2 bc_0 (by decide) (by decide)) (lv_sub hl [3, 0] rfl) hw hS
  · skip
    refine lv_iload_n hx hb dX11_read_39 rfl (lv_at hl 0 rfl) ?_
    rw [hQ]
    exact kz_i hx hb hr hlocks hS rfl hp25 hw ⟨ok27, (Fr.put (cq := 12001) (Fr.put (cq := 9001) (Fr.tr (Fr.rf) F12 (by decide)) eh17 kd6 (cd_o (by decide)) (by decide)) eh26 kd900 (cd_o (by decide)) (by decide))⟩ (Nat.le_of_ble_eq_true rfl) (Nat.le_of_ble_eq_true rfl) dX11_read_40

set_option maxRecDepth 100000 in
set_option maxHeartbeats 4000000 in
theorem cX11_place_0 (l : Launch) (G : va_G) (cy : Nat → ClassId) (ev : Ew) (K ln : Nat → Nat) (Ls : List Nat) (hW : SW K ln Ls) (sz : Nat) (hp0 : Nat → Nat → Value) (ok0 : Ok K hp0) (qa900 : Nat) (kd900 : K qa900 = 12) : Met l yX11_place (WS yX11_place cX11_place 1 (some .int)) { frames := 0, cells := 0, slots := 0, locals := 0 } (PB2 [.ref qa900] sz G cy ev (va_pl Ls (cellOf cy K ln hp0))) (QBi (S := (Nat → Nat → Value)) (fun (r : Int32) (u : (Nat → Nat → Value)) => Ok K u ∧ Fr [] K hp0 u) G (fun u => va_pl Ls (cellOf cy K ln u)) (va_A (va_pl Ls (cellOf cy K ln hp0)) sz)) 0 0 (va_A (va_pl Ls (cellOf cy K ln hp0)) sz) := by
  refine met_of2 (y := yX11_place) (L := 1) (av := [.ref qa900]) (Qc := fun A => QBi (S := (Nat → Nat → Value)) (fun (r : Int32) (u : (Nat → Nat → Value)) => Ok K u ∧ Fr [] K hp0 u) G (fun u => va_pl Ls (cellOf cy K ln u)) A) (plainFor_of_name (by decide)) (Nat.le_of_ble_eq_true rfl) ?_
  intro p e s m below meth c hsz hx hb hr hml hown hT hlocks hin hK A hA hE hw hS ls hl
  have hw : PW G cy K ln Ls A hp0 s.heap := hw
  have hown : s.vm.findClass "LieClock" = some m.cls := hown
  have hl : lv_has ls 1 [(0, .ref qa900)] := hl
  obtain ⟨Q, hQ⟩ : ∃ Q : State → Prop, Q = MQ below (QBi (S := (Nat → Nat → Value)) (fun (r : Int32) (u : (Nat → Nat → Value)) => Ok K u ∧ Fr [] K hp0 u) G (fun u => va_pl Ls (cellOf cy K ln u)) A) ([.ref qa900] : List Value).toArray s 0 0 A := ⟨_, rfl⟩
  rw [← hQ]
  refine lv_aload_n hx hb dX11_place_0 rfl (lv_at hl 0 rfl) ?_
  obtain ⟨zi2, eq1⟩ := rd_12001 ok0 kd900
  refine p_get (ci := 11) (v := .int zi2) (C := RX11) (T := TX11) (N := 17) hx hb hT iw_X11 hown hK hw hW kd900 (by decide) rfl rfl 1 (by decide) eq1 (hT _ tb_658) (fun _ h9 => h9) dX11_place_1 ?_
  rw [hQ]
  exact kz_i hx hb hr hlocks hS rfl hp0 hw ⟨ok0, (Fr.rf)⟩ (Nat.le_of_ble_eq_true rfl) (Nat.le_of_ble_eq_true rfl) dX11_place_4

set_option maxRecDepth 100000 in
set_option maxHeartbeats 4000000 in
theorem cX11_clock_0 (l : Launch) (G : va_G) (cy : Nat → ClassId) (ev : Ew) (K ln : Nat → Nat) (Ls : List Nat) (hW : SW K ln Ls) (sz : Nat) (hp0 : Nat → Nat → Value) (ok0 : Ok K hp0) (qa900 : Nat) (kd900 : K qa900 = 12) : Met l yX11_clock (WS yX11_clock cX11_clock 1 (some .int)) { frames := 0, cells := 0, slots := 0, locals := 0 } (PB2 [.ref qa900] sz G cy ev (va_pl Ls (cellOf cy K ln hp0))) (QBi (S := (Nat → Nat → Value)) (fun (r : Int32) (u : (Nat → Nat → Value)) => Ok K u ∧ Fr [] K hp0 u) G (fun u => va_pl Ls (cellOf cy K ln u)) (va_A (va_pl Ls (cellOf cy K ln hp0)) sz)) 0 0 (va_A (va_pl Ls (cellOf cy K ln hp0)) sz) := by
  refine met_of2 (y := yX11_clock) (L := 1) (av := [.ref qa900]) (Qc := fun A => QBi (S := (Nat → Nat → Value)) (fun (r : Int32) (u : (Nat → Nat → Value)) => Ok K u ∧ Fr [] K hp0 u) G (fun u => va_pl Ls (cellOf cy K ln u)) A) (plainFor_of_name (by decide)) (Nat.le_of_ble_eq_true rfl) ?_
  intro p e s m below meth c hsz hx hb hr hml hown hT hlocks hin hK A hA hE hw hS ls hl
  have hw : PW G cy K ln Ls A hp0 s.heap := hw
  have hown : s.vm.findClass "LieClock" = some m.cls := hown
  have hl : lv_has ls 1 [(0, .ref qa900)] := hl
  obtain ⟨Q, hQ⟩ : ∃ Q : State → Prop, Q = MQ below (QBi (S := (Nat → Nat → Value)) (fun (r : Int32) (u : (Nat → Nat → Value)) => Ok K u ∧ Fr [] K hp0 u) G (fun u => va_pl Ls (cellOf cy K ln u)) A) ([.ref qa900] : List Value).toArray s 0 0 A := ⟨_, rfl⟩
  rw [← hQ]
  refine lv_aload_n hx hb dX11_clock_0 rfl (lv_at hl 0 rfl) ?_
  obtain ⟨qa2, eq1, kd3⟩ := rd_12005 ok0 kd900
  refine p_get (ci := 11) (v := .ref qa2) (C := RX11) (T := TX11) (N := 17) hx hb hT iw_X11 hown hK hw hW kd900 (by decide) rfl rfl 5 (by decide) eq1 (hT _ tb_662) (fun _ h9 => h9) dX11_clock_1 ?_
  obtain ⟨zi5, eq4⟩ := rd_8000 ok0 kd3
  refine p_getN (ci := 7) (v := .int zi5) (C := RX7) (T := TX7) (N := 13) hx hb hT iw_X7 hown hK hw hW kd3 (by decide) rfl rfl 0 (by decide) eq4 (hK.fl nw_311) (fun _ h9 => h9) dX11_clock_4 ?_
  rw [hQ]
  exact kz_i hx hb hr hlocks hS rfl hp0 hw ⟨ok0, (Fr.rf)⟩ (Nat.le_of_ble_eq_true rfl) (Nat.le_of_ble_eq_true rfl) dX11_clock_7

set_option maxRecDepth 100000 in
set_option maxHeartbeats 4000000 in
theorem cX11_fact_0 (l : Launch) (G : va_G) (cy : Nat → ClassId) (ev : Ew) (K ln : Nat → Nat) (Ls : List Nat) (hW : SW K ln Ls) (sz : Nat) (hp0 : Nat → Nat → Value) (ok0 : Ok K hp0) (qa900 : Nat) (zi901 : Int32) (zi902 : Int32) (kd900 : K qa900 = 12) : Met l yX11_fact (WS yX11_fact cX11_fact 3 (some .int)) { frames := 0, cells := 0, slots := 0, locals := 0 } (PB2 [.ref qa900, .int zi901, .int zi902] sz G cy ev (va_pl Ls (cellOf cy K ln hp0))) (QBi (S := (Nat → Nat → Value)) (fun (r : Int32) (u : (Nat → Nat → Value)) => Ok K u ∧ Fr [] K hp0 u ∧ ((-1 : Int) ≤ r.toInt ∧ r.toInt ≤ 1)) G (fun u => va_pl Ls (cellOf cy K ln u)) (va_A (va_pl Ls (cellOf cy K ln hp0)) sz)) 0 0 (va_A (va_pl Ls (cellOf cy K ln hp0)) sz) := by
  refine met_of2 (y := yX11_fact) (L := 3) (av := [.ref qa900, .int zi901, .int zi902]) (Qc := fun A => QBi (S := (Nat → Nat → Value)) (fun (r : Int32) (u : (Nat → Nat → Value)) => Ok K u ∧ Fr [] K hp0 u ∧ ((-1 : Int) ≤ r.toInt ∧ r.toInt ≤ 1)) G (fun u => va_pl Ls (cellOf cy K ln u)) A) (plainFor_of_name (by decide)) (Nat.le_of_ble_eq_true rfl) ?_
  intro p e s m below meth c hsz hx hb hr hml hown hT hlocks hin hK A hA hE hw hS ls hl
  have hw : PW G cy K ln Ls A hp0 s.heap := hw
  have hown : s.vm.findClass "LieClock" = some m.cls := hown
  have hl : lv_has ls 3 [(0, .ref qa900), (1, .int zi901), (2, .int zi902)] := hl
  obtain ⟨Q, hQ⟩ : ∃ Q : State → Prop, Q = MQ below (QBi (S := (Nat → Nat → Value)) (fun (r : Int32) (u : (Nat → Nat → Value)) => Ok K u ∧ Fr [] K hp0 u ∧ ((-1 : Int) ≤ r.toInt ∧ r.toInt ≤ 1)) G (fun u => va_pl Ls (cellOf cy K ln u)) A) ([.ref qa900, .int zi901, .int zi902] : List Value).toArray s 0 0 A := ⟨_, rfl⟩
  rw [← hQ]
  refine lv_iload_n hx hb dX11_fact_0 rfl (lv_at hl 1 rfl) ?_
  refine lv_if_lt (tgt := 15) hx hb dX11_fact_1 (by decide) (fun cn1 => ?_) (fun cn1 => ?_)
  · skip
    have bd2 : (-2147483648 : Int) ≤ zi901.toInt ∧ zi901.toInt ≤ -1 := r_lt_x cn1 (b_all zi901) bc_0 (by decide) (by decide)
    refine lv_iconst (v := (-1)) hx hb dX11_fact_15 (by decide) ?_
    rw [hQ]
    exact kz_i hx hb hr hlocks hS rfl hp0 hw ⟨ok0, (Fr.rf), (b_wid2 bc_m1 (by decide) (by decide))⟩ (Nat.le_of_ble_eq_true rfl) (Nat.le_of_ble_eq_true rfl) dX11_fact_16
  · skip
    have bd3 : (0 : Int) ≤ zi901.toInt ∧ zi901.toInt ≤ 2147483647 := r_le_y (Int32.not_lt.mp cn1) bc_0 (b_all zi901) (by decide) (by decide)
    refine lv_iload_n hx hb dX11_fact_4 rfl (lv_at hl 1 rfl) ?_
    refine lv_aload_n hx hb dX11_fact_5 rfl (lv_at hl 0 rfl) ?_
    obtain ⟨qa5, eq4, kd6⟩ := rd_12003 ok0 kd900
    refine p_get (ci := 11) (v := .ref qa5) (C := RX11) (T := TX11) (N := 17) hx hb hT iw_X11 hown hK hw hW kd900 (by decide) rfl rfl 3 (by decide) eq4 (hT _ tb_660) (fun _ h9 => h9) dX11_fact_6 ?_
    obtain ⟨zi8, eq7, bd9⟩ := rd_11000 ok0 kd6
    refine p_getN (ci := 10) (v := .int zi8) (C := RX10) (T := TX10) (N := 20) hx hb hT iw_X10 hown hK hw hW kd6 (by decide) rfl rfl 0 (by decide) eq7 (hK.fl nw_82) (fun _ h9 => h9) dX11_fact_9 ?_
    refine lv_icmp_lt (tgt := 17) hx hb dX11_fact_12 (by decide) (fun cn10 => ?_) (fun cn10 => ?_)
    · skip
      have bd11 : (0 : Int) ≤ zi901.toInt ∧ zi901.toInt ≤ 5 := r_lt_x cn10 bd3 bd9 (by decide) (by decide)
      have bd12 : (1 : Int) ≤ zi8.toInt ∧ zi8.toInt ≤ 6 := r_lt_y cn10 bd3 bd9 (by decide) (by decide)
      refine lv_iload_n hx hb dX11_fact_17 rfl (lv_at hl 2 rfl) ?_
      by_cases cn13 : zi902 = 0
      · skip
        refine lv_lookup (off := 26) (tgt := 44) hx hb dX11_fact_18 (by decide) (by rw [cn13]; decide) (by decide) ?_
        have bd15 : (0 : Int) ≤ zi902.toInt ∧ zi902.toInt ≤ 0 := r_eq_x cn13 (b_all zi902) bc_0 (by decide) (by decide)
        refine lv_aload_n hx hb dX11_fact_44 rfl (lv_at hl 0 rfl) ?_
        refine p_get (ci := 11) (v := .ref qa5) (C := RX11) (T := TX11) (N := 17) hx hb hT iw_X11 hown hK hw hW kd900 (by decide) rfl rfl 3 (by decide) eq4 (hT _ tb_660) (fun _ h9 => h9) dX11_fact_45 ?_
        obtain ⟨zi17, eq16⟩ := rd_11001 ok0 kd6
        refine p_getN (ci := 10) (v := .int zi17) (C := RX10) (T := TX10) (N := 20) hx hb hT iw_X10 hown hK hw hW kd6 (by decide) rfl rfl 1 (by decide) eq16 (hK.fl nw_85) (fun _ h9 => h9) dX11_fact_48 ?_
        refine lv_iload_n hx hb dX11_fact_51 rfl (lv_at hl 1 rfl) ?_
        refine lv_ishr hx hb dX11_fact_52 (lv_topi (fun zi18 ea19 => ?_))
        refine lv_iconst (v := 1) hx hb dX11_fact_53 (by decide) ?_
        refine lv_iand hx hb dX11_fact_54 (lv_topi (fun zi20 ea21 => ?_))
        have bd22 : (0 : Int) ≤ zi20.toInt ∧ zi20.toInt ≤ 1 := b_and_r ea21 bc_1 (by decide) (by decide) (by decide)
        rw [hQ]
        exact kz_i hx hb hr hlocks hS rfl hp0 hw ⟨ok0, (Fr.rf), (b_wid2 bd22 (by decide) (by decide))⟩ (Nat.le_of_ble_eq_true rfl) (Nat.le_of_ble_eq_true rfl) dX11_fact_55
      by_cases cn14 : zi902 = 1
      · skip
        refine lv_lookup (off := 38) (tgt := 56) hx hb dX11_fact_18 (by decide) (by rw [cn14]; decide) (by decide) ?_
        have bd23 : (1 : Int) ≤ zi902.toInt ∧ zi902.toInt ≤ 1 := r_eq_x cn14 (b_all zi902) bc_1 (by decide) (by decide)
        refine lv_aload_n hx hb dX11_fact_56 rfl (lv_at hl 0 rfl) ?_
        obtain ⟨qa25, eq24, kd26⟩ := rd_12005 ok0 kd900
        refine p_get (ci := 11) (v := .ref qa25) (C := RX11) (T := TX11) (N := 17) hx hb hT iw_X11 hown hK hw hW kd900 (by decide) rfl rfl 5 (by decide) eq24 (hT _ tb_662) (fun _ h9 => h9) dX11_fact_57 ?_
        obtain ⟨zi28, eq27⟩ := rd_8003 ok0 kd26
        refine p_getN (ci := 7) (v := .int zi28) (C := RX7) (T := TX7) (N := 13) hx hb hT iw_X7 hown hK hw hW kd26 (by decide) rfl rfl 3 (by decide) eq27 (hK.fl nw_321) (fun _ h9 => h9) dX11_fact_60 ?_
        refine lv_iload_n hx hb dX11_fact_63 rfl (lv_at hl 1 rfl) ?_
        refine lv_ishr hx hb dX11_fact_64 (lv_topi (fun zi29 ea30 => ?_))
        refine lv_iconst (v := 1) hx hb dX11_fact_65 (by decide) ?_
        refine lv_iand hx hb dX11_fact_66 (lv_topi (fun zi31 ea32 => ?_))
        have bd33 : (0 : Int) ≤ zi31.toInt ∧ zi31.toInt ≤ 1 := b_and_r ea32 bc_1 (by decide) (by decide) (by decide)
        rw [hQ]
        exact kz_i hx hb hr hlocks hS rfl hp0 hw ⟨ok0, (Fr.rf), (b_wid2 bd33 (by decide) (by decide))⟩ (Nat.le_of_ble_eq_true rfl) (Nat.le_of_ble_eq_true rfl) dX11_fact_67
      have nn34 : ¬ zi902.toInt = 0 := fun e => cn13 (Int32.toInt_inj.mp (e.trans (by decide)))
      have nn35 : ¬ zi902.toInt = 1 := fun e => cn14 (Int32.toInt_inj.mp (e.trans (by decide)))
      refine lv_lookup (off := 50) (tgt := 68) hx hb dX11_fact_18 (by decide) (by simp [Op.lookupswitch.offset, List.find?, nn34, nn35, eq_comm]) (by decide) ?_
      refine lv_iconst (v := (-1)) hx hb dX11_fact_68 (by decide) ?_
      rw [hQ]
      exact kz_i hx hb hr hlocks hS rfl hp0 hw ⟨ok0, (Fr.rf), (b_wid2 bc_m1 (by decide) (by decide))⟩ (Nat.le_of_ble_eq_true rfl) (Nat.le_of_ble_eq_true rfl) dX11_fact_69
    · skip
      refine lv_iconst (v := (-1)) hx hb dX11_fact_15 (by decide) ?_
      rw [hQ]
      exact kz_i hx hb hr hlocks hS rfl hp0 hw ⟨ok0, (Fr.rf), (b_wid2 bc_m1 (by decide) (by decide))⟩ (Nat.le_of_ble_eq_true rfl) (Nat.le_of_ble_eq_true rfl) dX11_fact_16
