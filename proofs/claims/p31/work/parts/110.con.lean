set_option maxRecDepth 100000 in
set_option maxHeartbeats 4000000 in
theorem cX4_judge_0 (l : Launch) (G : va_G) (cy : Nat → ClassId) (ev : Ew) (K ln : Nat → Nat) (Ls : List Nat) (hW : SW K ln Ls) (sz : Nat) (hp0 : Nat → Nat → Value) (ok0 : Ok K hp0) (qa900 : Nat) (zi901 : Int32) (kd900 : K qa900 = 5) : Met l yX4_judge (WS yX4_judge cX4_judge 2 none) { frames := 1, cells := 0, slots := 0, locals := 40 } (PB2 [.ref qa900, .int zi901] sz G cy ev (va_pl Ls (cellOf cy K ln hp0))) (QBv (S := (Nat → Nat → Value)) (fun u : (Nat → Nat → Value) => Ok K u ∧ Fr [5003, 5004, 36000] K hp0 u) G (fun u => va_pl Ls (cellOf cy K ln u)) (va_A (va_pl Ls (cellOf cy K ln hp0)) sz)) 0 0 (va_A (va_pl Ls (cellOf cy K ln hp0)) sz) := by
  refine met_of2 (y := yX4_judge) (L := 2) (av := [.ref qa900, .int zi901]) (Qc := fun A => QBv (S := (Nat → Nat → Value)) (fun u : (Nat → Nat → Value) => Ok K u ∧ Fr [5003, 5004, 36000] K hp0 u) G (fun u => va_pl Ls (cellOf cy K ln u)) A) (plainFor_of_name (by decide)) (Nat.le_of_ble_eq_true rfl) ?_
  intro p e s m below meth c hsz hx hb hr hml hown hT hlocks hin hK A hA hE hw hS ls hl
  have hw : PW G cy K ln Ls A hp0 s.heap := hw
  have hown : s.vm.findClass "LieClock$Orders" = some m.cls := hown
  have hl : lv_has ls 2 [(0, .ref qa900), (1, .int zi901)] := hl
  obtain ⟨Q, hQ⟩ : ∃ Q : State → Prop, Q = MQ below (QBv (S := (Nat → Nat → Value)) (fun u : (Nat → Nat → Value) => Ok K u ∧ Fr [5003, 5004, 36000] K hp0 u) G (fun u => va_pl Ls (cellOf cy K ln u)) A) ([.ref qa900, .int zi901] : List Value).toArray s 0 0 A := ⟨_, rfl⟩
  rw [← hQ]
  refine lv_aload_n hx hb dX4_judge_0 rfl (lv_at hl 0 rfl) ?_
  obtain ⟨zi2, eq1, bd3⟩ := rd_5004 ok0 kd900
  refine p_get (ci := 4) (v := .int zi2) (C := RX4) (T := TX4) (N := 8) hx hb hT iw_X4 hown hK hw hW kd900 (by decide) rfl rfl 4 (by decide) eq1 (hT _ tb_561) (fun _ h9 => h9) dX4_judge_1 ?_
  refine lv_if_eq (tgt := 34) hx hb dX4_judge_4 (by decide) (fun cn4 => ?_) (fun cn4 => ?_)
  · skip
    have bd5 : (0 : Int) ≤ zi2.toInt ∧ zi2.toInt ≤ 0 := r_eq_x cn4 bd3 bc_0 (by decide) (by decide)
    refine lv_aload_n hx hb dX4_judge_34 rfl (lv_at hl 0 rfl) ?_
    refine lv_iconst (v := 1) hx hb dX4_judge_35 (by decide) ?_
    refine p_put (ci := 4) (v := .int 1) (ty := .boolean) (C := RX4) (T := TX4) (N := 8) hx hb hT iw_X4 tyX4 tyX4_ok nmX4 hown hK hw hS hW kd900 (by decide) rfl rfl 4 (by decide) (hT _ tb_561) (fun _ h9 => h9) rfl (by decide +kernel) (nz_n bc_1 (by decide) (by decide)) (nz_f bc_1 (by decide) (by decide)) dX4_judge_36 (fun hp6 eh7 H locs hw hS => ?_)
    have ok8 := wr_5004 bc_1 (by decide) (by decide) ok0 kd900 eh7
    refine lv_aload_n hx hb dX4_judge_39 rfl (lv_at hl 0 rfl) ?_
    refine lv_iload_n hx hb dX4_judge_40 rfl (lv_at hl 1 rfl) ?_
    refine p_put (ci := 4) (v := .int zi901) (ty := .int) (C := RX4) (T := TX4) (N := 8) hx hb hT iw_X4 tyX4 tyX4_ok nmX4 hown hK hw hS hW kd900 (by decide) rfl rfl 3 (by decide) (hT _ tb_559) (fun _ h9 => h9) rfl (by decide +kernel) rfl rfl dX4_judge_41 (fun hp9 eh10 H locs hw hS => ?_)
    have ok11 := wr_5003 ok8 kd900 eh10
    refine lv_aload_n hx hb dX4_judge_44 rfl (lv_at hl 0 rfl) ?_
    obtain ⟨qa13, eq12, kd14⟩ := rd_5001 ok11 kd900
    refine p_get (ci := 4) (v := .ref qa13) (C := RX4) (T := TX4) (N := 8) hx hb hT iw_X4 hown hK hw hW kd900 (by decide) rfl rfl 1 (by decide) eq12 (hT _ tb_556) (fun _ h9 => h9) dX4_judge_45 ?_
    refine lv_iconst (v := 0) hx hb dX4_judge_48 (by decide) ?_
    refine lv_aload_n hx hb dX4_judge_49 rfl (lv_at hl 0 rfl) ?_
    obtain ⟨qa16, eq15, kd17⟩ := rd_5002 ok11 kd900
    refine p_get (ci := 4) (v := .ref qa16) (C := RX4) (T := TX4) (N := 8) hx hb hT iw_X4 hown hK hw hW kd900 (by decide) rfl rfl 2 (by decide) eq15 (hT _ tb_557) (fun _ h9 => h9) dX4_judge_50 ?_
    refine lv_iconst (v := 0) hx hb dX4_judge_53 (by decide) ?_
    refine lv_bipush (v := 6) hx hb dX4_judge_54 (by decide) ?_
    refine p_copy1 (k0 := 35) (k1 := 36) (cq := 36000) hx hb (hml.trans hl.1.symm) hown (hT _ tb_1234) (hT _ tb_1054) (hT _ tb_1053) (hT _ tb_127) hK hw hS hW ok11 kd14 kd17 (by decide) (by decide) rfl rfl (hW.len kd14 (n := 6) rfl (by decide)) (hW.len kd17 (n := 6) rfl (by decide)) (fun _ h9 => h9) bc_0 bc_0 bc_6 (by decide) (by decide) (by decide) (by decide) (by decide) (Nat.le_of_ble_eq_true rfl) (Nat.le_of_ble_eq_true rfl) dX4_judge_56 rfl (fun hp18 ok20 F19 H locs hw hS => ?_)
    rw [hQ]
    exact kz_v hx hb hr hlocks hS hp18 hw ⟨ok20, (Fr.tr (Fr.put (cq := 5003) (Fr.put (cq := 5004) (Fr.rf) eh7 kd900 (cd_o (by decide)) (by decide)) eh10 kd900 (cd_o (by decide)) (by decide)) F19 (by decide))⟩ (Nat.le_of_ble_eq_true rfl) (Nat.le_of_ble_eq_true rfl) dX4_judge_59
  · skip
    have bd21 : (1 : Int) ≤ zi2.toInt ∧ zi2.toInt ≤ 1 := r_ne_lo cn4 bd3 (toi bc_0) (by decide) (by decide)
    refine lv_aload_n hx hb dX4_judge_7 rfl (lv_at hl 0 rfl) ?_
    obtain ⟨zi23, eq22, bd24⟩ := rd_5007 ok0 kd900
    refine p_get (ci := 4) (v := .int zi23) (C := RX4) (T := TX4) (N := 8) hx hb hT iw_X4 hown hK hw hW kd900 (by decide) rfl rfl 7 (by decide) eq22 (hT _ tb_565) (fun _ h9 => h9) dX4_judge_8 ?_
    refine lv_if_eq (tgt := 25) hx hb dX4_judge_11 (by decide) (fun cn25 => ?_) (fun cn25 => ?_)
    · skip
      have bd26 : (0 : Int) ≤ zi23.toInt ∧ zi23.toInt ≤ 0 := r_eq_x cn25 bd24 bc_0 (by decide) (by decide)
      refine lv_iload_n hx hb dX4_judge_25 rfl (lv_at hl 1 rfl) ?_
      refine lv_aload_n hx hb dX4_judge_26 rfl (lv_at hl 0 rfl) ?_
      obtain ⟨zi28, eq27⟩ := rd_5003 ok0 kd900
      refine p_get (ci := 4) (v := .int zi28) (C := RX4) (T := TX4) (N := 8) hx hb hT iw_X4 hown hK hw hW kd900 (by decide) rfl rfl 3 (by decide) eq27 (hT _ tb_559) (fun _ h9 => h9) dX4_judge_27 ?_
      refine lv_icmp_lt (tgt := 34) hx hb dX4_judge_30 (by decide) (fun cn29 => ?_) (fun cn29 => ?_)
      · skip
        have bd30 : (-2147483648 : Int) ≤ zi901.toInt ∧ zi901.toInt ≤ 2147483646 := r_lt_x cn29 (b_all zi901) (b_all zi28) (by decide) (by decide)
        have bd31 : (-2147483647 : Int) ≤ zi28.toInt ∧ zi28.toInt ≤ 2147483647 := r_lt_y cn29 (b_all zi901) (b_all zi28) (by decide) (by decide)
        refine lv_aload_n hx hb dX4_judge_34 rfl (lv_at hl 0 rfl) ?_
        refine lv_iconst (v := 1) hx hb dX4_judge_35 (by decide) ?_
        refine p_put (ci := 4) (v := .int 1) (ty := .boolean) (C := RX4) (T := TX4) (N := 8) hx hb hT iw_X4 tyX4 tyX4_ok nmX4 hown hK hw hS hW kd900 (by decide) rfl rfl 4 (by decide) (hT _ tb_561) (fun _ h9 => h9) rfl (by decide +kernel) (nz_n bc_1 (by decide) (by decide)) (nz_f bc_1 (by decide) (by decide)) dX4_judge_36 (fun hp32 eh33 H locs hw hS => ?_)
        have ok34 := wr_5004 bc_1 (by decide) (by decide) ok0 kd900 eh33
        refine lv_aload_n hx hb dX4_judge_39 rfl (lv_at hl 0 rfl) ?_
        refine lv_iload_n hx hb dX4_judge_40 rfl (lv_at hl 1 rfl) ?_
        refine p_put (ci := 4) (v := .int zi901) (ty := .int) (C := RX4) (T := TX4) (N := 8) hx hb hT iw_X4 tyX4 tyX4_ok nmX4 hown hK hw hS hW kd900 (by decide) rfl rfl 3 (by decide) (hT _ tb_559) (fun _ h9 => h9) rfl (by decide +kernel) rfl rfl dX4_judge_41 (fun hp35 eh36 H locs hw hS => ?_)
        have ok37 := wr_5003 ok34 kd900 eh36
        refine lv_aload_n hx hb dX4_judge_44 rfl (lv_at hl 0 rfl) ?_
        obtain ⟨qa39, eq38, kd40⟩ := rd_5001 ok37 kd900
        refine p_get (ci := 4) (v := .ref qa39) (C := RX4) (T := TX4) (N := 8) hx hb hT iw_X4 hown hK hw hW kd900 (by decide) rfl rfl 1 (by decide) eq38 (hT _ tb_556) (fun _ h9 => h9) dX4_judge_45 ?_
        refine lv_iconst (v := 0) hx hb dX4_judge_48 (by decide) ?_
        refine lv_aload_n hx hb dX4_judge_49 rfl (lv_at hl 0 rfl) ?_
        obtain ⟨qa42, eq41, kd43⟩ := rd_5002 ok37 kd900
        refine p_get (ci := 4) (v := .ref qa42) (C := RX4) (T := TX4) (N := 8) hx hb hT iw_X4 hown hK hw hW kd900 (by decide) rfl rfl 2 (by decide) eq41 (hT _ tb_557) (fun _ h9 => h9) dX4_judge_50 ?_
        refine lv_iconst (v := 0) hx hb dX4_judge_53 (by decide) ?_
        refine lv_bipush (v := 6) hx hb dX4_judge_54 (by decide) ?_
        refine p_copy1 (k0 := 35) (k1 := 36) (cq := 36000) hx hb (hml.trans hl.1.symm) hown (hT _ tb_1234) (hT _ tb_1054) (hT _ tb_1053) (hT _ tb_127) hK hw hS hW ok37 kd40 kd43 (by decide) (by decide) rfl rfl (hW.len kd40 (n := 6) rfl (by decide)) (hW.len kd43 (n := 6) rfl (by decide)) (fun _ h9 => h9) bc_0 bc_0 bc_6 (by decide) (by decide) (by decide) (by decide) (by decide) (Nat.le_of_ble_eq_true rfl) (Nat.le_of_ble_eq_true rfl) dX4_judge_56 rfl (fun hp44 ok46 F45 H locs hw hS => ?_)
        rw [hQ]
        exact kz_v hx hb hr hlocks hS hp44 hw ⟨ok46, (Fr.tr (Fr.put (cq := 5003) (Fr.put (cq := 5004) (Fr.rf) eh33 kd900 (cd_o (by decide)) (by decide)) eh36 kd900 (cd_o (by decide)) (by decide)) F45 (by decide))⟩ (Nat.le_of_ble_eq_true rfl) (Nat.le_of_ble_eq_true rfl) dX4_judge_59
      · skip
        rw [hQ]
        exact kz_v hx hb hr hlocks hS hp0 hw ⟨ok0, (Fr.rf)⟩ (Nat.le_of_ble_eq_true rfl) (Nat.le_of_ble_eq_true rfl) dX4_judge_33
    · skip
      have bd47 : (1 : Int) ≤ zi23.toInt ∧ zi23.toInt ≤ 1 := r_ne_lo cn25 bd24 (toi bc_0) (by decide) (by decide)
      refine lv_iload_n hx hb dX4_judge_14 rfl (lv_at hl 1 rfl) ?_
      refine lv_aload_n hx hb dX4_judge_15 rfl (lv_at hl 0 rfl) ?_
      obtain ⟨zi49, eq48⟩ := rd_5003 ok0 kd900
      refine p_get (ci := 4) (v := .int zi49) (C := RX4) (T := TX4) (N := 8) hx hb hT iw_X4 hown hK hw hW kd900 (by decide) rfl rfl 3 (by decide) eq48 (hT _ tb_559) (fun _ h9 => h9) dX4_judge_16 ?_
      refine lv_icmp_gt (tgt := 34) hx hb dX4_judge_19 (by decide) (fun cn50 => ?_) (fun cn50 => ?_)
      · skip
        have bd51 : (-2147483648 : Int) ≤ zi49.toInt ∧ zi49.toInt ≤ 2147483646 := r_lt_x cn50 (b_all zi49) (b_all zi901) (by decide) (by decide)
        have bd52 : (-2147483647 : Int) ≤ zi901.toInt ∧ zi901.toInt ≤ 2147483647 := r_lt_y cn50 (b_all zi49) (b_all zi901) (by decide) (by decide)
        refine lv_aload_n hx hb dX4_judge_34 rfl (lv_at hl 0 rfl) ?_
        refine lv_iconst (v := 1) hx hb dX4_judge_35 (by decide) ?_
        refine p_put (ci := 4) (v := .int 1) (ty := .boolean) (C := RX4) (T := TX4) (N := 8) hx hb hT iw_X4 tyX4 tyX4_ok nmX4 hown hK hw hS hW kd900 (by decide) rfl rfl 4 (by decide) (hT _ tb_561) (fun _ h9 => h9) rfl (by decide +kernel) (nz_n bc_1 (by decide) (by decide)) (nz_f bc_1 (by decide) (by decide)) dX4_judge_36 (fun hp53 eh54 H locs hw hS => ?_)
        have ok55 := wr_5004 bc_1 (by decide) (by decide) ok0 kd900 eh54
        refine lv_aload_n hx hb dX4_judge_39 rfl (lv_at hl 0 rfl) ?_
        refine lv_iload_n hx hb dX4_judge_40 rfl (lv_at hl 1 rfl) ?_
        refine p_put (ci := 4) (v := .int zi901) (ty := .int) (C := RX4) (T := TX4) (N := 8) hx hb hT iw_X4 tyX4 tyX4_ok nmX4 hown hK hw hS hW kd900 (by decide) rfl rfl 3 (by decide) (hT _ tb_559) (fun _ h9 => h9) rfl (by decide +kernel) rfl rfl dX4_judge_41 (fun hp56 eh57 H locs hw hS => ?_)
        have ok58 := wr_5003 ok55 kd900 eh57
        refine lv_aload_n hx hb dX4_judge_44 rfl (lv_at hl 0 rfl) ?_
        obtain ⟨qa60, eq59, kd61⟩ := rd_5001 ok58 kd900
        refine p_get (ci := 4) (v := .ref qa60) (C := RX4) (T := TX4) (N := 8) hx hb hT iw_X4 hown hK hw hW kd900 (by decide) rfl rfl 1 (by decide) eq59 (hT _ tb_556) (fun _ h9 => h9) dX4_judge_45 ?_
        refine lv_iconst (v := 0) hx hb dX4_judge_48 (by decide) ?_
        refine lv_aload_n hx hb dX4_judge_49 rfl (lv_at hl 0 rfl) ?_
        obtain ⟨qa63, eq62, kd64⟩ := rd_5002 ok58 kd900
        refine p_get (ci := 4) (v := .ref qa63) (C := RX4) (T := TX4) (N := 8) hx hb hT iw_X4 hown hK hw hW kd900 (by decide) rfl rfl 2 (by decide) eq62 (hT _ tb_557) (fun _ h9 => h9) dX4_judge_50 ?_
        refine lv_iconst (v := 0) hx hb dX4_judge_53 (by decide) ?_
        refine lv_bipush (v := 6) hx hb dX4_judge_54 (by decide) ?_
        refine p_copy1 (k0 := 35) (k1 := 36) (cq := 36000) hx hb (hml.trans hl.1.symm) hown (hT _ tb_1234) (hT _ tb_1054) (hT _ tb_1053) (hT _ tb_127) hK hw hS hW ok58 kd61 kd64 (by decide) (by decide) rfl rfl (hW.len kd61 (n := 6) rfl (by decide)) (hW.len kd64 (n := 6) rfl (by decide)) (fun _ h9 => h9) bc_0 bc_0 bc_6 (by decide) (by decide) (by decide) (by decide) (by decide) (Nat.le_of_ble_eq_true rfl) (Nat.le_of_ble_eq_true rfl) dX4_judge_56 rfl (fun hp65 ok67 F66 H locs hw hS => ?_)
        rw [hQ]
        exact kz_v hx hb hr hlocks hS hp65 hw ⟨ok67, (Fr.tr (Fr.put (cq := 5003) (Fr.put (cq := 5004) (Fr.rf) eh54 kd900 (cd_o (by decide)) (by decide)) eh57 kd900 (cd_o (by decide)) (by decide)) F66 (by decide))⟩ (Nat.le_of_ble_eq_true rfl) (Nat.le_of_ble_eq_true rfl) dX4_judge_59
      · skip
        refine lv_goto (tgt := 33) hx hb dX4_judge_22 (by decide) ?_
        rw [hQ]
        exact kz_v hx hb hr hlocks hS hp0 hw ⟨ok0, (Fr.rf)⟩ (Nat.le_of_ble_eq_true rfl) (Nat.le_of_ble_eq_true rfl) dX4_judge_33

set_option maxRecDepth 100000 in
set_option maxHeartbeats 4000000 in
theorem cX4_extend_0 (l : Launch) (G : va_G) (cy : Nat → ClassId) (ev : Ew) (K ln : Nat → Nat) (Ls : List Nat) (hW : SW K ln Ls) (sz : Nat) (hp0 : Nat → Nat → Value) (ok0 : Ok K hp0) (qa900 : Nat) (qa901 : Nat) (zi902 : Int32) (zi903 : Int32) (kd900 : K qa900 = 5) (kd901 : K qa901 = 11) (bd903 : ((6 : Int) ≤ zi903.toInt ∧ zi903.toInt ≤ 6)) : Met l yX4_extend (WS yX4_extend cX4_extend 6 none) { frames := 2, cells := 0, slots := 0, locals := 61 } (PB2 [.ref qa900, .ref qa901, .int zi902, .int zi903] sz G cy ev (va_pl Ls (cellOf cy K ln hp0))) (QBv (S := (Nat → Nat → Value)) (fun u : (Nat → Nat → Value) => Ok K u ∧ Fr [5003, 5004, 36000] K hp0 u) G (fun u => va_pl Ls (cellOf cy K ln u)) (va_A (va_pl Ls (cellOf cy K ln hp0)) sz)) 0 0 (va_A (va_pl Ls (cellOf cy K ln hp0)) sz) := by
  refine met_of2 (y := yX4_extend) (L := 6) (av := [.ref qa900, .ref qa901, .int zi902, .int zi903]) (Qc := fun A => QBv (S := (Nat → Nat → Value)) (fun u : (Nat → Nat → Value) => Ok K u ∧ Fr [5003, 5004, 36000] K hp0 u) G (fun u => va_pl Ls (cellOf cy K ln u)) A) (plainFor_of_name (by decide)) (Nat.le_of_ble_eq_true rfl) ?_
  intro p e s m below meth c hsz hx hb hr hml hown hT hlocks hin hK A hA hE hw hS ls hl
  have hw : PW G cy K ln Ls A hp0 s.heap := hw
  have hown : s.vm.findClass "LieClock$Orders" = some m.cls := hown
  have hl : lv_has ls 6 [(0, .ref qa900), (1, .ref qa901), (2, .int zi902), (3, .int zi903)] := hl
  obtain ⟨Q, hQ⟩ : ∃ Q : State → Prop, Q = MQ below (QBv (S := (Nat → Nat → Value)) (fun u : (Nat → Nat → Value) => Ok K u ∧ Fr [5003, 5004, 36000] K hp0 u) G (fun u => va_pl Ls (cellOf cy K ln u)) A) ([.ref qa900, .ref qa901, .int zi902, .int zi903] : List Value).toArray s 0 0 A := ⟨_, rfl⟩
  rw [← hQ]
  refine lv_iload_n hx hb dX4_extend_0 rfl (lv_at hl 2 rfl) ?_
  refine lv_if_eq (tgt := 14) hx hb dX4_extend_1 (by decide) (fun cn1 => ?_) (fun cn1 => ?_)
  · skip
    have bd2 : (0 : Int) ≤ zi902.toInt ∧ zi902.toInt ≤ 0 := r_eq_x cn1 (b_all zi902) bc_0 (by decide) (by decide)
    refine lv_aload_n hx hb dX4_extend_14 rfl (lv_at hl 0 rfl) ?_
    refine lv_aload_n hx hb dX4_extend_15 rfl (lv_at hl 0 rfl) ?_
    obtain ⟨qa4, eq3, kd5⟩ := rd_5000 ok0 kd900
    refine p_get (ci := 4) (v := .ref qa4) (C := RX4) (T := TX4) (N := 8) hx hb hT iw_X4 hown hK hw hW kd900 (by decide) rfl rfl 0 (by decide) eq3 (hT _ tb_555) (fun _ h9 => h9) dX4_extend_16 ?_
    refine lv_iconst (v := 0) hx hb dX4_extend_19 (by decide) ?_
    refine lv_iload_n hx hb dX4_extend_20 rfl (lv_at hl 3 rfl) ?_
    refine lv_bipush (v := 6) hx hb dX4_extend_21 (by decide) ?_
    refine va_mmin hx hb (hml.trans hl.1.symm) hown (hT _ tb_1228) (hT _ tb_791) (hT _ tb_123) (hT _ tb_792) (Nat.le_of_ble_eq_true rfl) (Nat.le_of_ble_eq_true rfl) (Nat.le_of_ble_eq_true rfl) (Nat.le_of_ble_eq_true rfl) dX4_extend_23 (lv_topi (fun zi6 ea7 => ?_))
    have bd8 : (6 : Int) ≤ zi6.toInt ∧ zi6.toInt ≤ 6 := b_min ea7 bd903 bc_6 (by decide) (by decide) (by decide)
    refine va_mmax hx hb (hml.trans hl.1.symm) hown (hT _ tb_1229) (hT _ tb_788) (hT _ tb_123) (hT _ tb_789) (Nat.le_of_ble_eq_true rfl) (Nat.le_of_ble_eq_true rfl) (Nat.le_of_ble_eq_true rfl) (Nat.le_of_ble_eq_true rfl) dX4_extend_26 (lv_topi (fun zi9 ea10 => ?_))
    have bd11 : (6 : Int) ≤ zi9.toInt ∧ zi9.toInt ≤ 6 := b_max ea10 bc_0 bd8 (by decide) (by decide) (by decide)
    obtain ⟨qa13, eq12, kd14⟩ := rd_34000 ok0 kd5 ((zi9 : Int32).toNatClampNeg)
    refine p_aald (v := qa13) hx hb hK hw hW kd5 (by decide) rfl (by decide) (by decide) rfl (hW.len kd5 (n := 7) rfl (by decide)) (vp_b bd11 (by decide) (by decide)) eq12 dX4_extend_29 ?_
    obtain ⟨zi16, eq15⟩ := rd_8000 ok0 kd14
    refine p_getN (ci := 7) (v := .int zi16) (C := RX7) (T := TX7) (N := 13) hx hb hT iw_X7 hown hK hw hW kd14 (by decide) rfl rfl 0 (by decide) eq15 (hK.fl nw_309) (fun _ h9 => h9) dX4_extend_30 ?_
    refine kq_v hw hS hA (va_runV (As := [.int zi16]) (rest := []) ⟨hx, hb, hml, hown, hT⟩ (cX4_judge_0 l G cy ev K ln Ls hW _ hp0 ok0 qa900 zi16 kd900) (cwV 1 hT (good_V tb_1233 tb_1230 tb_1232 tb_40 tb_119) rfl rfl rfl (by decide +kernel) ⟨Nat.le_of_ble_eq_true rfl, Nat.le_of_ble_eq_true rfl⟩) (pool_preV (ci := 4) hK hE hS hA hw hW kd900 (by decide) rfl) rfl rfl hl.1 rfl (lv_room (Nat.le_of_ble_eq_true rfl)) dX4_extend_33 ⟨Nat.le_of_ble_eq_true rfl, Nat.le_of_ble_eq_true rfl⟩) (fun hp17 H locs hq20 hw hS => ?_)
    obtain ⟨ok18, F19⟩ := hq20
    have hw : PW G cy K ln Ls A hp17 H := hw
    rw [hQ]
    exact kz_v hx hb hr hlocks hS hp17 hw ⟨ok18, (Fr.tr (Fr.rf) F19 (by decide))⟩ (Nat.le_of_ble_eq_true rfl) (Nat.le_of_ble_eq_true rfl) dX4_extend_36
  · skip
    refine lv_iload_n hx hb dX4_extend_4 rfl (lv_at hl 3 rfl) ?_
    refine lv_if_lt (tgt := 14) hx hb dX4_extend_5 (by decide) (fun c => absurd c (d_nlt bd903 bc_0 (by decide))) (fun _ => ?_)
    refine lv_iload_n hx hb dX4_extend_8 rfl (lv_at hl 3 rfl) ?_
    refine lv_bipush (v := 6) hx hb dX4_extend_9 (by decide) ?_
    refine lv_icmp_lt (tgt := 37) hx hb dX4_extend_11 (by decide) (fun c => absurd c (d_nlt bd903 bc_6 (by decide))) (fun _ => ?_)
    refine lv_aload_n hx hb dX4_extend_14 rfl (lv_at hl 0 rfl) ?_
    refine lv_aload_n hx hb dX4_extend_15 rfl (lv_at hl 0 rfl) ?_
    obtain ⟨qa23, eq22, kd24⟩ := rd_5000 ok0 kd900
    refine p_get (ci := 4) (v := .ref qa23) (C := RX4) (T := TX4) (N := 8) hx hb hT iw_X4 hown hK hw hW kd900 (by decide) rfl rfl 0 (by decide) eq22 (hT _ tb_555) (fun _ h9 => h9) dX4_extend_16 ?_
    refine lv_iconst (v := 0) hx hb dX4_extend_19 (by decide) ?_
    refine lv_iload_n hx hb dX4_extend_20 rfl (lv_at hl 3 rfl) ?_
    refine lv_bipush (v := 6) hx hb dX4_extend_21 (by decide) ?_
    refine va_mmin hx hb (hml.trans hl.1.symm) hown (hT _ tb_1228) (hT _ tb_791) (hT _ tb_123) (hT _ tb_792) (Nat.le_of_ble_eq_true rfl) (Nat.le_of_ble_eq_true rfl) (Nat.le_of_ble_eq_true rfl) (Nat.le_of_ble_eq_true rfl) dX4_extend_23 (lv_topi (fun zi25 ea26 => ?_))
    have bd27 : (6 : Int) ≤ zi25.toInt ∧ zi25.toInt ≤ 6 := b_min ea26 bd903 bc_6 (by decide) (by decide) (by decide)
    refine va_mmax hx hb (hml.trans hl.1.symm) hown (hT _ tb_1229) (hT _ tb_788) (hT _ tb_123) (hT _ tb_789) (Nat.le_of_ble_eq_true rfl) (Nat.le_of_ble_eq_true rfl) (Nat.le_of_ble_eq_true rfl) (Nat.le_of_ble_eq_true rfl) dX4_extend_26 (lv_topi (fun zi28 ea29 => ?_))
    have bd30 : (6 : Int) ≤ zi28.toInt ∧ zi28.toInt ≤ 6 := b_max ea29 bc_0 bd27 (by decide) (by decide) (by decide)
    obtain ⟨qa32, eq31, kd33⟩ := rd_34000 ok0 kd24 ((zi28 : Int32).toNatClampNeg)
    refine p_aald (v := qa32) hx hb hK hw hW kd24 (by decide) rfl (by decide) (by decide) rfl (hW.len kd24 (n := 7) rfl (by decide)) (vp_b bd30 (by decide) (by decide)) eq31 dX4_extend_29 ?_
    obtain ⟨zi35, eq34⟩ := rd_8000 ok0 kd33
    refine p_getN (ci := 7) (v := .int zi35) (C := RX7) (T := TX7) (N := 13) hx hb hT iw_X7 hown hK hw hW kd33 (by decide) rfl rfl 0 (by decide) eq34 (hK.fl nw_309) (fun _ h9 => h9) dX4_extend_30 ?_
    refine kq_v hw hS hA (va_runV (As := [.int zi35]) (rest := []) ⟨hx, hb, hml, hown, hT⟩ (cX4_judge_0 l G cy ev K ln Ls hW _ hp0 ok0 qa900 zi35 kd900) (cwV 1 hT (good_V tb_1233 tb_1230 tb_1232 tb_40 tb_119) rfl rfl rfl (by decide +kernel) ⟨Nat.le_of_ble_eq_true rfl, Nat.le_of_ble_eq_true rfl⟩) (pool_preV (ci := 4) hK hE hS hA hw hW kd900 (by decide) rfl) rfl rfl hl.1 rfl (lv_room (Nat.le_of_ble_eq_true rfl)) dX4_extend_33 ⟨Nat.le_of_ble_eq_true rfl, Nat.le_of_ble_eq_true rfl⟩) (fun hp36 H locs hq39 hw hS => ?_)
    obtain ⟨ok37, F38⟩ := hq39
    have hw : PW G cy K ln Ls A hp36 H := hw
    rw [hQ]
    exact kz_v hx hb hr hlocks hS hp36 hw ⟨ok37, (Fr.tr (Fr.rf) F38 (by decide))⟩ (Nat.le_of_ble_eq_true rfl) (Nat.le_of_ble_eq_true rfl) dX4_extend_36

set_option maxRecDepth 100000 in
set_option maxHeartbeats 4000000 in
theorem cX4_extend_1 (l : Launch) (G : va_G) (cy : Nat → ClassId) (ev : Ew) (K ln : Nat → Nat) (Ls : List Nat) (hW : SW K ln Ls) (sz : Nat) (hp0 : Nat → Nat → Value) (ok0 : Ok K hp0) (qa900 : Nat) (qa901 : Nat) (zi902 : Int32) (zi903 : Int32) (kd900 : K qa900 = 5) (kd901 : K qa901 = 11) (bd903 : ((5 : Int) ≤ zi903.toInt ∧ zi903.toInt ≤ 5)) : Met l yX4_extend (WS yX4_extend cX4_extend 6 none) { frames := 5, cells := 0, slots := 0, locals := 124 } (PB2 [.ref qa900, .ref qa901, .int zi902, .int zi903] sz G cy ev (va_pl Ls (cellOf cy K ln hp0))) (QBv (S := (Nat → Nat → Value)) (fun u : (Nat → Nat → Value) => Ok K u ∧ Fr [3003, 3004, 5003, 5004, 8000, 8001, 8002, 8003, 8004, 8005, 8006, 8008, 27000, 35000, 36000, 40000, 41000, 42000] K hp0 u) G (fun u => va_pl Ls (cellOf cy K ln u)) (va_A (va_pl Ls (cellOf cy K ln hp0)) sz)) 0 0 (va_A (va_pl Ls (cellOf cy K ln hp0)) sz) := by
  refine met_of2 (y := yX4_extend) (L := 6) (av := [.ref qa900, .ref qa901, .int zi902, .int zi903]) (Qc := fun A => QBv (S := (Nat → Nat → Value)) (fun u : (Nat → Nat → Value) => Ok K u ∧ Fr [3003, 3004, 5003, 5004, 8000, 8001, 8002, 8003, 8004, 8005, 8006, 8008, 27000, 35000, 36000, 40000, 41000, 42000] K hp0 u) G (fun u => va_pl Ls (cellOf cy K ln u)) A) (plainFor_of_name (by decide)) (Nat.le_of_ble_eq_true rfl) ?_
  intro p e s m below meth c hsz hx hb hr hml hown hT hlocks hin hK A hA hE hw hS ls hl
  have hw : PW G cy K ln Ls A hp0 s.heap := hw
  have hown : s.vm.findClass "LieClock$Orders" = some m.cls := hown
  have hl : lv_has ls 6 [(0, .ref qa900), (1, .ref qa901), (2, .int zi902), (3, .int zi903)] := hl
  obtain ⟨Q, hQ⟩ : ∃ Q : State → Prop, Q = MQ below (QBv (S := (Nat → Nat → Value)) (fun u : (Nat → Nat → Value) => Ok K u ∧ Fr [3003, 3004, 5003, 5004, 8000, 8001, 8002, 8003, 8004, 8005, 8006, 8008, 27000, 35000, 36000, 40000, 41000, 42000] K hp0 u) G (fun u => va_pl Ls (cellOf cy K ln u)) A) ([.ref qa900, .ref qa901, .int zi902, .int zi903] : List Value).toArray s 0 0 A := ⟨_, rfl⟩
  rw [← hQ]
  refine lv_iload_n hx hb dX4_extend_0 rfl (lv_at hl 2 rfl) ?_
  refine lv_if_eq (tgt := 14) hx hb dX4_extend_1 (by decide) (fun cn1 => ?_) (fun cn1 => ?_)
  · skip
    have bd2 : (0 : Int) ≤ zi902.toInt ∧ zi902.toInt ≤ 0 := r_eq_x cn1 (b_all zi902) bc_0 (by decide) (by decide)
    refine lv_aload_n hx hb dX4_extend_14 rfl (lv_at hl 0 rfl) ?_
    refine lv_aload_n hx hb dX4_extend_15 rfl (lv_at hl 0 rfl) ?_
    obtain ⟨qa4, eq3, kd5⟩ := rd_5000 ok0 kd900
    refine p_get (ci := 4) (v := .ref qa4) (C := RX4) (T := TX4) (N := 8) hx hb hT iw_X4 hown hK hw hW kd900 (by decide) rfl rfl 0 (by decide) eq3 (hT _ tb_555) (fun _ h9 => h9) dX4_extend_16 ?_
    refine lv_iconst (v := 0) hx hb dX4_extend_19 (by decide) ?_
    refine lv_iload_n hx hb dX4_extend_20 rfl (lv_at hl 3 rfl) ?_
    refine lv_bipush (v := 6) hx hb dX4_extend_21 (by decide) ?_
    refine va_mmin hx hb (hml.trans hl.1.symm) hown (hT _ tb_1228) (hT _ tb_791) (hT _ tb_123) (hT _ tb_792) (Nat.le_of_ble_eq_true rfl) (Nat.le_of_ble_eq_true rfl) (Nat.le_of_ble_eq_true rfl) (Nat.le_of_ble_eq_true rfl) dX4_extend_23 (lv_topi (fun zi6 ea7 => ?_))
    have bd8 : (5 : Int) ≤ zi6.toInt ∧ zi6.toInt ≤ 5 := b_min ea7 bd903 bc_6 (by decide) (by decide) (by decide)
    refine va_mmax hx hb (hml.trans hl.1.symm) hown (hT _ tb_1229) (hT _ tb_788) (hT _ tb_123) (hT _ tb_789) (Nat.le_of_ble_eq_true rfl) (Nat.le_of_ble_eq_true rfl) (Nat.le_of_ble_eq_true rfl) (Nat.le_of_ble_eq_true rfl) dX4_extend_26 (lv_topi (fun zi9 ea10 => ?_))
    have bd11 : (5 : Int) ≤ zi9.toInt ∧ zi9.toInt ≤ 5 := b_max ea10 bc_0 bd8 (by decide) (by decide) (by decide)
    obtain ⟨qa13, eq12, kd14⟩ := rd_34000 ok0 kd5 ((zi9 : Int32).toNatClampNeg)
    refine p_aald (v := qa13) hx hb hK hw hW kd5 (by decide) rfl (by decide) (by decide) rfl (hW.len kd5 (n := 7) rfl (by decide)) (vp_b bd11 (by decide) (by decide)) eq12 dX4_extend_29 ?_
    obtain ⟨zi16, eq15⟩ := rd_8000 ok0 kd14
    refine p_getN (ci := 7) (v := .int zi16) (C := RX7) (T := TX7) (N := 13) hx hb hT iw_X7 hown hK hw hW kd14 (by decide) rfl rfl 0 (by decide) eq15 (hK.fl nw_309) (fun _ h9 => h9) dX4_extend_30 ?_
    refine kq_v hw hS hA (va_runV (As := [.int zi16]) (rest := []) ⟨hx, hb, hml, hown, hT⟩ (cX4_judge_0 l G cy ev K ln Ls hW _ hp0 ok0 qa900 zi16 kd900) (cwV 1 hT (good_V tb_1233 tb_1230 tb_1232 tb_40 tb_119) rfl rfl rfl (by decide +kernel) ⟨Nat.le_of_ble_eq_true rfl, Nat.le_of_ble_eq_true rfl⟩) (pool_preV (ci := 4) hK hE hS hA hw hW kd900 (by decide) rfl) rfl rfl hl.1 rfl (lv_room (Nat.le_of_ble_eq_true rfl)) dX4_extend_33 ⟨Nat.le_of_ble_eq_true rfl, Nat.le_of_ble_eq_true rfl⟩) (fun hp17 H locs hq20 hw hS => ?_)
    obtain ⟨ok18, F19⟩ := hq20
    have hw : PW G cy K ln Ls A hp17 H := hw
    rw [hQ]
    exact kz_v hx hb hr hlocks hS hp17 hw ⟨ok18, (Fr.tr (Fr.rf) F19 (by decide))⟩ (Nat.le_of_ble_eq_true rfl) (Nat.le_of_ble_eq_true rfl) dX4_extend_36
  · skip
    refine lv_iload_n hx hb dX4_extend_4 rfl (lv_at hl 3 rfl) ?_
    refine lv_if_lt (tgt := 14) hx hb dX4_extend_5 (by decide) (fun c => absurd c (d_nlt bd903 bc_0 (by decide))) (fun _ => ?_)
    refine lv_iload_n hx hb dX4_extend_8 rfl (lv_at hl 3 rfl) ?_
    refine lv_bipush (v := 6) hx hb dX4_extend_9 (by decide) ?_
    refine lv_icmp_lt (tgt := 37) hx hb dX4_extend_11 (by decide) (fun _ => ?_) (fun c => absurd (d_lt bd903 bc_6 (by decide)) c)
    refine lv_aload_n hx hb dX4_extend_37 rfl (lv_at hl 0 rfl) ?_
    obtain ⟨qa23, eq22, kd24⟩ := rd_5000 ok0 kd900
    refine p_get (ci := 4) (v := .ref qa23) (C := RX4) (T := TX4) (N := 8) hx hb hT iw_X4 hown hK hw hW kd900 (by decide) rfl rfl 0 (by decide) eq22 (hT _ tb_555) (fun _ h9 => h9) dX4_extend_38 ?_
    refine lv_iload_n hx hb dX4_extend_41 rfl (lv_at hl 3 rfl) ?_
    refine lv_iconst (v := 1) hx hb dX4_extend_42 (by decide) ?_
    refine lv_iadd hx hb dX4_extend_43 (lv_topi (fun zi25 ea26 => ?_))
    have bd27 : (6 : Int) ≤ zi25.toInt ∧ zi25.toInt ≤ 6 := b_iadd ea26 bd903 bc_1 (by decide) (by decide) (by decide) (by decide)
    have qe28 : zi25.toInt = (zi903 : Int32).toInt + (1 : Int32).toInt := e_iadd ea26 bd903 bc_1 (by decide) (by decide)
    have qe29 : zi25.toInt = zi903.toInt + 1 := by have ha : (1 : Int32).toInt = 1 := (by decide); rw [ha] at qe28; exact qe28
    obtain ⟨qa31, eq30, kd32⟩ := rd_34000 ok0 kd24 ((zi25 : Int32).toNatClampNeg)
    refine p_aald (v := qa31) hx hb hK hw hW kd24 (by decide) rfl (by decide) (by decide) rfl (hW.len kd24 (n := 7) rfl (by decide)) (vp_b bd27 (by decide) (by decide)) eq30 dX4_extend_44 ?_
    refine lv_astore (lv' := [(4, .ref qa31), (0, .ref qa900), (1, .ref qa901), (2, .int zi902), (3, .int zi903)]) hx hb dX4_extend_45 hl (by decide) rfl (fun ls hl => ?_)
    refine lv_iconst (v := 0) hx hb dX4_extend_47 (by decide) ?_
    refine lv_istore (lv' := [(5, .int 0), (4, .ref qa31), (0, .ref qa900), (1, .ref qa901), (2, .int zi902), (3, .int zi903)]) hx hb dX4_extend_48 hl (by decide) rfl (fun ls hl => ?_)
    have lp750 : ∀ (n748 : Nat) (hp542 : Nat → Nat → Value) (zi541 : Int32) (H : Heap) (locs : List Loc) (ls : Array Slot), 16 - zi541.toInt < (n748 : Int) → Ok K hp542 → Fr [3003, 3004, 5003, 5004, 8000, 8001, 8002, 8003, 8004, 8005, 8006, 8008, 27000, 35000, 36000, 40000, 41000, 42000] K hp0 hp542 → ((0 : Int) ≤ zi541.toInt ∧ zi541.toInt ≤ 16) → lv_has ls 6 [(0, .ref qa900), (1, .ref qa901), (2, .int zi902), (3, .int zi903), (4, .ref qa31), (5, .int zi541)] → PW G cy K ln Ls A hp542 H → va_S A s.heap H locs → W p l e ({ frames := 5, cells := 0, slots := 0, locals := 124 } : Room) s m ([.ref qa900, .ref qa901, .int zi902, .int zi903] : List Value).toArray below meth c H locs 0 0 Q (F0 m 50 ls []) := by
      intro n748
      induction n748 with
      | zero =>
        intro hp542 zi541 H locs ls hm751 ok544 F543 bd545 hl hw hS
        exact absurd hm751 (by have := bd545; omega)
      | succ n748 ih749 =>
        intro hp542 zi541 H locs ls hm751 ok544 F543 bd545 hl hw hS
        refine lv_iload hx hb dX4_extend_50 (lv_at hl 5 rfl) ?_
        refine lv_aload_n hx hb dX4_extend_52 rfl (lv_at hl 1 rfl) ?_
        obtain ⟨zi753, eq752, bd754⟩ := rd_11004 ok544 kd901
        refine p_getN (ci := 10) (v := .int zi753) (C := RX10) (T := TX10) (N := 20) hx hb hT iw_X10 hown hK hw hW kd901 (by decide) rfl rfl 4 (by decide) eq752 (hK.fl nw_95) (fun _ h9 => h9) dX4_extend_53 ?_
        refine lv_icmp_ge (tgt := 118) hx hb dX4_extend_56 (by decide) (fun cn755 => ?_) (fun cn755 => ?_)
        · skip
          rw [hQ]
          exact kz_v hx hb hr hlocks hS hp542 hw ⟨ok544, (Fr.tr (Fr.rf) F543 (by decide))⟩ (Nat.le_of_ble_eq_true rfl) (Nat.le_of_ble_eq_true rfl) dX4_extend_118
        · skip
          have bd756 : (0 : Int) ≤ zi541.toInt ∧ zi541.toInt ≤ 15 := r_lt_x (Int32.not_le.mp cn755) bd545 bd754 (by decide) (by decide)
          have bd757 : (1 : Int) ≤ zi753.toInt ∧ zi753.toInt ≤ 16 := r_lt_y (Int32.not_le.mp cn755) bd545 bd754 (by decide) (by decide)
          refine lv_iload_n hx hb dX4_extend_59 rfl (lv_at hl 2 rfl) ?_
          refine lv_iload hx hb dX4_extend_60 (lv_at hl 5 rfl) ?_
          refine lv_ishr hx hb dX4_extend_62 (lv_topi (fun zi758 ea759 => ?_))
          refine lv_iconst (v := 1) hx hb dX4_extend_63 (by decide) ?_
          refine lv_iand hx hb dX4_extend_64 (lv_topi (fun zi760 ea761 => ?_))
          have bd762 : (0 : Int) ≤ zi760.toInt ∧ zi760.toInt ≤ 1 := b_and_r ea761 bc_1 (by decide) (by decide) (by decide)
          have jn807 : ∀ (hp804 : Nat → Nat → Value)  (H : Heap) (locs : List Loc) (ls : Array Slot), Ok K hp804 → Fr [3003, 3004, 5003, 5004, 8000, 8001, 8002, 8003, 8004, 8005, 8006, 8008, 27000, 35000, 36000, 40000, 41000, 42000] K hp542 hp804 → lv_has ls 6 [(0, .ref qa900), (1, .ref qa901), (2, .int zi902), (3, .int zi903), (4, .ref qa31), (5, .int zi541)] → PW G cy K ln Ls A hp804 H → va_S A s.heap H locs → W p l e ({ frames := 5, cells := 0, slots := 0, locals := 124 } : Room) s m ([.ref qa900, .ref qa901, .int zi902, .int zi903] : List Value).toArray below meth c H locs 0 0 Q (F0 m 112 ls []) := by
            intro hp804 H locs ls ok806 F805 hl hw hS
            obtain ⟨zi808, ea809⟩ : ∃ z : Int32, z = zi541 + 1 := ⟨_, rfl⟩
            have bd810 : (1 : Int) ≤ zi808.toInt ∧ zi808.toInt ≤ 16 := b_iadd ea809 bd756 bc_1 (by decide) (by decide) (by decide) (by decide)
            have qe811 : zi808.toInt = (zi541 : Int32).toInt + (1 : Int32).toInt := e_iadd ea809 bd756 bc_1 (by decide) (by decide)
            have qe812 : zi808.toInt = zi541.toInt + 1 := by have ha : (1 : Int32).toInt = 1 := (by decide); rw [ha] at qe811; exact qe811
            refine lv_iinc (v := zi808) (lv' := [(5, .int zi808), (0, .ref qa900), (1, .ref qa901), (2, .int zi902), (3, .int zi903), (4, .ref qa31)]) hx hb dX4_extend_112 hl (k := 5) rfl ea809.symm (by decide) rfl (fun ls hl => ?_)
            refine lv_goto (tgt := 50) hx hb dX4_extend_115 (by decide) ?_
            exact ih749 hp804 zi808 _ _ ls (by have := hm751; have := qe812; omega) ok806 (Fr.tr (Fr.tr (Fr.rf) F543 (by decide)) F805 (by decide)) (b_wid2 bd810 (by decide) (by decide)) (lv_sub hl [1, 2, 3, 4, 5, 0] rfl) hw hS
          refine lv_if_eq (tgt := 112) hx hb dX4_extend_65 (by decide) (fun cn763 => ?_) (fun cn763 => ?_)
          · skip
            have bd813 : (0 : Int) ≤ zi760.toInt ∧ zi760.toInt ≤ 0 := r_eq_x cn763 bd762 bc_0 (by decide) (by decide)
            exact jn807 hp542 _ _ ls ok544 (Fr.rf) (lv_sub hl [0, 1, 2, 3, 4, 5] rfl) hw hS
          · skip
            have bd814 : (1 : Int) ≤ zi760.toInt ∧ zi760.toInt ≤ 1 := r_ne_lo cn763 bd762 (toi bc_0) (by decide) (by decide)
            refine lv_aload hx hb dX4_extend_68 (lv_at hl 4 rfl) ?_
            refine lv_aload_n hx hb dX4_extend_70 rfl (lv_at hl 0 rfl) ?_
            have eq815 : hp542 qa900 0 = .ref qa23 := Eq.trans (Fr.at (cq := 5000) F543 kd900 (cd_o (by decide)) (by decide)) eq22
            refine p_get (ci := 4) (v := .ref qa23) (C := RX4) (T := TX4) (N := 8) hx hb hT iw_X4 hown hK hw hW kd900 (by decide) rfl rfl 0 (by decide) eq815 (hT _ tb_555) (fun _ h9 => h9) dX4_extend_71 ?_
            refine lv_iload_n hx hb dX4_extend_74 rfl (lv_at hl 3 rfl) ?_
            obtain ⟨qa817, eq816, kd818⟩ := rd_34000 ok544 kd24 ((zi903 : Int32).toNatClampNeg)
            refine p_aald (v := qa817) hx hb hK hw hW kd24 (by decide) rfl (by decide) (by decide) rfl (hW.len kd24 (n := 7) rfl (by decide)) (vp_b bd903 (by decide) (by decide)) eq816 dX4_extend_75 ?_
            refine kq_v hw hS hA (va_runV (As := [.ref qa817]) (rest := []) ⟨hx, hb, hml, hown, hT⟩ (cX7_copyMoment_0 l G cy ev K ln Ls hW _ hp542 ok544 qa31 qa817 kd32 kd818) (cwV 1 hT (good_V tb_1051 tb_1223 tb_1049 tb_1050 tb_115) rfl rfl rfl (by decide +kernel) ⟨Nat.le_of_ble_eq_true rfl, Nat.le_of_ble_eq_true rfl⟩) (pool_preV (ci := 7) hK hE hS hA hw hW kd32 (by decide) rfl) rfl rfl hl.1 rfl (lv_room (Nat.le_of_ble_eq_true rfl)) dX4_extend_76 ⟨Nat.le_of_ble_eq_true rfl, Nat.le_of_ble_eq_true rfl⟩) (fun hp819 H locs hq822 hw hS => ?_)
            obtain ⟨ok820, F821⟩ := hq822
            have hw : PW G cy K ln Ls A hp819 H := hw
            refine lv_aload hx hb dX4_extend_79 (lv_at hl 4 rfl) ?_
            refine lv_aload_n hx hb dX4_extend_81 rfl (lv_at hl 1 rfl) ?_
            refine lv_iload hx hb dX4_extend_82 (lv_at hl 5 rfl) ?_
            refine kq_i hw hS hA (va_runV (As := [.ref qa901, .int zi541]) (rest := []) ⟨hx, hb, hml, hown, hT⟩ (cX7_utter_0 l G cy ev K ln Ls hW _ hp819 ok820 qa31 qa901 zi541 kd32 kd901 (b_wid2 bd756 (by decide) (by decide))) (cwV 2 hT (good_V tb_1059 tb_1235 tb_1057 tb_1058 tb_115) rfl rfl rfl (by decide +kernel) ⟨Nat.le_of_ble_eq_true rfl, Nat.le_of_ble_eq_true rfl⟩) (pool_preV (ci := 7) hK hE hS hA hw hW kd32 (by decide) rfl) rfl rfl hl.1 rfl (lv_room (Nat.le_of_ble_eq_true rfl)) dX4_extend_84 ⟨Nat.le_of_ble_eq_true rfl, Nat.le_of_ble_eq_true rfl⟩) (fun zi828 hp824 H locs hq827 hw hS => ?_)
            obtain ⟨ok825, F826, bd829⟩ := hq827
            have hw : PW G cy K ln Ls A hp824 H := hw
            refine lv_pop hx hb dX4_extend_87 rfl ?_
            refine lv_aload_n hx hb dX4_extend_88 rfl (lv_at hl 0 rfl) ?_
            obtain ⟨qa831, eq830, kd832⟩ := rd_5001 ok825 kd900
            refine p_get (ci := 4) (v := .ref qa831) (C := RX4) (T := TX4) (N := 8) hx hb hT iw_X4 hown hK hw hW kd900 (by decide) rfl rfl 1 (by decide) eq830 (hT _ tb_556) (fun _ h9 => h9) dX4_extend_89 ?_
            refine lv_iload_n hx hb dX4_extend_92 rfl (lv_at hl 3 rfl) ?_
            refine lv_iload hx hb dX4_extend_93 (lv_at hl 5 rfl) ?_
            refine p_iast (x := zi541) hx hb hK hw hS hW kd832 (by decide) rfl (hW.len kd832 (n := 6) rfl (by decide)) (vp_b bd903 (by decide) (by decide)) dX4_extend_95 (fun hp833 eh834 H locs hw hS => ?_)
            have ok835 := wr_35000 ok825 kd832 eh834
            refine lv_aload_n hx hb dX4_extend_96 rfl (lv_at hl 0 rfl) ?_
            refine lv_aload_n hx hb dX4_extend_97 rfl (lv_at hl 1 rfl) ?_
            refine lv_iload_n hx hb dX4_extend_98 rfl (lv_at hl 2 rfl) ?_
            refine lv_iconst (v := 1) hx hb dX4_extend_99 (by decide) ?_
            refine lv_iload hx hb dX4_extend_100 (lv_at hl 5 rfl) ?_
            refine lv_ishl hx hb dX4_extend_102 (lv_topi (fun zi836 ea837 => ?_))
            have bd838 : (1 : Int) ≤ zi836.toInt ∧ zi836.toInt ≤ 32768 := b_shl1 15 ea837 bd756 (by decide) (by decide) (by decide) (by decide) (by decide)
            refine lv_iconst (v := (-1)) hx hb dX4_extend_103 (by decide) ?_
            refine lv_ixor hx hb dX4_extend_104 (lv_topi (fun zi839 ea840 => ?_))
            refine lv_iand hx hb dX4_extend_105 (lv_topi (fun zi841 ea842 => ?_))
            refine lv_iload_n hx hb dX4_extend_106 rfl (lv_at hl 3 rfl) ?_
            refine lv_iconst (v := 1) hx hb dX4_extend_107 (by decide) ?_
            refine lv_iadd hx hb dX4_extend_108 (lv_topi (fun zi843 ea844 => ?_))
            have bd845 : (6 : Int) ≤ zi843.toInt ∧ zi843.toInt ≤ 6 := b_iadd ea844 bd903 bc_1 (by decide) (by decide) (by decide) (by decide)
            have qe846 : zi843.toInt = (zi903 : Int32).toInt + (1 : Int32).toInt := e_iadd ea844 bd903 bc_1 (by decide) (by decide)
            have qe847 : zi843.toInt = zi903.toInt + 1 := by have ha : (1 : Int32).toInt = 1 := (by decide); rw [ha] at qe846; exact qe846
            refine kq_v hw hS hA (va_runV (As := [.ref qa901, .int zi841, .int zi843]) (rest := []) ⟨hx, hb, hml, hown, hT⟩ (cX4_extend_0 l G cy ev K ln Ls hW _ hp833 ok835 qa900 qa901 zi841 zi843 kd900 kd901 (b_wid2 bd845 (by decide) (by decide))) (cwV 3 hT (good_V tb_1227 tb_1224 tb_1226 tb_39 tb_119) rfl rfl rfl (by decide +kernel) ⟨Nat.le_of_ble_eq_true rfl, Nat.le_of_ble_eq_true rfl⟩) (pool_preV (ci := 4) hK hE hS hA hw hW kd900 (by decide) rfl) rfl rfl hl.1 rfl (lv_room (Nat.le_of_ble_eq_true rfl)) dX4_extend_109 ⟨Nat.le_of_ble_eq_true rfl, Nat.le_of_ble_eq_true rfl⟩) (fun hp848 H locs hq851 hw hS => ?_)
            obtain ⟨ok849, F850⟩ := hq851
            have hw : PW G cy K ln Ls A hp848 H := hw
            exact jn807 hp848 _ _ ls ok849 (Fr.tr (Fr.put (cq := 35000) (Fr.tr (Fr.tr (Fr.rf) F821 (by decide)) F826 (by decide)) eh834 kd832 (cd_a (by decide)) (by decide)) F850 (by decide)) (lv_sub hl [0, 1, 2, 3, 4, 5] rfl) hw hS
    exact lp750 _ hp0 0 _ _ ls (lp_in _) ok0 (Fr.rf) (b_wid2 bc_0 (by decide) (by decide)) (lv_sub hl [2, 3, 4, 5, 1, 0] rfl) hw hS

set_option maxRecDepth 100000 in
set_option maxHeartbeats 4000000 in
theorem cX4_extend_2 (l : Launch) (G : va_G) (cy : Nat → ClassId) (ev : Ew) (K ln : Nat → Nat) (Ls : List Nat) (hW : SW K ln Ls) (sz : Nat) (hp0 : Nat → Nat → Value) (ok0 : Ok K hp0) (qa900 : Nat) (qa901 : Nat) (zi902 : Int32) (zi903 : Int32) (kd900 : K qa900 = 5) (kd901 : K qa901 = 11) (bd903 : ((4 : Int) ≤ zi903.toInt ∧ zi903.toInt ≤ 4)) : Met l yX4_extend (WS yX4_extend cX4_extend 6 none) { frames := 6, cells := 0, slots := 0, locals := 149 } (PB2 [.ref qa900, .ref qa901, .int zi902, .int zi903] sz G cy ev (va_pl Ls (cellOf cy K ln hp0))) (QBv (S := (Nat → Nat → Value)) (fun u : (Nat → Nat → Value) => Ok K u ∧ Fr [3003, 3004, 5003, 5004, 8000, 8001, 8002, 8003, 8004, 8005, 8006, 8008, 27000, 35000, 36000, 40000, 41000, 42000] K hp0 u) G (fun u => va_pl Ls (cellOf cy K ln u)) (va_A (va_pl Ls (cellOf cy K ln hp0)) sz)) 0 0 (va_A (va_pl Ls (cellOf cy K ln hp0)) sz) := by
  refine met_of2 (y := yX4_extend) (L := 6) (av := [.ref qa900, .ref qa901, .int zi902, .int zi903]) (Qc := fun A => QBv (S := (Nat → Nat → Value)) (fun u : (Nat → Nat → Value) => Ok K u ∧ Fr [3003, 3004, 5003, 5004, 8000, 8001, 8002, 8003, 8004, 8005, 8006, 8008, 27000, 35000, 36000, 40000, 41000, 42000] K hp0 u) G (fun u => va_pl Ls (cellOf cy K ln u)) A) (plainFor_of_name (by decide)) (Nat.le_of_ble_eq_true rfl) ?_
  intro p e s m below meth c hsz hx hb hr hml hown hT hlocks hin hK A hA hE hw hS ls hl
  have hw : PW G cy K ln Ls A hp0 s.heap := hw
  have hown : s.vm.findClass "LieClock$Orders" = some m.cls := hown
  have hl : lv_has ls 6 [(0, .ref qa900), (1, .ref qa901), (2, .int zi902), (3, .int zi903)] := hl
  obtain ⟨Q, hQ⟩ : ∃ Q : State → Prop, Q = MQ below (QBv (S := (Nat → Nat → Value)) (fun u : (Nat → Nat → Value) => Ok K u ∧ Fr [3003, 3004, 5003, 5004, 8000, 8001, 8002, 8003, 8004, 8005, 8006, 8008, 27000, 35000, 36000, 40000, 41000, 42000] K hp0 u) G (fun u => va_pl Ls (cellOf cy K ln u)) A) ([.ref qa900, .ref qa901, .int zi902, .int zi903] : List Value).toArray s 0 0 A := ⟨_, rfl⟩
  rw [← hQ]
  refine lv_iload_n hx hb dX4_extend_0 rfl (lv_at hl 2 rfl) ?_
  refine lv_if_eq (tgt := 14) hx hb dX4_extend_1 (by decide) (fun cn1 => ?_) (fun cn1 => ?_)
  · skip
    have bd2 : (0 : Int) ≤ zi902.toInt ∧ zi902.toInt ≤ 0 := r_eq_x cn1 (b_all zi902) bc_0 (by decide) (by decide)
    refine lv_aload_n hx hb dX4_extend_14 rfl (lv_at hl 0 rfl) ?_
    refine lv_aload_n hx hb dX4_extend_15 rfl (lv_at hl 0 rfl) ?_
    obtain ⟨qa4, eq3, kd5⟩ := rd_5000 ok0 kd900
    refine p_get (ci := 4) (v := .ref qa4) (C := RX4) (T := TX4) (N := 8) hx hb hT iw_X4 hown hK hw hW kd900 (by decide) rfl rfl 0 (by decide) eq3 (hT _ tb_555) (fun _ h9 => h9) dX4_extend_16 ?_
    refine lv_iconst (v := 0) hx hb dX4_extend_19 (by decide) ?_
    refine lv_iload_n hx hb dX4_extend_20 rfl (lv_at hl 3 rfl) ?_
    refine lv_bipush (v := 6) hx hb dX4_extend_21 (by decide) ?_
    refine va_mmin hx hb (hml.trans hl.1.symm) hown (hT _ tb_1228) (hT _ tb_791) (hT _ tb_123) (hT _ tb_792) (Nat.le_of_ble_eq_true rfl) (Nat.le_of_ble_eq_true rfl) (Nat.le_of_ble_eq_true rfl) (Nat.le_of_ble_eq_true rfl) dX4_extend_23 (lv_topi (fun zi6 ea7 => ?_))
    have bd8 : (4 : Int) ≤ zi6.toInt ∧ zi6.toInt ≤ 4 := b_min ea7 bd903 bc_6 (by decide) (by decide) (by decide)
    refine va_mmax hx hb (hml.trans hl.1.symm) hown (hT _ tb_1229) (hT _ tb_788) (hT _ tb_123) (hT _ tb_789) (Nat.le_of_ble_eq_true rfl) (Nat.le_of_ble_eq_true rfl) (Nat.le_of_ble_eq_true rfl) (Nat.le_of_ble_eq_true rfl) dX4_extend_26 (lv_topi (fun zi9 ea10 => ?_))
    have bd11 : (4 : Int) ≤ zi9.toInt ∧ zi9.toInt ≤ 4 := b_max ea10 bc_0 bd8 (by decide) (by decide) (by decide)
    obtain ⟨qa13, eq12, kd14⟩ := rd_34000 ok0 kd5 ((zi9 : Int32).toNatClampNeg)
    refine p_aald (v := qa13) hx hb hK hw hW kd5 (by decide) rfl (by decide) (by decide) rfl (hW.len kd5 (n := 7) rfl (by decide)) (vp_b bd11 (by decide) (by decide)) eq12 dX4_extend_29 ?_
    obtain ⟨zi16, eq15⟩ := rd_8000 ok0 kd14
    refine p_getN (ci := 7) (v := .int zi16) (C := RX7) (T := TX7) (N := 13) hx hb hT iw_X7 hown hK hw hW kd14 (by decide) rfl rfl 0 (by decide) eq15 (hK.fl nw_309) (fun _ h9 => h9) dX4_extend_30 ?_
    refine kq_v hw hS hA (va_runV (As := [.int zi16]) (rest := []) ⟨hx, hb, hml, hown, hT⟩ (cX4_judge_0 l G cy ev K ln Ls hW _ hp0 ok0 qa900 zi16 kd900) (cwV 1 hT (good_V tb_1233 tb_1230 tb_1232 tb_40 tb_119) rfl rfl rfl (by decide +kernel) ⟨Nat.le_of_ble_eq_true rfl, Nat.le_of_ble_eq_true rfl⟩) (pool_preV (ci := 4) hK hE hS hA hw hW kd900 (by decide) rfl) rfl rfl hl.1 rfl (lv_room (Nat.le_of_ble_eq_true rfl)) dX4_extend_33 ⟨Nat.le_of_ble_eq_true rfl, Nat.le_of_ble_eq_true rfl⟩) (fun hp17 H locs hq20 hw hS => ?_)
    obtain ⟨ok18, F19⟩ := hq20
    have hw : PW G cy K ln Ls A hp17 H := hw
    rw [hQ]
    exact kz_v hx hb hr hlocks hS hp17 hw ⟨ok18, (Fr.tr (Fr.rf) F19 (by decide))⟩ (Nat.le_of_ble_eq_true rfl) (Nat.le_of_ble_eq_true rfl) dX4_extend_36
  · skip
    refine lv_iload_n hx hb dX4_extend_4 rfl (lv_at hl 3 rfl) ?_
    refine lv_if_lt (tgt := 14) hx hb dX4_extend_5 (by decide) (fun c => absurd c (d_nlt bd903 bc_0 (by decide))) (fun _ => ?_)
    refine lv_iload_n hx hb dX4_extend_8 rfl (lv_at hl 3 rfl) ?_
    refine lv_bipush (v := 6) hx hb dX4_extend_9 (by decide) ?_
    refine lv_icmp_lt (tgt := 37) hx hb dX4_extend_11 (by decide) (fun _ => ?_) (fun c => absurd (d_lt bd903 bc_6 (by decide)) c)
    refine lv_aload_n hx hb dX4_extend_37 rfl (lv_at hl 0 rfl) ?_
    obtain ⟨qa23, eq22, kd24⟩ := rd_5000 ok0 kd900
    refine p_get (ci := 4) (v := .ref qa23) (C := RX4) (T := TX4) (N := 8) hx hb hT iw_X4 hown hK hw hW kd900 (by decide) rfl rfl 0 (by decide) eq22 (hT _ tb_555) (fun _ h9 => h9) dX4_extend_38 ?_
    refine lv_iload_n hx hb dX4_extend_41 rfl (lv_at hl 3 rfl) ?_
    refine lv_iconst (v := 1) hx hb dX4_extend_42 (by decide) ?_
    refine lv_iadd hx hb dX4_extend_43 (lv_topi (fun zi25 ea26 => ?_))
    have bd27 : (5 : Int) ≤ zi25.toInt ∧ zi25.toInt ≤ 5 := b_iadd ea26 bd903 bc_1 (by decide) (by decide) (by decide) (by decide)
    have qe28 : zi25.toInt = (zi903 : Int32).toInt + (1 : Int32).toInt := e_iadd ea26 bd903 bc_1 (by decide) (by decide)
    have qe29 : zi25.toInt = zi903.toInt + 1 := by have ha : (1 : Int32).toInt = 1 := (by decide); rw [ha] at qe28; exact qe28
    obtain ⟨qa31, eq30, kd32⟩ := rd_34000 ok0 kd24 ((zi25 : Int32).toNatClampNeg)
    refine p_aald (v := qa31) hx hb hK hw hW kd24 (by decide) rfl (by decide) (by decide) rfl (hW.len kd24 (n := 7) rfl (by decide)) (vp_b bd27 (by decide) (by decide)) eq30 dX4_extend_44 ?_
    refine lv_astore (lv' := [(4, .ref qa31), (0, .ref qa900), (1, .ref qa901), (2, .int zi902), (3, .int zi903)]) hx hb dX4_extend_45 hl (by decide) rfl (fun ls hl => ?_)
    refine lv_iconst (v := 0) hx hb dX4_extend_47 (by decide) ?_
    refine lv_istore (lv' := [(5, .int 0), (4, .ref qa31), (0, .ref qa900), (1, .ref qa901), (2, .int zi902), (3, .int zi903)]) hx hb dX4_extend_48 hl (by decide) rfl (fun ls hl => ?_)
    have lp750 : ∀ (n748 : Nat) (hp542 : Nat → Nat → Value) (zi541 : Int32) (H : Heap) (locs : List Loc) (ls : Array Slot), 16 - zi541.toInt < (n748 : Int) → Ok K hp542 → Fr [3003, 3004, 5003, 5004, 8000, 8001, 8002, 8003, 8004, 8005, 8006, 8008, 27000, 35000, 36000, 40000, 41000, 42000] K hp0 hp542 → ((0 : Int) ≤ zi541.toInt ∧ zi541.toInt ≤ 16) → lv_has ls 6 [(0, .ref qa900), (1, .ref qa901), (2, .int zi902), (3, .int zi903), (4, .ref qa31), (5, .int zi541)] → PW G cy K ln Ls A hp542 H → va_S A s.heap H locs → W p l e ({ frames := 6, cells := 0, slots := 0, locals := 149 } : Room) s m ([.ref qa900, .ref qa901, .int zi902, .int zi903] : List Value).toArray below meth c H locs 0 0 Q (F0 m 50 ls []) := by
      intro n748
      induction n748 with
      | zero =>
        intro hp542 zi541 H locs ls hm751 ok544 F543 bd545 hl hw hS
        exact absurd hm751 (by have := bd545; omega)
      | succ n748 ih749 =>
        intro hp542 zi541 H locs ls hm751 ok544 F543 bd545 hl hw hS
        refine lv_iload hx hb dX4_extend_50 (lv_at hl 5 rfl) ?_
        refine lv_aload_n hx hb dX4_extend_52 rfl (lv_at hl 1 rfl) ?_
        obtain ⟨zi753, eq752, bd754⟩ := rd_11004 ok544 kd901
        refine p_getN (ci := 10) (v := .int zi753) (C := RX10) (T := TX10) (N := 20) hx hb hT iw_X10 hown hK hw hW kd901 (by decide) rfl rfl 4 (by decide) eq752 (hK.fl nw_95) (fun _ h9 => h9) dX4_extend_53 ?_
        refine lv_icmp_ge (tgt := 118) hx hb dX4_extend_56 (by decide) (fun cn755 => ?_) (fun cn755 => ?_)
        · skip
          rw [hQ]
          exact kz_v hx hb hr hlocks hS hp542 hw ⟨ok544, (Fr.tr (Fr.rf) F543 (by decide))⟩ (Nat.le_of_ble_eq_true rfl) (Nat.le_of_ble_eq_true rfl) dX4_extend_118
        · skip
          have bd756 : (0 : Int) ≤ zi541.toInt ∧ zi541.toInt ≤ 15 := r_lt_x (Int32.not_le.mp cn755) bd545 bd754 (by decide) (by decide)
          have bd757 : (1 : Int) ≤ zi753.toInt ∧ zi753.toInt ≤ 16 := r_lt_y (Int32.not_le.mp cn755) bd545 bd754 (by decide) (by decide)
          refine lv_iload_n hx hb dX4_extend_59 rfl (lv_at hl 2 rfl) ?_
          refine lv_iload hx hb dX4_extend_60 (lv_at hl 5 rfl) ?_
          refine lv_ishr hx hb dX4_extend_62 (lv_topi (fun zi758 ea759 => ?_))
          refine lv_iconst (v := 1) hx hb dX4_extend_63 (by decide) ?_
          refine lv_iand hx hb dX4_extend_64 (lv_topi (fun zi760 ea761 => ?_))
          have bd762 : (0 : Int) ≤ zi760.toInt ∧ zi760.toInt ≤ 1 := b_and_r ea761 bc_1 (by decide) (by decide) (by decide)
          have jn807 : ∀ (hp804 : Nat → Nat → Value)  (H : Heap) (locs : List Loc) (ls : Array Slot), Ok K hp804 → Fr [3003, 3004, 5003, 5004, 8000, 8001, 8002, 8003, 8004, 8005, 8006, 8008, 27000, 35000, 36000, 40000, 41000, 42000] K hp542 hp804 → lv_has ls 6 [(0, .ref qa900), (1, .ref qa901), (2, .int zi902), (3, .int zi903), (4, .ref qa31), (5, .int zi541)] → PW G cy K ln Ls A hp804 H → va_S A s.heap H locs → W p l e ({ frames := 6, cells := 0, slots := 0, locals := 149 } : Room) s m ([.ref qa900, .ref qa901, .int zi902, .int zi903] : List Value).toArray below meth c H locs 0 0 Q (F0 m 112 ls []) := by
            intro hp804 H locs ls ok806 F805 hl hw hS
            obtain ⟨zi808, ea809⟩ : ∃ z : Int32, z = zi541 + 1 := ⟨_, rfl⟩
            have bd810 : (1 : Int) ≤ zi808.toInt ∧ zi808.toInt ≤ 16 := b_iadd ea809 bd756 bc_1 (by decide) (by decide) (by decide) (by decide)
            have qe811 : zi808.toInt = (zi541 : Int32).toInt + (1 : Int32).toInt := e_iadd ea809 bd756 bc_1 (by decide) (by decide)
            have qe812 : zi808.toInt = zi541.toInt + 1 := by have ha : (1 : Int32).toInt = 1 := (by decide); rw [ha] at qe811; exact qe811
            refine lv_iinc (v := zi808) (lv' := [(5, .int zi808), (0, .ref qa900), (1, .ref qa901), (2, .int zi902), (3, .int zi903), (4, .ref qa31)]) hx hb dX4_extend_112 hl (k := 5) rfl ea809.symm (by decide) rfl (fun ls hl => ?_)
            refine lv_goto (tgt := 50) hx hb dX4_extend_115 (by decide) ?_
            exact ih749 hp804 zi808 _ _ ls (by have := hm751; have := qe812; omega) ok806 (Fr.tr (Fr.tr (Fr.rf) F543 (by decide)) F805 (by decide)) (b_wid2 bd810 (by decide) (by decide)) (lv_sub hl [1, 2, 3, 4, 5, 0] rfl) hw hS
          refine lv_if_eq (tgt := 112) hx hb dX4_extend_65 (by decide) (fun cn763 => ?_) (fun cn763 => ?_)
          · skip
            have bd813 : (0 : Int) ≤ zi760.toInt ∧ zi760.toInt ≤ 0 := r_eq_x cn763 bd762 bc_0 (by decide) (by decide)
            exact jn807 hp542 _ _ ls ok544 (Fr.rf) (lv_sub hl [0, 1, 2, 3, 4, 5] rfl) hw hS
          · skip
            have bd814 : (1 : Int) ≤ zi760.toInt ∧ zi760.toInt ≤ 1 := r_ne_lo cn763 bd762 (toi bc_0) (by decide) (by decide)
            refine lv_aload hx hb dX4_extend_68 (lv_at hl 4 rfl) ?_
            refine lv_aload_n hx hb dX4_extend_70 rfl (lv_at hl 0 rfl) ?_
            have eq815 : hp542 qa900 0 = .ref qa23 := Eq.trans (Fr.at (cq := 5000) F543 kd900 (cd_o (by decide)) (by decide)) eq22
            refine p_get (ci := 4) (v := .ref qa23) (C := RX4) (T := TX4) (N := 8) hx hb hT iw_X4 hown hK hw hW kd900 (by decide) rfl rfl 0 (by decide) eq815 (hT _ tb_555) (fun _ h9 => h9) dX4_extend_71 ?_
            refine lv_iload_n hx hb dX4_extend_74 rfl (lv_at hl 3 rfl) ?_
            obtain ⟨qa817, eq816, kd818⟩ := rd_34000 ok544 kd24 ((zi903 : Int32).toNatClampNeg)
            refine p_aald (v := qa817) hx hb hK hw hW kd24 (by decide) rfl (by decide) (by decide) rfl (hW.len kd24 (n := 7) rfl (by decide)) (vp_b bd903 (by decide) (by decide)) eq816 dX4_extend_75 ?_
            refine kq_v hw hS hA (va_runV (As := [.ref qa817]) (rest := []) ⟨hx, hb, hml, hown, hT⟩ (cX7_copyMoment_0 l G cy ev K ln Ls hW _ hp542 ok544 qa31 qa817 kd32 kd818) (cwV 1 hT (good_V tb_1051 tb_1223 tb_1049 tb_1050 tb_115) rfl rfl rfl (by decide +kernel) ⟨Nat.le_of_ble_eq_true rfl, Nat.le_of_ble_eq_true rfl⟩) (pool_preV (ci := 7) hK hE hS hA hw hW kd32 (by decide) rfl) rfl rfl hl.1 rfl (lv_room (Nat.le_of_ble_eq_true rfl)) dX4_extend_76 ⟨Nat.le_of_ble_eq_true rfl, Nat.le_of_ble_eq_true rfl⟩) (fun hp819 H locs hq822 hw hS => ?_)
            obtain ⟨ok820, F821⟩ := hq822
            have hw : PW G cy K ln Ls A hp819 H := hw
            refine lv_aload hx hb dX4_extend_79 (lv_at hl 4 rfl) ?_
            refine lv_aload_n hx hb dX4_extend_81 rfl (lv_at hl 1 rfl) ?_
            refine lv_iload hx hb dX4_extend_82 (lv_at hl 5 rfl) ?_
            refine kq_i hw hS hA (va_runV (As := [.ref qa901, .int zi541]) (rest := []) ⟨hx, hb, hml, hown, hT⟩ (cX7_utter_0 l G cy ev K ln Ls hW _ hp819 ok820 qa31 qa901 zi541 kd32 kd901 (b_wid2 bd756 (by decide) (by decide))) (cwV 2 hT (good_V tb_1059 tb_1235 tb_1057 tb_1058 tb_115) rfl rfl rfl (by decide +kernel) ⟨Nat.le_of_ble_eq_true rfl, Nat.le_of_ble_eq_true rfl⟩) (pool_preV (ci := 7) hK hE hS hA hw hW kd32 (by decide) rfl) rfl rfl hl.1 rfl (lv_room (Nat.le_of_ble_eq_true rfl)) dX4_extend_84 ⟨Nat.le_of_ble_eq_true rfl, Nat.le_of_ble_eq_true rfl⟩) (fun zi828 hp824 H locs hq827 hw hS => ?_)
            obtain ⟨ok825, F826, bd829⟩ := hq827
            have hw : PW G cy K ln Ls A hp824 H := hw
            refine lv_pop hx hb dX4_extend_87 rfl ?_
            refine lv_aload_n hx hb dX4_extend_88 rfl (lv_at hl 0 rfl) ?_
            obtain ⟨qa831, eq830, kd832⟩ := rd_5001 ok825 kd900
            refine p_get (ci := 4) (v := .ref qa831) (C := RX4) (T := TX4) (N := 8) hx hb hT iw_X4 hown hK hw hW kd900 (by decide) rfl rfl 1 (by decide) eq830 (hT _ tb_556) (fun _ h9 => h9) dX4_extend_89 ?_
            refine lv_iload_n hx hb dX4_extend_92 rfl (lv_at hl 3 rfl) ?_
            refine lv_iload hx hb dX4_extend_93 (lv_at hl 5 rfl) ?_
            refine p_iast (x := zi541) hx hb hK hw hS hW kd832 (by decide) rfl (hW.len kd832 (n := 6) rfl (by decide)) (vp_b bd903 (by decide) (by decide)) dX4_extend_95 (fun hp833 eh834 H locs hw hS => ?_)
            have ok835 := wr_35000 ok825 kd832 eh834
            refine lv_aload_n hx hb dX4_extend_96 rfl (lv_at hl 0 rfl) ?_
            refine lv_aload_n hx hb dX4_extend_97 rfl (lv_at hl 1 rfl) ?_
            refine lv_iload_n hx hb dX4_extend_98 rfl (lv_at hl 2 rfl) ?_
            refine lv_iconst (v := 1) hx hb dX4_extend_99 (by decide) ?_
            refine lv_iload hx hb dX4_extend_100 (lv_at hl 5 rfl) ?_
            refine lv_ishl hx hb dX4_extend_102 (lv_topi (fun zi836 ea837 => ?_))
            have bd838 : (1 : Int) ≤ zi836.toInt ∧ zi836.toInt ≤ 32768 := b_shl1 15 ea837 bd756 (by decide) (by decide) (by decide) (by decide) (by decide)
            refine lv_iconst (v := (-1)) hx hb dX4_extend_103 (by decide) ?_
            refine lv_ixor hx hb dX4_extend_104 (lv_topi (fun zi839 ea840 => ?_))
            refine lv_iand hx hb dX4_extend_105 (lv_topi (fun zi841 ea842 => ?_))
            refine lv_iload_n hx hb dX4_extend_106 rfl (lv_at hl 3 rfl) ?_
            refine lv_iconst (v := 1) hx hb dX4_extend_107 (by decide) ?_
            refine lv_iadd hx hb dX4_extend_108 (lv_topi (fun zi843 ea844 => ?_))
            have bd845 : (5 : Int) ≤ zi843.toInt ∧ zi843.toInt ≤ 5 := b_iadd ea844 bd903 bc_1 (by decide) (by decide) (by decide) (by decide)
            have qe846 : zi843.toInt = (zi903 : Int32).toInt + (1 : Int32).toInt := e_iadd ea844 bd903 bc_1 (by decide) (by decide)
            have qe847 : zi843.toInt = zi903.toInt + 1 := by have ha : (1 : Int32).toInt = 1 := (by decide); rw [ha] at qe846; exact qe846
            refine kq_v hw hS hA (va_runV (As := [.ref qa901, .int zi841, .int zi843]) (rest := []) ⟨hx, hb, hml, hown, hT⟩ (cX4_extend_1 l G cy ev K ln Ls hW _ hp833 ok835 qa900 qa901 zi841 zi843 kd900 kd901 (b_wid2 bd845 (by decide) (by decide))) (cwV 3 hT (good_V tb_1227 tb_1224 tb_1226 tb_39 tb_119) rfl rfl rfl (by decide +kernel) ⟨Nat.le_of_ble_eq_true rfl, Nat.le_of_ble_eq_true rfl⟩) (pool_preV (ci := 4) hK hE hS hA hw hW kd900 (by decide) rfl) rfl rfl hl.1 rfl (lv_room (Nat.le_of_ble_eq_true rfl)) dX4_extend_109 ⟨Nat.le_of_ble_eq_true rfl, Nat.le_of_ble_eq_true rfl⟩) (fun hp848 H locs hq851 hw hS => ?_)
            obtain ⟨ok849, F850⟩ := hq851
            have hw : PW G cy K ln Ls A hp848 H := hw
            exact jn807 hp848 _ _ ls ok849 (Fr.tr (Fr.put (cq := 35000) (Fr.tr (Fr.tr (Fr.rf) F821 (by decide)) F826 (by decide)) eh834 kd832 (cd_a (by decide)) (by decide)) F850 (by decide)) (lv_sub hl [0, 1, 2, 3, 4, 5] rfl) hw hS
    exact lp750 _ hp0 0 _ _ ls (lp_in _) ok0 (Fr.rf) (b_wid2 bc_0 (by decide) (by decide)) (lv_sub hl [2, 3, 4, 5, 1, 0] rfl) hw hS

set_option maxRecDepth 100000 in
set_option maxHeartbeats 4000000 in
theorem cX4_extend_3 (l : Launch) (G : va_G) (cy : Nat → ClassId) (ev : Ew) (K ln : Nat → Nat) (Ls : List Nat) (hW : SW K ln Ls) (sz : Nat) (hp0 : Nat → Nat → Value) (ok0 : Ok K hp0) (qa900 : Nat) (qa901 : Nat) (zi902 : Int32) (zi903 : Int32) (kd900 : K qa900 = 5) (kd901 : K qa901 = 11) (bd903 : ((3 : Int) ≤ zi903.toInt ∧ zi903.toInt ≤ 3)) : Met l yX4_extend (WS yX4_extend cX4_extend 6 none) { frames := 7, cells := 0, slots := 0, locals := 174 } (PB2 [.ref qa900, .ref qa901, .int zi902, .int zi903] sz G cy ev (va_pl Ls (cellOf cy K ln hp0))) (QBv (S := (Nat → Nat → Value)) (fun u : (Nat → Nat → Value) => Ok K u ∧ Fr [3003, 3004, 5003, 5004, 8000, 8001, 8002, 8003, 8004, 8005, 8006, 8008, 27000, 35000, 36000, 40000, 41000, 42000] K hp0 u) G (fun u => va_pl Ls (cellOf cy K ln u)) (va_A (va_pl Ls (cellOf cy K ln hp0)) sz)) 0 0 (va_A (va_pl Ls (cellOf cy K ln hp0)) sz) := by
  refine met_of2 (y := yX4_extend) (L := 6) (av := [.ref qa900, .ref qa901, .int zi902, .int zi903]) (Qc := fun A => QBv (S := (Nat → Nat → Value)) (fun u : (Nat → Nat → Value) => Ok K u ∧ Fr [3003, 3004, 5003, 5004, 8000, 8001, 8002, 8003, 8004, 8005, 8006, 8008, 27000, 35000, 36000, 40000, 41000, 42000] K hp0 u) G (fun u => va_pl Ls (cellOf cy K ln u)) A) (plainFor_of_name (by decide)) (Nat.le_of_ble_eq_true rfl) ?_
  intro p e s m below meth c hsz hx hb hr hml hown hT hlocks hin hK A hA hE hw hS ls hl
  have hw : PW G cy K ln Ls A hp0 s.heap := hw
  have hown : s.vm.findClass "LieClock$Orders" = some m.cls := hown
  have hl : lv_has ls 6 [(0, .ref qa900), (1, .ref qa901), (2, .int zi902), (3, .int zi903)] := hl
  obtain ⟨Q, hQ⟩ : ∃ Q : State → Prop, Q = MQ below (QBv (S := (Nat → Nat → Value)) (fun u : (Nat → Nat → Value) => Ok K u ∧ Fr [3003, 3004, 5003, 5004, 8000, 8001, 8002, 8003, 8004, 8005, 8006, 8008, 27000, 35000, 36000, 40000, 41000, 42000] K hp0 u) G (fun u => va_pl Ls (cellOf cy K ln u)) A) ([.ref qa900, .ref qa901, .int zi902, .int zi903] : List Value).toArray s 0 0 A := ⟨_, rfl⟩
  rw [← hQ]
  refine lv_iload_n hx hb dX4_extend_0 rfl (lv_at hl 2 rfl) ?_
  refine lv_if_eq (tgt := 14) hx hb dX4_extend_1 (by decide) (fun cn1 => ?_) (fun cn1 => ?_)
  · skip
    have bd2 : (0 : Int) ≤ zi902.toInt ∧ zi902.toInt ≤ 0 := r_eq_x cn1 (b_all zi902) bc_0 (by decide) (by decide)
    refine lv_aload_n hx hb dX4_extend_14 rfl (lv_at hl 0 rfl) ?_
    refine lv_aload_n hx hb dX4_extend_15 rfl (lv_at hl 0 rfl) ?_
    obtain ⟨qa4, eq3, kd5⟩ := rd_5000 ok0 kd900
    refine p_get (ci := 4) (v := .ref qa4) (C := RX4) (T := TX4) (N := 8) hx hb hT iw_X4 hown hK hw hW kd900 (by decide) rfl rfl 0 (by decide) eq3 (hT _ tb_555) (fun _ h9 => h9) dX4_extend_16 ?_
    refine lv_iconst (v := 0) hx hb dX4_extend_19 (by decide) ?_
    refine lv_iload_n hx hb dX4_extend_20 rfl (lv_at hl 3 rfl) ?_
    refine lv_bipush (v := 6) hx hb dX4_extend_21 (by decide) ?_
    refine va_mmin hx hb (hml.trans hl.1.symm) hown (hT _ tb_1228) (hT _ tb_791) (hT _ tb_123) (hT _ tb_792) (Nat.le_of_ble_eq_true rfl) (Nat.le_of_ble_eq_true rfl) (Nat.le_of_ble_eq_true rfl) (Nat.le_of_ble_eq_true rfl) dX4_extend_23 (lv_topi (fun zi6 ea7 => ?_))
    have bd8 : (3 : Int) ≤ zi6.toInt ∧ zi6.toInt ≤ 3 := b_min ea7 bd903 bc_6 (by decide) (by decide) (by decide)
    refine va_mmax hx hb (hml.trans hl.1.symm) hown (hT _ tb_1229) (hT _ tb_788) (hT _ tb_123) (hT _ tb_789) (Nat.le_of_ble_eq_true rfl) (Nat.le_of_ble_eq_true rfl) (Nat.le_of_ble_eq_true rfl) (Nat.le_of_ble_eq_true rfl) dX4_extend_26 (lv_topi (fun zi9 ea10 => ?_))
    have bd11 : (3 : Int) ≤ zi9.toInt ∧ zi9.toInt ≤ 3 := b_max ea10 bc_0 bd8 (by decide) (by decide) (by decide)
    obtain ⟨qa13, eq12, kd14⟩ := rd_34000 ok0 kd5 ((zi9 : Int32).toNatClampNeg)
    refine p_aald (v := qa13) hx hb hK hw hW kd5 (by decide) rfl (by decide) (by decide) rfl (hW.len kd5 (n := 7) rfl (by decide)) (vp_b bd11 (by decide) (by decide)) eq12 dX4_extend_29 ?_
    obtain ⟨zi16, eq15⟩ := rd_8000 ok0 kd14
    refine p_getN (ci := 7) (v := .int zi16) (C := RX7) (T := TX7) (N := 13) hx hb hT iw_X7 hown hK hw hW kd14 (by decide) rfl rfl 0 (by decide) eq15 (hK.fl nw_309) (fun _ h9 => h9) dX4_extend_30 ?_
    refine kq_v hw hS hA (va_runV (As := [.int zi16]) (rest := []) ⟨hx, hb, hml, hown, hT⟩ (cX4_judge_0 l G cy ev K ln Ls hW _ hp0 ok0 qa900 zi16 kd900) (cwV 1 hT (good_V tb_1233 tb_1230 tb_1232 tb_40 tb_119) rfl rfl rfl (by decide +kernel) ⟨Nat.le_of_ble_eq_true rfl, Nat.le_of_ble_eq_true rfl⟩) (pool_preV (ci := 4) hK hE hS hA hw hW kd900 (by decide) rfl) rfl rfl hl.1 rfl (lv_room (Nat.le_of_ble_eq_true rfl)) dX4_extend_33 ⟨Nat.le_of_ble_eq_true rfl, Nat.le_of_ble_eq_true rfl⟩) (fun hp17 H locs hq20 hw hS => ?_)
    obtain ⟨ok18, F19⟩ := hq20
    have hw : PW G cy K ln Ls A hp17 H := hw
    rw [hQ]
    exact kz_v hx hb hr hlocks hS hp17 hw ⟨ok18, (Fr.tr (Fr.rf) F19 (by decide))⟩ (Nat.le_of_ble_eq_true rfl) (Nat.le_of_ble_eq_true rfl) dX4_extend_36
  · skip
    refine lv_iload_n hx hb dX4_extend_4 rfl (lv_at hl 3 rfl) ?_
    refine lv_if_lt (tgt := 14) hx hb dX4_extend_5 (by decide) (fun c => absurd c (d_nlt bd903 bc_0 (by decide))) (fun _ => ?_)
    refine lv_iload_n hx hb dX4_extend_8 rfl (lv_at hl 3 rfl) ?_
    refine lv_bipush (v := 6) hx hb dX4_extend_9 (by decide) ?_
    refine lv_icmp_lt (tgt := 37) hx hb dX4_extend_11 (by decide) (fun _ => ?_) (fun c => absurd (d_lt bd903 bc_6 (by decide)) c)
    refine lv_aload_n hx hb dX4_extend_37 rfl (lv_at hl 0 rfl) ?_
    obtain ⟨qa23, eq22, kd24⟩ := rd_5000 ok0 kd900
    refine p_get (ci := 4) (v := .ref qa23) (C := RX4) (T := TX4) (N := 8) hx hb hT iw_X4 hown hK hw hW kd900 (by decide) rfl rfl 0 (by decide) eq22 (hT _ tb_555) (fun _ h9 => h9) dX4_extend_38 ?_
    refine lv_iload_n hx hb dX4_extend_41 rfl (lv_at hl 3 rfl) ?_
    refine lv_iconst (v := 1) hx hb dX4_extend_42 (by decide) ?_
    refine lv_iadd hx hb dX4_extend_43 (lv_topi (fun zi25 ea26 => ?_))
    have bd27 : (4 : Int) ≤ zi25.toInt ∧ zi25.toInt ≤ 4 := b_iadd ea26 bd903 bc_1 (by decide) (by decide) (by decide) (by decide)
    have qe28 : zi25.toInt = (zi903 : Int32).toInt + (1 : Int32).toInt := e_iadd ea26 bd903 bc_1 (by decide) (by decide)
    have qe29 : zi25.toInt = zi903.toInt + 1 := by have ha : (1 : Int32).toInt = 1 := (by decide); rw [ha] at qe28; exact qe28
    obtain ⟨qa31, eq30, kd32⟩ := rd_34000 ok0 kd24 ((zi25 : Int32).toNatClampNeg)
    refine p_aald (v := qa31) hx hb hK hw hW kd24 (by decide) rfl (by decide) (by decide) rfl (hW.len kd24 (n := 7) rfl (by decide)) (vp_b bd27 (by decide) (by decide)) eq30 dX4_extend_44 ?_
    refine lv_astore (lv' := [(4, .ref qa31), (0, .ref qa900), (1, .ref qa901), (2, .int zi902), (3, .int zi903)]) hx hb dX4_extend_45 hl (by decide) rfl (fun ls hl => ?_)
    refine lv_iconst (v := 0) hx hb dX4_extend_47 (by decide) ?_
    refine lv_istore (lv' := [(5, .int 0), (4, .ref qa31), (0, .ref qa900), (1, .ref qa901), (2, .int zi902), (3, .int zi903)]) hx hb dX4_extend_48 hl (by decide) rfl (fun ls hl => ?_)
    have lp750 : ∀ (n748 : Nat) (hp542 : Nat → Nat → Value) (zi541 : Int32) (H : Heap) (locs : List Loc) (ls : Array Slot), 16 - zi541.toInt < (n748 : Int) → Ok K hp542 → Fr [3003, 3004, 5003, 5004, 8000, 8001, 8002, 8003, 8004, 8005, 8006, 8008, 27000, 35000, 36000, 40000, 41000, 42000] K hp0 hp542 → ((0 : Int) ≤ zi541.toInt ∧ zi541.toInt ≤ 16) → lv_has ls 6 [(0, .ref qa900), (1, .ref qa901), (2, .int zi902), (3, .int zi903), (4, .ref qa31), (5, .int zi541)] → PW G cy K ln Ls A hp542 H → va_S A s.heap H locs → W p l e ({ frames := 7, cells := 0, slots := 0, locals := 174 } : Room) s m ([.ref qa900, .ref qa901, .int zi902, .int zi903] : List Value).toArray below meth c H locs 0 0 Q (F0 m 50 ls []) := by
      intro n748
      induction n748 with
      | zero =>
        intro hp542 zi541 H locs ls hm751 ok544 F543 bd545 hl hw hS
        exact absurd hm751 (by have := bd545; omega)
      | succ n748 ih749 =>
        intro hp542 zi541 H locs ls hm751 ok544 F543 bd545 hl hw hS
        refine lv_iload hx hb dX4_extend_50 (lv_at hl 5 rfl) ?_
        refine lv_aload_n hx hb dX4_extend_52 rfl (lv_at hl 1 rfl) ?_
        obtain ⟨zi753, eq752, bd754⟩ := rd_11004 ok544 kd901
        refine p_getN (ci := 10) (v := .int zi753) (C := RX10) (T := TX10) (N := 20) hx hb hT iw_X10 hown hK hw hW kd901 (by decide) rfl rfl 4 (by decide) eq752 (hK.fl nw_95) (fun _ h9 => h9) dX4_extend_53 ?_
        refine lv_icmp_ge (tgt := 118) hx hb dX4_extend_56 (by decide) (fun cn755 => ?_) (fun cn755 => ?_)
        · skip
          rw [hQ]
          exact kz_v hx hb hr hlocks hS hp542 hw ⟨ok544, (Fr.tr (Fr.rf) F543 (by decide))⟩ (Nat.le_of_ble_eq_true rfl) (Nat.le_of_ble_eq_true rfl) dX4_extend_118
        · skip
          have bd756 : (0 : Int) ≤ zi541.toInt ∧ zi541.toInt ≤ 15 := r_lt_x (Int32.not_le.mp cn755) bd545 bd754 (by decide) (by decide)
          have bd757 : (1 : Int) ≤ zi753.toInt ∧ zi753.toInt ≤ 16 := r_lt_y (Int32.not_le.mp cn755) bd545 bd754 (by decide) (by decide)
          refine lv_iload_n hx hb dX4_extend_59 rfl (lv_at hl 2 rfl) ?_
          refine lv_iload hx hb dX4_extend_60 (lv_at hl 5 rfl) ?_
          refine lv_ishr hx hb dX4_extend_62 (lv_topi (fun zi758 ea759 => ?_))
          refine lv_iconst (v := 1) hx hb dX4_extend_63 (by decide) ?_
          refine lv_iand hx hb dX4_extend_64 (lv_topi (fun zi760 ea761 => ?_))
          have bd762 : (0 : Int) ≤ zi760.toInt ∧ zi760.toInt ≤ 1 := b_and_r ea761 bc_1 (by decide) (by decide) (by decide)
          have jn807 : ∀ (hp804 : Nat → Nat → Value)  (H : Heap) (locs : List Loc) (ls : Array Slot), Ok K hp804 → Fr [3003, 3004, 5003, 5004, 8000, 8001, 8002, 8003, 8004, 8005, 8006, 8008, 27000, 35000, 36000, 40000, 41000, 42000] K hp542 hp804 → lv_has ls 6 [(0, .ref qa900), (1, .ref qa901), (2, .int zi902), (3, .int zi903), (4, .ref qa31), (5, .int zi541)] → PW G cy K ln Ls A hp804 H → va_S A s.heap H locs → W p l e ({ frames := 7, cells := 0, slots := 0, locals := 174 } : Room) s m ([.ref qa900, .ref qa901, .int zi902, .int zi903] : List Value).toArray below meth c H locs 0 0 Q (F0 m 112 ls []) := by
            intro hp804 H locs ls ok806 F805 hl hw hS
            obtain ⟨zi808, ea809⟩ : ∃ z : Int32, z = zi541 + 1 := ⟨_, rfl⟩
            have bd810 : (1 : Int) ≤ zi808.toInt ∧ zi808.toInt ≤ 16 := b_iadd ea809 bd756 bc_1 (by decide) (by decide) (by decide) (by decide)
            have qe811 : zi808.toInt = (zi541 : Int32).toInt + (1 : Int32).toInt := e_iadd ea809 bd756 bc_1 (by decide) (by decide)
            have qe812 : zi808.toInt = zi541.toInt + 1 := by have ha : (1 : Int32).toInt = 1 := (by decide); rw [ha] at qe811; exact qe811
            refine lv_iinc (v := zi808) (lv' := [(5, .int zi808), (0, .ref qa900), (1, .ref qa901), (2, .int zi902), (3, .int zi903), (4, .ref qa31)]) hx hb dX4_extend_112 hl (k := 5) rfl ea809.symm (by decide) rfl (fun ls hl => ?_)
            refine lv_goto (tgt := 50) hx hb dX4_extend_115 (by decide) ?_
            exact ih749 hp804 zi808 _ _ ls (by have := hm751; have := qe812; omega) ok806 (Fr.tr (Fr.tr (Fr.rf) F543 (by decide)) F805 (by decide)) (b_wid2 bd810 (by decide) (by decide)) (lv_sub hl [1, 2, 3, 4, 5, 0] rfl) hw hS
          refine lv_if_eq (tgt := 112) hx hb dX4_extend_65 (by decide) (fun cn763 => ?_) (fun cn763 => ?_)
          · skip
            have bd813 : (0 : Int) ≤ zi760.toInt ∧ zi760.toInt ≤ 0 := r_eq_x cn763 bd762 bc_0 (by decide) (by decide)
            exact jn807 hp542 _ _ ls ok544 (Fr.rf) (lv_sub hl [0, 1, 2, 3, 4, 5] rfl) hw hS
          · skip
            have bd814 : (1 : Int) ≤ zi760.toInt ∧ zi760.toInt ≤ 1 := r_ne_lo cn763 bd762 (toi bc_0) (by decide) (by decide)
            refine lv_aload hx hb dX4_extend_68 (lv_at hl 4 rfl) ?_
            refine lv_aload_n hx hb dX4_extend_70 rfl (lv_at hl 0 rfl) ?_
            have eq815 : hp542 qa900 0 = .ref qa23 := Eq.trans (Fr.at (cq := 5000) F543 kd900 (cd_o (by decide)) (by decide)) eq22
            refine p_get (ci := 4) (v := .ref qa23) (C := RX4) (T := TX4) (N := 8) hx hb hT iw_X4 hown hK hw hW kd900 (by decide) rfl rfl 0 (by decide) eq815 (hT _ tb_555) (fun _ h9 => h9) dX4_extend_71 ?_
            refine lv_iload_n hx hb dX4_extend_74 rfl (lv_at hl 3 rfl) ?_
            obtain ⟨qa817, eq816, kd818⟩ := rd_34000 ok544 kd24 ((zi903 : Int32).toNatClampNeg)
            refine p_aald (v := qa817) hx hb hK hw hW kd24 (by decide) rfl (by decide) (by decide) rfl (hW.len kd24 (n := 7) rfl (by decide)) (vp_b bd903 (by decide) (by decide)) eq816 dX4_extend_75 ?_
            refine kq_v hw hS hA (va_runV (As := [.ref qa817]) (rest := []) ⟨hx, hb, hml, hown, hT⟩ (cX7_copyMoment_0 l G cy ev K ln Ls hW _ hp542 ok544 qa31 qa817 kd32 kd818) (cwV 1 hT (good_V tb_1051 tb_1223 tb_1049 tb_1050 tb_115) rfl rfl rfl (by decide +kernel) ⟨Nat.le_of_ble_eq_true rfl, Nat.le_of_ble_eq_true rfl⟩) (pool_preV (ci := 7) hK hE hS hA hw hW kd32 (by decide) rfl) rfl rfl hl.1 rfl (lv_room (Nat.le_of_ble_eq_true rfl)) dX4_extend_76 ⟨Nat.le_of_ble_eq_true rfl, Nat.le_of_ble_eq_true rfl⟩) (fun hp819 H locs hq822 hw hS => ?_)
            obtain ⟨ok820, F821⟩ := hq822
            have hw : PW G cy K ln Ls A hp819 H := hw
            refine lv_aload hx hb dX4_extend_79 (lv_at hl 4 rfl) ?_
            refine lv_aload_n hx hb dX4_extend_81 rfl (lv_at hl 1 rfl) ?_
            refine lv_iload hx hb dX4_extend_82 (lv_at hl 5 rfl) ?_
            refine kq_i hw hS hA (va_runV (As := [.ref qa901, .int zi541]) (rest := []) ⟨hx, hb, hml, hown, hT⟩ (cX7_utter_0 l G cy ev K ln Ls hW _ hp819 ok820 qa31 qa901 zi541 kd32 kd901 (b_wid2 bd756 (by decide) (by decide))) (cwV 2 hT (good_V tb_1059 tb_1235 tb_1057 tb_1058 tb_115) rfl rfl rfl (by decide +kernel) ⟨Nat.le_of_ble_eq_true rfl, Nat.le_of_ble_eq_true rfl⟩) (pool_preV (ci := 7) hK hE hS hA hw hW kd32 (by decide) rfl) rfl rfl hl.1 rfl (lv_room (Nat.le_of_ble_eq_true rfl)) dX4_extend_84 ⟨Nat.le_of_ble_eq_true rfl, Nat.le_of_ble_eq_true rfl⟩) (fun zi828 hp824 H locs hq827 hw hS => ?_)
            obtain ⟨ok825, F826, bd829⟩ := hq827
            have hw : PW G cy K ln Ls A hp824 H := hw
            refine lv_pop hx hb dX4_extend_87 rfl ?_
            refine lv_aload_n hx hb dX4_extend_88 rfl (lv_at hl 0 rfl) ?_
            obtain ⟨qa831, eq830, kd832⟩ := rd_5001 ok825 kd900
            refine p_get (ci := 4) (v := .ref qa831) (C := RX4) (T := TX4) (N := 8) hx hb hT iw_X4 hown hK hw hW kd900 (by decide) rfl rfl 1 (by decide) eq830 (hT _ tb_556) (fun _ h9 => h9) dX4_extend_89 ?_
            refine lv_iload_n hx hb dX4_extend_92 rfl (lv_at hl 3 rfl) ?_
            refine lv_iload hx hb dX4_extend_93 (lv_at hl 5 rfl) ?_
            refine p_iast (x := zi541) hx hb hK hw hS hW kd832 (by decide) rfl (hW.len kd832 (n := 6) rfl (by decide)) (vp_b bd903 (by decide) (by decide)) dX4_extend_95 (fun hp833 eh834 H locs hw hS => ?_)
            have ok835 := wr_35000 ok825 kd832 eh834
            refine lv_aload_n hx hb dX4_extend_96 rfl (lv_at hl 0 rfl) ?_
            refine lv_aload_n hx hb dX4_extend_97 rfl (lv_at hl 1 rfl) ?_
            refine lv_iload_n hx hb dX4_extend_98 rfl (lv_at hl 2 rfl) ?_
            refine lv_iconst (v := 1) hx hb dX4_extend_99 (by decide) ?_
            refine lv_iload hx hb dX4_extend_100 (lv_at hl 5 rfl) ?_
            refine lv_ishl hx hb dX4_extend_102 (lv_topi (fun zi836 ea837 => ?_))
            have bd838 : (1 : Int) ≤ zi836.toInt ∧ zi836.toInt ≤ 32768 := b_shl1 15 ea837 bd756 (by decide) (by decide) (by decide) (by decide) (by decide)
            refine lv_iconst (v := (-1)) hx hb dX4_extend_103 (by decide) ?_
            refine lv_ixor hx hb dX4_extend_104 (lv_topi (fun zi839 ea840 => ?_))
            refine lv_iand hx hb dX4_extend_105 (lv_topi (fun zi841 ea842 => ?_))
            refine lv_iload_n hx hb dX4_extend_106 rfl (lv_at hl 3 rfl) ?_
            refine lv_iconst (v := 1) hx hb dX4_extend_107 (by decide) ?_
            refine lv_iadd hx hb dX4_extend_108 (lv_topi (fun zi843 ea844 => ?_))
            have bd845 : (4 : Int) ≤ zi843.toInt ∧ zi843.toInt ≤ 4 := b_iadd ea844 bd903 bc_1 (by decide) (by decide) (by decide) (by decide)
            have qe846 : zi843.toInt = (zi903 : Int32).toInt + (1 : Int32).toInt := e_iadd ea844 bd903 bc_1 (by decide) (by decide)
            have qe847 : zi843.toInt = zi903.toInt + 1 := by have ha : (1 : Int32).toInt = 1 := (by decide); rw [ha] at qe846; exact qe846
            refine kq_v hw hS hA (va_runV (As := [.ref qa901, .int zi841, .int zi843]) (rest := []) ⟨hx, hb, hml, hown, hT⟩ (cX4_extend_2 l G cy ev K ln Ls hW _ hp833 ok835 qa900 qa901 zi841 zi843 kd900 kd901 (b_wid2 bd845 (by decide) (by decide))) (cwV 3 hT (good_V tb_1227 tb_1224 tb_1226 tb_39 tb_119) rfl rfl rfl (by decide +kernel) ⟨Nat.le_of_ble_eq_true rfl, Nat.le_of_ble_eq_true rfl⟩) (pool_preV (ci := 4) hK hE hS hA hw hW kd900 (by decide) rfl) rfl rfl hl.1 rfl (lv_room (Nat.le_of_ble_eq_true rfl)) dX4_extend_109 ⟨Nat.le_of_ble_eq_true rfl, Nat.le_of_ble_eq_true rfl⟩) (fun hp848 H locs hq851 hw hS => ?_)
            obtain ⟨ok849, F850⟩ := hq851
            have hw : PW G cy K ln Ls A hp848 H := hw
            exact jn807 hp848 _ _ ls ok849 (Fr.tr (Fr.put (cq := 35000) (Fr.tr (Fr.tr (Fr.rf) F821 (by decide)) F826 (by decide)) eh834 kd832 (cd_a (by decide)) (by decide)) F850 (by decide)) (lv_sub hl [0, 1, 2, 3, 4, 5] rfl) hw hS
    exact lp750 _ hp0 0 _ _ ls (lp_in _) ok0 (Fr.rf) (b_wid2 bc_0 (by decide) (by decide)) (lv_sub hl [2, 3, 4, 5, 1, 0] rfl) hw hS

set_option maxRecDepth 100000 in
set_option maxHeartbeats 4000000 in
theorem cX4_extend_4 (l : Launch) (G : va_G) (cy : Nat → ClassId) (ev : Ew) (K ln : Nat → Nat) (Ls : List Nat) (hW : SW K ln Ls) (sz : Nat) (hp0 : Nat → Nat → Value) (ok0 : Ok K hp0) (qa900 : Nat) (qa901 : Nat) (zi902 : Int32) (zi903 : Int32) (kd900 : K qa900 = 5) (kd901 : K qa901 = 11) (bd903 : ((2 : Int) ≤ zi903.toInt ∧ zi903.toInt ≤ 2)) : Met l yX4_extend (WS yX4_extend cX4_extend 6 none) { frames := 8, cells := 0, slots := 0, locals := 199 } (PB2 [.ref qa900, .ref qa901, .int zi902, .int zi903] sz G cy ev (va_pl Ls (cellOf cy K ln hp0))) (QBv (S := (Nat → Nat → Value)) (fun u : (Nat → Nat → Value) => Ok K u ∧ Fr [3003, 3004, 5003, 5004, 8000, 8001, 8002, 8003, 8004, 8005, 8006, 8008, 27000, 35000, 36000, 40000, 41000, 42000] K hp0 u) G (fun u => va_pl Ls (cellOf cy K ln u)) (va_A (va_pl Ls (cellOf cy K ln hp0)) sz)) 0 0 (va_A (va_pl Ls (cellOf cy K ln hp0)) sz) := by
  refine met_of2 (y := yX4_extend) (L := 6) (av := [.ref qa900, .ref qa901, .int zi902, .int zi903]) (Qc := fun A => QBv (S := (Nat → Nat → Value)) (fun u : (Nat → Nat → Value) => Ok K u ∧ Fr [3003, 3004, 5003, 5004, 8000, 8001, 8002, 8003, 8004, 8005, 8006, 8008, 27000, 35000, 36000, 40000, 41000, 42000] K hp0 u) G (fun u => va_pl Ls (cellOf cy K ln u)) A) (plainFor_of_name (by decide)) (Nat.le_of_ble_eq_true rfl) ?_
  intro p e s m below meth c hsz hx hb hr hml hown hT hlocks hin hK A hA hE hw hS ls hl
  have hw : PW G cy K ln Ls A hp0 s.heap := hw
  have hown : s.vm.findClass "LieClock$Orders" = some m.cls := hown
  have hl : lv_has ls 6 [(0, .ref qa900), (1, .ref qa901), (2, .int zi902), (3, .int zi903)] := hl
  obtain ⟨Q, hQ⟩ : ∃ Q : State → Prop, Q = MQ below (QBv (S := (Nat → Nat → Value)) (fun u : (Nat → Nat → Value) => Ok K u ∧ Fr [3003, 3004, 5003, 5004, 8000, 8001, 8002, 8003, 8004, 8005, 8006, 8008, 27000, 35000, 36000, 40000, 41000, 42000] K hp0 u) G (fun u => va_pl Ls (cellOf cy K ln u)) A) ([.ref qa900, .ref qa901, .int zi902, .int zi903] : List Value).toArray s 0 0 A := ⟨_, rfl⟩
  rw [← hQ]
  refine lv_iload_n hx hb dX4_extend_0 rfl (lv_at hl 2 rfl) ?_
  refine lv_if_eq (tgt := 14) hx hb dX4_extend_1 (by decide) (fun cn1 => ?_) (fun cn1 => ?_)
  · skip
    have bd2 : (0 : Int) ≤ zi902.toInt ∧ zi902.toInt ≤ 0 := r_eq_x cn1 (b_all zi902) bc_0 (by decide) (by decide)
    refine lv_aload_n hx hb dX4_extend_14 rfl (lv_at hl 0 rfl) ?_
    refine lv_aload_n hx hb dX4_extend_15 rfl (lv_at hl 0 rfl) ?_
    obtain ⟨qa4, eq3, kd5⟩ := rd_5000 ok0 kd900
    refine p_get (ci := 4) (v := .ref qa4) (C := RX4) (T := TX4) (N := 8) hx hb hT iw_X4 hown hK hw hW kd900 (by decide) rfl rfl 0 (by decide) eq3 (hT _ tb_555) (fun _ h9 => h9) dX4_extend_16 ?_
    refine lv_iconst (v := 0) hx hb dX4_extend_19 (by decide) ?_
    refine lv_iload_n hx hb dX4_extend_20 rfl (lv_at hl 3 rfl) ?_
    refine lv_bipush (v := 6) hx hb dX4_extend_21 (by decide) ?_
    refine va_mmin hx hb (hml.trans hl.1.symm) hown (hT _ tb_1228) (hT _ tb_791) (hT _ tb_123) (hT _ tb_792) (Nat.le_of_ble_eq_true rfl) (Nat.le_of_ble_eq_true rfl) (Nat.le_of_ble_eq_true rfl) (Nat.le_of_ble_eq_true rfl) dX4_extend_23 (lv_topi (fun zi6 ea7 => ?_))
    have bd8 : (2 : Int) ≤ zi6.toInt ∧ zi6.toInt ≤ 2 := b_min ea7 bd903 bc_6 (by decide) (by decide) (by decide)
    refine va_mmax hx hb (hml.trans hl.1.symm) hown (hT _ tb_1229) (hT _ tb_788) (hT _ tb_123) (hT _ tb_789) (Nat.le_of_ble_eq_true rfl) (Nat.le_of_ble_eq_true rfl) (Nat.le_of_ble_eq_true rfl) (Nat.le_of_ble_eq_true rfl) dX4_extend_26 (lv_topi (fun zi9 ea10 => ?_))
    have bd11 : (2 : Int) ≤ zi9.toInt ∧ zi9.toInt ≤ 2 := b_max ea10 bc_0 bd8 (by decide) (by decide) (by decide)
    obtain ⟨qa13, eq12, kd14⟩ := rd_34000 ok0 kd5 ((zi9 : Int32).toNatClampNeg)
    refine p_aald (v := qa13) hx hb hK hw hW kd5 (by decide) rfl (by decide) (by decide) rfl (hW.len kd5 (n := 7) rfl (by decide)) (vp_b bd11 (by decide) (by decide)) eq12 dX4_extend_29 ?_
    obtain ⟨zi16, eq15⟩ := rd_8000 ok0 kd14
    refine p_getN (ci := 7) (v := .int zi16) (C := RX7) (T := TX7) (N := 13) hx hb hT iw_X7 hown hK hw hW kd14 (by decide) rfl rfl 0 (by decide) eq15 (hK.fl nw_309) (fun _ h9 => h9) dX4_extend_30 ?_
    refine kq_v hw hS hA (va_runV (As := [.int zi16]) (rest := []) ⟨hx, hb, hml, hown, hT⟩ (cX4_judge_0 l G cy ev K ln Ls hW _ hp0 ok0 qa900 zi16 kd900) (cwV 1 hT (good_V tb_1233 tb_1230 tb_1232 tb_40 tb_119) rfl rfl rfl (by decide +kernel) ⟨Nat.le_of_ble_eq_true rfl, Nat.le_of_ble_eq_true rfl⟩) (pool_preV (ci := 4) hK hE hS hA hw hW kd900 (by decide) rfl) rfl rfl hl.1 rfl (lv_room (Nat.le_of_ble_eq_true rfl)) dX4_extend_33 ⟨Nat.le_of_ble_eq_true rfl, Nat.le_of_ble_eq_true rfl⟩) (fun hp17 H locs hq20 hw hS => ?_)
    obtain ⟨ok18, F19⟩ := hq20
    have hw : PW G cy K ln Ls A hp17 H := hw
    rw [hQ]
    exact kz_v hx hb hr hlocks hS hp17 hw ⟨ok18, (Fr.tr (Fr.rf) F19 (by decide))⟩ (Nat.le_of_ble_eq_true rfl) (Nat.le_of_ble_eq_true rfl) dX4_extend_36
  · skip
    refine lv_iload_n hx hb dX4_extend_4 rfl (lv_at hl 3 rfl) ?_
    refine lv_if_lt (tgt := 14) hx hb dX4_extend_5 (by decide) (fun c => absurd c (d_nlt bd903 bc_0 (by decide))) (fun _ => ?_)
    refine lv_iload_n hx hb dX4_extend_8 rfl (lv_at hl 3 rfl) ?_
    refine lv_bipush (v := 6) hx hb dX4_extend_9 (by decide) ?_
    refine lv_icmp_lt (tgt := 37) hx hb dX4_extend_11 (by decide) (fun _ => ?_) (fun c => absurd (d_lt bd903 bc_6 (by decide)) c)
    refine lv_aload_n hx hb dX4_extend_37 rfl (lv_at hl 0 rfl) ?_
    obtain ⟨qa23, eq22, kd24⟩ := rd_5000 ok0 kd900
    refine p_get (ci := 4) (v := .ref qa23) (C := RX4) (T := TX4) (N := 8) hx hb hT iw_X4 hown hK hw hW kd900 (by decide) rfl rfl 0 (by decide) eq22 (hT _ tb_555) (fun _ h9 => h9) dX4_extend_38 ?_
    refine lv_iload_n hx hb dX4_extend_41 rfl (lv_at hl 3 rfl) ?_
    refine lv_iconst (v := 1) hx hb dX4_extend_42 (by decide) ?_
    refine lv_iadd hx hb dX4_extend_43 (lv_topi (fun zi25 ea26 => ?_))
    have bd27 : (3 : Int) ≤ zi25.toInt ∧ zi25.toInt ≤ 3 := b_iadd ea26 bd903 bc_1 (by decide) (by decide) (by decide) (by decide)
    have qe28 : zi25.toInt = (zi903 : Int32).toInt + (1 : Int32).toInt := e_iadd ea26 bd903 bc_1 (by decide) (by decide)
    have qe29 : zi25.toInt = zi903.toInt + 1 := by have ha : (1 : Int32).toInt = 1 := (by decide); rw [ha] at qe28; exact qe28
    obtain ⟨qa31, eq30, kd32⟩ := rd_34000 ok0 kd24 ((zi25 : Int32).toNatClampNeg)
    refine p_aald (v := qa31) hx hb hK hw hW kd24 (by decide) rfl (by decide) (by decide) rfl (hW.len kd24 (n := 7) rfl (by decide)) (vp_b bd27 (by decide) (by decide)) eq30 dX4_extend_44 ?_
    refine lv_astore (lv' := [(4, .ref qa31), (0, .ref qa900), (1, .ref qa901), (2, .int zi902), (3, .int zi903)]) hx hb dX4_extend_45 hl (by decide) rfl (fun ls hl => ?_)
    refine lv_iconst (v := 0) hx hb dX4_extend_47 (by decide) ?_
    refine lv_istore (lv' := [(5, .int 0), (4, .ref qa31), (0, .ref qa900), (1, .ref qa901), (2, .int zi902), (3, .int zi903)]) hx hb dX4_extend_48 hl (by decide) rfl (fun ls hl => ?_)
    have lp750 : ∀ (n748 : Nat) (hp542 : Nat → Nat → Value) (zi541 : Int32) (H : Heap) (locs : List Loc) (ls : Array Slot), 16 - zi541.toInt < (n748 : Int) → Ok K hp542 → Fr [3003, 3004, 5003, 5004, 8000, 8001, 8002, 8003, 8004, 8005, 8006, 8008, 27000, 35000, 36000, 40000, 41000, 42000] K hp0 hp542 → ((0 : Int) ≤ zi541.toInt ∧ zi541.toInt ≤ 16) → lv_has ls 6 [(0, .ref qa900), (1, .ref qa901), (2, .int zi902), (3, .int zi903), (4, .ref qa31), (5, .int zi541)] → PW G cy K ln Ls A hp542 H → va_S A s.heap H locs → W p l e ({ frames := 8, cells := 0, slots := 0, locals := 199 } : Room) s m ([.ref qa900, .ref qa901, .int zi902, .int zi903] : List Value).toArray below meth c H locs 0 0 Q (F0 m 50 ls []) := by
      intro n748
      induction n748 with
      | zero =>
        intro hp542 zi541 H locs ls hm751 ok544 F543 bd545 hl hw hS
        exact absurd hm751 (by have := bd545; omega)
      | succ n748 ih749 =>
        intro hp542 zi541 H locs ls hm751 ok544 F543 bd545 hl hw hS
        refine lv_iload hx hb dX4_extend_50 (lv_at hl 5 rfl) ?_
        refine lv_aload_n hx hb dX4_extend_52 rfl (lv_at hl 1 rfl) ?_
        obtain ⟨zi753, eq752, bd754⟩ := rd_11004 ok544 kd901
        refine p_getN (ci := 10) (v := .int zi753) (C := RX10) (T := TX10) (N := 20) hx hb hT iw_X10 hown hK hw hW kd901 (by decide) rfl rfl 4 (by decide) eq752 (hK.fl nw_95) (fun _ h9 => h9) dX4_extend_53 ?_
        refine lv_icmp_ge (tgt := 118) hx hb dX4_extend_56 (by decide) (fun cn755 => ?_) (fun cn755 => ?_)
        · skip
          rw [hQ]
          exact kz_v hx hb hr hlocks hS hp542 hw ⟨ok544, (Fr.tr (Fr.rf) F543 (by decide))⟩ (Nat.le_of_ble_eq_true rfl) (Nat.le_of_ble_eq_true rfl) dX4_extend_118
        · skip
          have bd756 : (0 : Int) ≤ zi541.toInt ∧ zi541.toInt ≤ 15 := r_lt_x (Int32.not_le.mp cn755) bd545 bd754 (by decide) (by decide)
          have bd757 : (1 : Int) ≤ zi753.toInt ∧ zi753.toInt ≤ 16 := r_lt_y (Int32.not_le.mp cn755) bd545 bd754 (by decide) (by decide)
          refine lv_iload_n hx hb dX4_extend_59 rfl (lv_at hl 2 rfl) ?_
          refine lv_iload hx hb dX4_extend_60 (lv_at hl 5 rfl) ?_
          refine lv_ishr hx hb dX4_extend_62 (lv_topi (fun zi758 ea759 => ?_))
          refine lv_iconst (v := 1) hx hb dX4_extend_63 (by decide) ?_
          refine lv_iand hx hb dX4_extend_64 (lv_topi (fun zi760 ea761 => ?_))
          have bd762 : (0 : Int) ≤ zi760.toInt ∧ zi760.toInt ≤ 1 := b_and_r ea761 bc_1 (by decide) (by decide) (by decide)
          have jn807 : ∀ (hp804 : Nat → Nat → Value)  (H : Heap) (locs : List Loc) (ls : Array Slot), Ok K hp804 → Fr [3003, 3004, 5003, 5004, 8000, 8001, 8002, 8003, 8004, 8005, 8006, 8008, 27000, 35000, 36000, 40000, 41000, 42000] K hp542 hp804 → lv_has ls 6 [(0, .ref qa900), (1, .ref qa901), (2, .int zi902), (3, .int zi903), (4, .ref qa31), (5, .int zi541)] → PW G cy K ln Ls A hp804 H → va_S A s.heap H locs → W p l e ({ frames := 8, cells := 0, slots := 0, locals := 199 } : Room) s m ([.ref qa900, .ref qa901, .int zi902, .int zi903] : List Value).toArray below meth c H locs 0 0 Q (F0 m 112 ls []) := by
            intro hp804 H locs ls ok806 F805 hl hw hS
            obtain ⟨zi808, ea809⟩ : ∃ z : Int32, z = zi541 + 1 := ⟨_, rfl⟩
            have bd810 : (1 : Int) ≤ zi808.toInt ∧ zi808.toInt ≤ 16 := b_iadd ea809 bd756 bc_1 (by decide) (by decide) (by decide) (by decide)
            have qe811 : zi808.toInt = (zi541 : Int32).toInt + (1 : Int32).toInt := e_iadd ea809 bd756 bc_1 (by decide) (by decide)
            have qe812 : zi808.toInt = zi541.toInt + 1 := by have ha : (1 : Int32).toInt = 1 := (by decide); rw [ha] at qe811; exact qe811
            refine lv_iinc (v := zi808) (lv' := [(5, .int zi808), (0, .ref qa900), (1, .ref qa901), (2, .int zi902), (3, .int zi903), (4, .ref qa31)]) hx hb dX4_extend_112 hl (k := 5) rfl ea809.symm (by decide) rfl (fun ls hl => ?_)
            refine lv_goto (tgt := 50) hx hb dX4_extend_115 (by decide) ?_
            exact ih749 hp804 zi808 _ _ ls (by have := hm751; have := qe812; omega) ok806 (Fr.tr (Fr.tr (Fr.rf) F543 (by decide)) F805 (by decide)) (b_wid2 bd810 (by decide) (by decide)) (lv_sub hl [1, 2, 3, 4, 5, 0] rfl) hw hS
          refine lv_if_eq (tgt := 112) hx hb dX4_extend_65 (by decide) (fun cn763 => ?_) (fun cn763 => ?_)
          · skip
            have bd813 : (0 : Int) ≤ zi760.toInt ∧ zi760.toInt ≤ 0 := r_eq_x cn763 bd762 bc_0 (by decide) (by decide)
            exact jn807 hp542 _ _ ls ok544 (Fr.rf) (lv_sub hl [0, 1, 2, 3, 4, 5] rfl) hw hS
          · skip
            have bd814 : (1 : Int) ≤ zi760.toInt ∧ zi760.toInt ≤ 1 := r_ne_lo cn763 bd762 (toi bc_0) (by decide) (by decide)
            refine lv_aload hx hb dX4_extend_68 (lv_at hl 4 rfl) ?_
            refine lv_aload_n hx hb dX4_extend_70 rfl (lv_at hl 0 rfl) ?_
            have eq815 : hp542 qa900 0 = .ref qa23 := Eq.trans (Fr.at (cq := 5000) F543 kd900 (cd_o (by decide)) (by decide)) eq22
            refine p_get (ci := 4) (v := .ref qa23) (C := RX4) (T := TX4) (N := 8) hx hb hT iw_X4 hown hK hw hW kd900 (by decide) rfl rfl 0 (by decide) eq815 (hT _ tb_555) (fun _ h9 => h9) dX4_extend_71 ?_
            refine lv_iload_n hx hb dX4_extend_74 rfl (lv_at hl 3 rfl) ?_
            obtain ⟨qa817, eq816, kd818⟩ := rd_34000 ok544 kd24 ((zi903 : Int32).toNatClampNeg)
            refine p_aald (v := qa817) hx hb hK hw hW kd24 (by decide) rfl (by decide) (by decide) rfl (hW.len kd24 (n := 7) rfl (by decide)) (vp_b bd903 (by decide) (by decide)) eq816 dX4_extend_75 ?_
            refine kq_v hw hS hA (va_runV (As := [.ref qa817]) (rest := []) ⟨hx, hb, hml, hown, hT⟩ (cX7_copyMoment_0 l G cy ev K ln Ls hW _ hp542 ok544 qa31 qa817 kd32 kd818) (cwV 1 hT (good_V tb_1051 tb_1223 tb_1049 tb_1050 tb_115) rfl rfl rfl (by decide +kernel) ⟨Nat.le_of_ble_eq_true rfl, Nat.le_of_ble_eq_true rfl⟩) (pool_preV (ci := 7) hK hE hS hA hw hW kd32 (by decide) rfl) rfl rfl hl.1 rfl (lv_room (Nat.le_of_ble_eq_true rfl)) dX4_extend_76 ⟨Nat.le_of_ble_eq_true rfl, Nat.le_of_ble_eq_true rfl⟩) (fun hp819 H locs hq822 hw hS => ?_)
            obtain ⟨ok820, F821⟩ := hq822
            have hw : PW G cy K ln Ls A hp819 H := hw
            refine lv_aload hx hb dX4_extend_79 (lv_at hl 4 rfl) ?_
            refine lv_aload_n hx hb dX4_extend_81 rfl (lv_at hl 1 rfl) ?_
            refine lv_iload hx hb dX4_extend_82 (lv_at hl 5 rfl) ?_
            refine kq_i hw hS hA (va_runV (As := [.ref qa901, .int zi541]) (rest := []) ⟨hx, hb, hml, hown, hT⟩ (cX7_utter_0 l G cy ev K ln Ls hW _ hp819 ok820 qa31 qa901 zi541 kd32 kd901 (b_wid2 bd756 (by decide) (by decide))) (cwV 2 hT (good_V tb_1059 tb_1235 tb_1057 tb_1058 tb_115) rfl rfl rfl (by decide +kernel) ⟨Nat.le_of_ble_eq_true rfl, Nat.le_of_ble_eq_true rfl⟩) (pool_preV (ci := 7) hK hE hS hA hw hW kd32 (by decide) rfl) rfl rfl hl.1 rfl (lv_room (Nat.le_of_ble_eq_true rfl)) dX4_extend_84 ⟨Nat.le_of_ble_eq_true rfl, Nat.le_of_ble_eq_true rfl⟩) (fun zi828 hp824 H locs hq827 hw hS => ?_)
            obtain ⟨ok825, F826, bd829⟩ := hq827
            have hw : PW G cy K ln Ls A hp824 H := hw
            refine lv_pop hx hb dX4_extend_87 rfl ?_
            refine lv_aload_n hx hb dX4_extend_88 rfl (lv_at hl 0 rfl) ?_
            obtain ⟨qa831, eq830, kd832⟩ := rd_5001 ok825 kd900
            refine p_get (ci := 4) (v := .ref qa831) (C := RX4) (T := TX4) (N := 8) hx hb hT iw_X4 hown hK hw hW kd900 (by decide) rfl rfl 1 (by decide) eq830 (hT _ tb_556) (fun _ h9 => h9) dX4_extend_89 ?_
            refine lv_iload_n hx hb dX4_extend_92 rfl (lv_at hl 3 rfl) ?_
            refine lv_iload hx hb dX4_extend_93 (lv_at hl 5 rfl) ?_
            refine p_iast (x := zi541) hx hb hK hw hS hW kd832 (by decide) rfl (hW.len kd832 (n := 6) rfl (by decide)) (vp_b bd903 (by decide) (by decide)) dX4_extend_95 (fun hp833 eh834 H locs hw hS => ?_)
            have ok835 := wr_35000 ok825 kd832 eh834
            refine lv_aload_n hx hb dX4_extend_96 rfl (lv_at hl 0 rfl) ?_
            refine lv_aload_n hx hb dX4_extend_97 rfl (lv_at hl 1 rfl) ?_
            refine lv_iload_n hx hb dX4_extend_98 rfl (lv_at hl 2 rfl) ?_
            refine lv_iconst (v := 1) hx hb dX4_extend_99 (by decide) ?_
            refine lv_iload hx hb dX4_extend_100 (lv_at hl 5 rfl) ?_
            refine lv_ishl hx hb dX4_extend_102 (lv_topi (fun zi836 ea837 => ?_))
            have bd838 : (1 : Int) ≤ zi836.toInt ∧ zi836.toInt ≤ 32768 := b_shl1 15 ea837 bd756 (by decide) (by decide) (by decide) (by decide) (by decide)
            refine lv_iconst (v := (-1)) hx hb dX4_extend_103 (by decide) ?_
            refine lv_ixor hx hb dX4_extend_104 (lv_topi (fun zi839 ea840 => ?_))
            refine lv_iand hx hb dX4_extend_105 (lv_topi (fun zi841 ea842 => ?_))
            refine lv_iload_n hx hb dX4_extend_106 rfl (lv_at hl 3 rfl) ?_
            refine lv_iconst (v := 1) hx hb dX4_extend_107 (by decide) ?_
            refine lv_iadd hx hb dX4_extend_108 (lv_topi (fun zi843 ea844 => ?_))
            have bd845 : (3 : Int) ≤ zi843.toInt ∧ zi843.toInt ≤ 3 := b_iadd ea844 bd903 bc_1 (by decide) (by decide) (by decide) (by decide)
            have qe846 : zi843.toInt = (zi903 : Int32).toInt + (1 : Int32).toInt := e_iadd ea844 bd903 bc_1 (by decide) (by decide)
            have qe847 : zi843.toInt = zi903.toInt + 1 := by have ha : (1 : Int32).toInt = 1 := (by decide); rw [ha] at qe846; exact qe846
            refine kq_v hw hS hA (va_runV (As := [.ref qa901, .int zi841, .int zi843]) (rest := []) ⟨hx, hb, hml, hown, hT⟩ (cX4_extend_3 l G cy ev K ln Ls hW _ hp833 ok835 qa900 qa901 zi841 zi843 kd900 kd901 (b_wid2 bd845 (by decide) (by decide))) (cwV 3 hT (good_V tb_1227 tb_1224 tb_1226 tb_39 tb_119) rfl rfl rfl (by decide +kernel) ⟨Nat.le_of_ble_eq_true rfl, Nat.le_of_ble_eq_true rfl⟩) (pool_preV (ci := 4) hK hE hS hA hw hW kd900 (by decide) rfl) rfl rfl hl.1 rfl (lv_room (Nat.le_of_ble_eq_true rfl)) dX4_extend_109 ⟨Nat.le_of_ble_eq_true rfl, Nat.le_of_ble_eq_true rfl⟩) (fun hp848 H locs hq851 hw hS => ?_)
            obtain ⟨ok849, F850⟩ := hq851
            have hw : PW G cy K ln Ls A hp848 H := hw
            exact jn807 hp848 _ _ ls ok849 (Fr.tr (Fr.put (cq := 35000) (Fr.tr (Fr.tr (Fr.rf) F821 (by decide)) F826 (by decide)) eh834 kd832 (cd_a (by decide)) (by decide)) F850 (by decide)) (lv_sub hl [0, 1, 2, 3, 4, 5] rfl) hw hS
    exact lp750 _ hp0 0 _ _ ls (lp_in _) ok0 (Fr.rf) (b_wid2 bc_0 (by decide) (by decide)) (lv_sub hl [2, 3, 4, 5, 1, 0] rfl) hw hS

set_option maxRecDepth 100000 in
set_option maxHeartbeats 4000000 in
theorem cX4_extend_5 (l : Launch) (G : va_G) (cy : Nat → ClassId) (ev : Ew) (K ln : Nat → Nat) (Ls : List Nat) (hW : SW K ln Ls) (sz : Nat) (hp0 : Nat → Nat → Value) (ok0 : Ok K hp0) (qa900 : Nat) (qa901 : Nat) (zi902 : Int32) (zi903 : Int32) (kd900 : K qa900 = 5) (kd901 : K qa901 = 11) (bd903 : ((1 : Int) ≤ zi903.toInt ∧ zi903.toInt ≤ 1)) : Met l yX4_extend (WS yX4_extend cX4_extend 6 none) { frames := 9, cells := 0, slots := 0, locals := 224 } (PB2 [.ref qa900, .ref qa901, .int zi902, .int zi903] sz G cy ev (va_pl Ls (cellOf cy K ln hp0))) (QBv (S := (Nat → Nat → Value)) (fun u : (Nat → Nat → Value) => Ok K u ∧ Fr [3003, 3004, 5003, 5004, 8000, 8001, 8002, 8003, 8004, 8005, 8006, 8008, 27000, 35000, 36000, 40000, 41000, 42000] K hp0 u) G (fun u => va_pl Ls (cellOf cy K ln u)) (va_A (va_pl Ls (cellOf cy K ln hp0)) sz)) 0 0 (va_A (va_pl Ls (cellOf cy K ln hp0)) sz) := by
  refine met_of2 (y := yX4_extend) (L := 6) (av := [.ref qa900, .ref qa901, .int zi902, .int zi903]) (Qc := fun A => QBv (S := (Nat → Nat → Value)) (fun u : (Nat → Nat → Value) => Ok K u ∧ Fr [3003, 3004, 5003, 5004, 8000, 8001, 8002, 8003, 8004, 8005, 8006, 8008, 27000, 35000, 36000, 40000, 41000, 42000] K hp0 u) G (fun u => va_pl Ls (cellOf cy K ln u)) A) (plainFor_of_name (by decide)) (Nat.le_of_ble_eq_true rfl) ?_
  intro p e s m below meth c hsz hx hb hr hml hown hT hlocks hin hK A hA hE hw hS ls hl
  have hw : PW G cy K ln Ls A hp0 s.heap := hw
  have hown : s.vm.findClass "LieClock$Orders" = some m.cls := hown
  have hl : lv_has ls 6 [(0, .ref qa900), (1, .ref qa901), (2, .int zi902), (3, .int zi903)] := hl
  obtain ⟨Q, hQ⟩ : ∃ Q : State → Prop, Q = MQ below (QBv (S := (Nat → Nat → Value)) (fun u : (Nat → Nat → Value) => Ok K u ∧ Fr [3003, 3004, 5003, 5004, 8000, 8001, 8002, 8003, 8004, 8005, 8006, 8008, 27000, 35000, 36000, 40000, 41000, 42000] K hp0 u) G (fun u => va_pl Ls (cellOf cy K ln u)) A) ([.ref qa900, .ref qa901, .int zi902, .int zi903] : List Value).toArray s 0 0 A := ⟨_, rfl⟩
  rw [← hQ]
  refine lv_iload_n hx hb dX4_extend_0 rfl (lv_at hl 2 rfl) ?_
  refine lv_if_eq (tgt := 14) hx hb dX4_extend_1 (by decide) (fun cn1 => ?_) (fun cn1 => ?_)
  · skip
    have bd2 : (0 : Int) ≤ zi902.toInt ∧ zi902.toInt ≤ 0 := r_eq_x cn1 (b_all zi902) bc_0 (by decide) (by decide)
    refine lv_aload_n hx hb dX4_extend_14 rfl (lv_at hl 0 rfl) ?_
    refine lv_aload_n hx hb dX4_extend_15 rfl (lv_at hl 0 rfl) ?_
    obtain ⟨qa4, eq3, kd5⟩ := rd_5000 ok0 kd900
    refine p_get (ci := 4) (v := .ref qa4) (C := RX4) (T := TX4) (N := 8) hx hb hT iw_X4 hown hK hw hW kd900 (by decide) rfl rfl 0 (by decide) eq3 (hT _ tb_555) (fun _ h9 => h9) dX4_extend_16 ?_
    refine lv_iconst (v := 0) hx hb dX4_extend_19 (by decide) ?_
    refine lv_iload_n hx hb dX4_extend_20 rfl (lv_at hl 3 rfl) ?_
    refine lv_bipush (v := 6) hx hb dX4_extend_21 (by decide) ?_
    refine va_mmin hx hb (hml.trans hl.1.symm) hown (hT _ tb_1228) (hT _ tb_791) (hT _ tb_123) (hT _ tb_792) (Nat.le_of_ble_eq_true rfl) (Nat.le_of_ble_eq_true rfl) (Nat.le_of_ble_eq_true rfl) (Nat.le_of_ble_eq_true rfl) dX4_extend_23 (lv_topi (fun zi6 ea7 => ?_))
    have bd8 : (1 : Int) ≤ zi6.toInt ∧ zi6.toInt ≤ 1 := b_min ea7 bd903 bc_6 (by decide) (by decide) (by decide)
    refine va_mmax hx hb (hml.trans hl.1.symm) hown (hT _ tb_1229) (hT _ tb_788) (hT _ tb_123) (hT _ tb_789) (Nat.le_of_ble_eq_true rfl) (Nat.le_of_ble_eq_true rfl) (Nat.le_of_ble_eq_true rfl) (Nat.le_of_ble_eq_true rfl) dX4_extend_26 (lv_topi (fun zi9 ea10 => ?_))
    have bd11 : (1 : Int) ≤ zi9.toInt ∧ zi9.toInt ≤ 1 := b_max ea10 bc_0 bd8 (by decide) (by decide) (by decide)
    obtain ⟨qa13, eq12, kd14⟩ := rd_34000 ok0 kd5 ((zi9 : Int32).toNatClampNeg)
    refine p_aald (v := qa13) hx hb hK hw hW kd5 (by decide) rfl (by decide) (by decide) rfl (hW.len kd5 (n := 7) rfl (by decide)) (vp_b bd11 (by decide) (by decide)) eq12 dX4_extend_29 ?_
    obtain ⟨zi16, eq15⟩ := rd_8000 ok0 kd14
    refine p_getN (ci := 7) (v := .int zi16) (C := RX7) (T := TX7) (N := 13) hx hb hT iw_X7 hown hK hw hW kd14 (by decide) rfl rfl 0 (by decide) eq15 (hK.fl nw_309) (fun _ h9 => h9) dX4_extend_30 ?_
    refine kq_v hw hS hA (va_runV (As := [.int zi16]) (rest := []) ⟨hx, hb, hml, hown, hT⟩ (cX4_judge_0 l G cy ev K ln Ls hW _ hp0 ok0 qa900 zi16 kd900) (cwV 1 hT (good_V tb_1233 tb_1230 tb_1232 tb_40 tb_119) rfl rfl rfl (by decide +kernel) ⟨Nat.le_of_ble_eq_true rfl, Nat.le_of_ble_eq_true rfl⟩) (pool_preV (ci := 4) hK hE hS hA hw hW kd900 (by decide) rfl) rfl rfl hl.1 rfl (lv_room (Nat.le_of_ble_eq_true rfl)) dX4_extend_33 ⟨Nat.le_of_ble_eq_true rfl, Nat.le_of_ble_eq_true rfl⟩) (fun hp17 H locs hq20 hw hS => ?_)
    obtain ⟨ok18, F19⟩ := hq20
    have hw : PW G cy K ln Ls A hp17 H := hw
    rw [hQ]
    exact kz_v hx hb hr hlocks hS hp17 hw ⟨ok18, (Fr.tr (Fr.rf) F19 (by decide))⟩ (Nat.le_of_ble_eq_true rfl) (Nat.le_of_ble_eq_true rfl) dX4_extend_36
  · skip
    refine lv_iload_n hx hb dX4_extend_4 rfl (lv_at hl 3 rfl) ?_
    refine lv_if_lt (tgt := 14) hx hb dX4_extend_5 (by decide) (fun c => absurd c (d_nlt bd903 bc_0 (by decide))) (fun _ => ?_)
    refine lv_iload_n hx hb dX4_extend_8 rfl (lv_at hl 3 rfl) ?_
    refine lv_bipush (v := 6) hx hb dX4_extend_9 (by decide) ?_
    refine lv_icmp_lt (tgt := 37) hx hb dX4_extend_11 (by decide) (fun _ => ?_) (fun c => absurd (d_lt bd903 bc_6 (by decide)) c)
    refine lv_aload_n hx hb dX4_extend_37 rfl (lv_at hl 0 rfl) ?_
    obtain ⟨qa23, eq22, kd24⟩ := rd_5000 ok0 kd900
    refine p_get (ci := 4) (v := .ref qa23) (C := RX4) (T := TX4) (N := 8) hx hb hT iw_X4 hown hK hw hW kd900 (by decide) rfl rfl 0 (by decide) eq22 (hT _ tb_555) (fun _ h9 => h9) dX4_extend_38 ?_
    refine lv_iload_n hx hb dX4_extend_41 rfl (lv_at hl 3 rfl) ?_
    refine lv_iconst (v := 1) hx hb dX4_extend_42 (by decide) ?_
    refine lv_iadd hx hb dX4_extend_43 (lv_topi (fun zi25 ea26 => ?_))
    have bd27 : (2 : Int) ≤ zi25.toInt ∧ zi25.toInt ≤ 2 := b_iadd ea26 bd903 bc_1 (by decide) (by decide) (by decide) (by decide)
    have qe28 : zi25.toInt = (zi903 : Int32).toInt + (1 : Int32).toInt := e_iadd ea26 bd903 bc_1 (by decide) (by decide)
    have qe29 : zi25.toInt = zi903.toInt + 1 := by have ha : (1 : Int32).toInt = 1 := (by decide); rw [ha] at qe28; exact qe28
    obtain ⟨qa31, eq30, kd32⟩ := rd_34000 ok0 kd24 ((zi25 : Int32).toNatClampNeg)
    refine p_aald (v := qa31) hx hb hK hw hW kd24 (by decide) rfl (by decide) (by decide) rfl (hW.len kd24 (n := 7) rfl (by decide)) (vp_b bd27 (by decide) (by decide)) eq30 dX4_extend_44 ?_
    refine lv_astore (lv' := [(4, .ref qa31), (0, .ref qa900), (1, .ref qa901), (2, .int zi902), (3, .int zi903)]) hx hb dX4_extend_45 hl (by decide) rfl (fun ls hl => ?_)
    refine lv_iconst (v := 0) hx hb dX4_extend_47 (by decide) ?_
    refine lv_istore (lv' := [(5, .int 0), (4, .ref qa31), (0, .ref qa900), (1, .ref qa901), (2, .int zi902), (3, .int zi903)]) hx hb dX4_extend_48 hl (by decide) rfl (fun ls hl => ?_)
    have lp750 : ∀ (n748 : Nat) (hp542 : Nat → Nat → Value) (zi541 : Int32) (H : Heap) (locs : List Loc) (ls : Array Slot), 16 - zi541.toInt < (n748 : Int) → Ok K hp542 → Fr [3003, 3004, 5003, 5004, 8000, 8001, 8002, 8003, 8004, 8005, 8006, 8008, 27000, 35000, 36000, 40000, 41000, 42000] K hp0 hp542 → ((0 : Int) ≤ zi541.toInt ∧ zi541.toInt ≤ 16) → lv_has ls 6 [(0, .ref qa900), (1, .ref qa901), (2, .int zi902), (3, .int zi903), (4, .ref qa31), (5, .int zi541)] → PW G cy K ln Ls A hp542 H → va_S A s.heap H locs → W p l e ({ frames := 9, cells := 0, slots := 0, locals := 224 } : Room) s m ([.ref qa900, .ref qa901, .int zi902, .int zi903] : List Value).toArray below meth c H locs 0 0 Q (F0 m 50 ls []) := by
      intro n748
      induction n748 with
      | zero =>
        intro hp542 zi541 H locs ls hm751 ok544 F543 bd545 hl hw hS
        exact absurd hm751 (by have := bd545; omega)
      | succ n748 ih749 =>
        intro hp542 zi541 H locs ls hm751 ok544 F543 bd545 hl hw hS
        refine lv_iload hx hb dX4_extend_50 (lv_at hl 5 rfl) ?_
        refine lv_aload_n hx hb dX4_extend_52 rfl (lv_at hl 1 rfl) ?_
        obtain ⟨zi753, eq752, bd754⟩ := rd_11004 ok544 kd901
        refine p_getN (ci := 10) (v := .int zi753) (C := RX10) (T := TX10) (N := 20) hx hb hT iw_X10 hown hK hw hW kd901 (by decide) rfl rfl 4 (by decide) eq752 (hK.fl nw_95) (fun _ h9 => h9) dX4_extend_53 ?_
        refine lv_icmp_ge (tgt := 118) hx hb dX4_extend_56 (by decide) (fun cn755 => ?_) (fun cn755 => ?_)
        · skip
          rw [hQ]
          exact kz_v hx hb hr hlocks hS hp542 hw ⟨ok544, (Fr.tr (Fr.rf) F543 (by decide))⟩ (Nat.le_of_ble_eq_true rfl) (Nat.le_of_ble_eq_true rfl) dX4_extend_118
        · skip
          have bd756 : (0 : Int) ≤ zi541.toInt ∧ zi541.toInt ≤ 15 := r_lt_x (Int32.not_le.mp cn755) bd545 bd754 (by decide) (by decide)
          have bd757 : (1 : Int) ≤ zi753.toInt ∧ zi753.toInt ≤ 16 := r_lt_y (Int32.not_le.mp cn755) bd545 bd754 (by decide) (by decide)
          refine lv_iload_n hx hb dX4_extend_59 rfl (lv_at hl 2 rfl) ?_
          refine lv_iload hx hb dX4_extend_60 (lv_at hl 5 rfl) ?_
          refine lv_ishr hx hb dX4_extend_62 (lv_topi (fun zi758 ea759 => ?_))
          refine lv_iconst (v := 1) hx hb dX4_extend_63 (by decide) ?_
          refine lv_iand hx hb dX4_extend_64 (lv_topi (fun zi760 ea761 => ?_))
          have bd762 : (0 : Int) ≤ zi760.toInt ∧ zi760.toInt ≤ 1 := b_and_r ea761 bc_1 (by decide) (by decide) (by decide)
          have jn807 : ∀ (hp804 : Nat → Nat → Value)  (H : Heap) (locs : List Loc) (ls : Array Slot), Ok K hp804 → Fr [3003, 3004, 5003, 5004, 8000, 8001, 8002, 8003, 8004, 8005, 8006, 8008, 27000, 35000, 36000, 40000, 41000, 42000] K hp542 hp804 → lv_has ls 6 [(0, .ref qa900), (1, .ref qa901), (2, .int zi902), (3, .int zi903), (4, .ref qa31), (5, .int zi541)] → PW G cy K ln Ls A hp804 H → va_S A s.heap H locs → W p l e ({ frames := 9, cells := 0, slots := 0, locals := 224 } : Room) s m ([.ref qa900, .ref qa901, .int zi902, .int zi903] : List Value).toArray below meth c H locs 0 0 Q (F0 m 112 ls []) := by
            intro hp804 H locs ls ok806 F805 hl hw hS
            obtain ⟨zi808, ea809⟩ : ∃ z : Int32, z = zi541 + 1 := ⟨_, rfl⟩
            have bd810 : (1 : Int) ≤ zi808.toInt ∧ zi808.toInt ≤ 16 := b_iadd ea809 bd756 bc_1 (by decide) (by decide) (by decide) (by decide)
            have qe811 : zi808.toInt = (zi541 : Int32).toInt + (1 : Int32).toInt := e_iadd ea809 bd756 bc_1 (by decide) (by decide)
            have qe812 : zi808.toInt = zi541.toInt + 1 := by have ha : (1 : Int32).toInt = 1 := (by decide); rw [ha] at qe811; exact qe811
            refine lv_iinc (v := zi808) (lv' := [(5, .int zi808), (0, .ref qa900), (1, .ref qa901), (2, .int zi902), (3, .int zi903), (4, .ref qa31)]) hx hb dX4_extend_112 hl (k := 5) rfl ea809.symm (by decide) rfl (fun ls hl => ?_)
            refine lv_goto (tgt := 50) hx hb dX4_extend_115 (by decide) ?_
            exact ih749 hp804 zi808 _ _ ls (by have := hm751; have := qe812; omega) ok806 (Fr.tr (Fr.tr (Fr.rf) F543 (by decide)) F805 (by decide)) (b_wid2 bd810 (by decide) (by decide)) (lv_sub hl [1, 2, 3, 4, 5, 0] rfl) hw hS
          refine lv_if_eq (tgt := 112) hx hb dX4_extend_65 (by decide) (fun cn763 => ?_) (fun cn763 => ?_)
          · skip
            have bd813 : (0 : Int) ≤ zi760.toInt ∧ zi760.toInt ≤ 0 := r_eq_x cn763 bd762 bc_0 (by decide) (by decide)
            exact jn807 hp542 _ _ ls ok544 (Fr.rf) (lv_sub hl [0, 1, 2, 3, 4, 5] rfl) hw hS
          · skip
            have bd814 : (1 : Int) ≤ zi760.toInt ∧ zi760.toInt ≤ 1 := r_ne_lo cn763 bd762 (toi bc_0) (by decide) (by decide)
            refine lv_aload hx hb dX4_extend_68 (lv_at hl 4 rfl) ?_
            refine lv_aload_n hx hb dX4_extend_70 rfl (lv_at hl 0 rfl) ?_
            have eq815 : hp542 qa900 0 = .ref qa23 := Eq.trans (Fr.at (cq := 5000) F543 kd900 (cd_o (by decide)) (by decide)) eq22
            refine p_get (ci := 4) (v := .ref qa23) (C := RX4) (T := TX4) (N := 8) hx hb hT iw_X4 hown hK hw hW kd900 (by decide) rfl rfl 0 (by decide) eq815 (hT _ tb_555) (fun _ h9 => h9) dX4_extend_71 ?_
            refine lv_iload_n hx hb dX4_extend_74 rfl (lv_at hl 3 rfl) ?_
            obtain ⟨qa817, eq816, kd818⟩ := rd_34000 ok544 kd24 ((zi903 : Int32).toNatClampNeg)
            refine p_aald (v := qa817) hx hb hK hw hW kd24 (by decide) rfl (by decide) (by decide) rfl (hW.len kd24 (n := 7) rfl (by decide)) (vp_b bd903 (by decide) (by decide)) eq816 dX4_extend_75 ?_
            refine kq_v hw hS hA (va_runV (As := [.ref qa817]) (rest := []) ⟨hx, hb, hml, hown, hT⟩ (cX7_copyMoment_0 l G cy ev K ln Ls hW _ hp542 ok544 qa31 qa817 kd32 kd818) (cwV 1 hT (good_V tb_1051 tb_1223 tb_1049 tb_1050 tb_115) rfl rfl rfl (by decide +kernel) ⟨Nat.le_of_ble_eq_true rfl, Nat.le_of_ble_eq_true rfl⟩) (pool_preV (ci := 7) hK hE hS hA hw hW kd32 (by decide) rfl) rfl rfl hl.1 rfl (lv_room (Nat.le_of_ble_eq_true rfl)) dX4_extend_76 ⟨Nat.le_of_ble_eq_true rfl, Nat.le_of_ble_eq_true rfl⟩) (fun hp819 H locs hq822 hw hS => ?_)
            obtain ⟨ok820, F821⟩ := hq822
            have hw : PW G cy K ln Ls A hp819 H := hw
            refine lv_aload hx hb dX4_extend_79 (lv_at hl 4 rfl) ?_
            refine lv_aload_n hx hb dX4_extend_81 rfl (lv_at hl 1 rfl) ?_
            refine lv_iload hx hb dX4_extend_82 (lv_at hl 5 rfl) ?_
            refine kq_i hw hS hA (va_runV (As := [.ref qa901, .int zi541]) (rest := []) ⟨hx, hb, hml, hown, hT⟩ (cX7_utter_0 l G cy ev K ln Ls hW _ hp819 ok820 qa31 qa901 zi541 kd32 kd901 (b_wid2 bd756 (by decide) (by decide))) (cwV 2 hT (good_V tb_1059 tb_1235 tb_1057 tb_1058 tb_115) rfl rfl rfl (by decide +kernel) ⟨Nat.le_of_ble_eq_true rfl, Nat.le_of_ble_eq_true rfl⟩) (pool_preV (ci := 7) hK hE hS hA hw hW kd32 (by decide) rfl) rfl rfl hl.1 rfl (lv_room (Nat.le_of_ble_eq_true rfl)) dX4_extend_84 ⟨Nat.le_of_ble_eq_true rfl, Nat.le_of_ble_eq_true rfl⟩) (fun zi828 hp824 H locs hq827 hw hS => ?_)
            obtain ⟨ok825, F826, bd829⟩ := hq827
            have hw : PW G cy K ln Ls A hp824 H := hw
            refine lv_pop hx hb dX4_extend_87 rfl ?_
            refine lv_aload_n hx hb dX4_extend_88 rfl (lv_at hl 0 rfl) ?_
            obtain ⟨qa831, eq830, kd832⟩ := rd_5001 ok825 kd900
            refine p_get (ci := 4) (v := .ref qa831) (C := RX4) (T := TX4) (N := 8) hx hb hT iw_X4 hown hK hw hW kd900 (by decide) rfl rfl 1 (by decide) eq830 (hT _ tb_556) (fun _ h9 => h9) dX4_extend_89 ?_
            refine lv_iload_n hx hb dX4_extend_92 rfl (lv_at hl 3 rfl) ?_
            refine lv_iload hx hb dX4_extend_93 (lv_at hl 5 rfl) ?_
            refine p_iast (x := zi541) hx hb hK hw hS hW kd832 (by decide) rfl (hW.len kd832 (n := 6) rfl (by decide)) (vp_b bd903 (by decide) (by decide)) dX4_extend_95 (fun hp833 eh834 H locs hw hS => ?_)
            have ok835 := wr_35000 ok825 kd832 eh834
            refine lv_aload_n hx hb dX4_extend_96 rfl (lv_at hl 0 rfl) ?_
            refine lv_aload_n hx hb dX4_extend_97 rfl (lv_at hl 1 rfl) ?_
            refine lv_iload_n hx hb dX4_extend_98 rfl (lv_at hl 2 rfl) ?_
            refine lv_iconst (v := 1) hx hb dX4_extend_99 (by decide) ?_
            refine lv_iload hx hb dX4_extend_100 (lv_at hl 5 rfl) ?_
            refine lv_ishl hx hb dX4_extend_102 (lv_topi (fun zi836 ea837 => ?_))
            have bd838 : (1 : Int) ≤ zi836.toInt ∧ zi836.toInt ≤ 32768 := b_shl1 15 ea837 bd756 (by decide) (by decide) (by decide) (by decide) (by decide)
            refine lv_iconst (v := (-1)) hx hb dX4_extend_103 (by decide) ?_
            refine lv_ixor hx hb dX4_extend_104 (lv_topi (fun zi839 ea840 => ?_))
            refine lv_iand hx hb dX4_extend_105 (lv_topi (fun zi841 ea842 => ?_))
            refine lv_iload_n hx hb dX4_extend_106 rfl (lv_at hl 3 rfl) ?_
            refine lv_iconst (v := 1) hx hb dX4_extend_107 (by decide) ?_
            refine lv_iadd hx hb dX4_extend_108 (lv_topi (fun zi843 ea844 => ?_))
            have bd845 : (2 : Int) ≤ zi843.toInt ∧ zi843.toInt ≤ 2 := b_iadd ea844 bd903 bc_1 (by decide) (by decide) (by decide) (by decide)
            have qe846 : zi843.toInt = (zi903 : Int32).toInt + (1 : Int32).toInt := e_iadd ea844 bd903 bc_1 (by decide) (by decide)
            have qe847 : zi843.toInt = zi903.toInt + 1 := by have ha : (1 : Int32).toInt = 1 := (by decide); rw [ha] at qe846; exact qe846
            refine kq_v hw hS hA (va_runV (As := [.ref qa901, .int zi841, .int zi843]) (rest := []) ⟨hx, hb, hml, hown, hT⟩ (cX4_extend_4 l G cy ev K ln Ls hW _ hp833 ok835 qa900 qa901 zi841 zi843 kd900 kd901 (b_wid2 bd845 (by decide) (by decide))) (cwV 3 hT (good_V tb_1227 tb_1224 tb_1226 tb_39 tb_119) rfl rfl rfl (by decide +kernel) ⟨Nat.le_of_ble_eq_true rfl, Nat.le_of_ble_eq_true rfl⟩) (pool_preV (ci := 4) hK hE hS hA hw hW kd900 (by decide) rfl) rfl rfl hl.1 rfl (lv_room (Nat.le_of_ble_eq_true rfl)) dX4_extend_109 ⟨Nat.le_of_ble_eq_true rfl, Nat.le_of_ble_eq_true rfl⟩) (fun hp848 H locs hq851 hw hS => ?_)
            obtain ⟨ok849, F850⟩ := hq851
            have hw : PW G cy K ln Ls A hp848 H := hw
            exact jn807 hp848 _ _ ls ok849 (Fr.tr (Fr.put (cq := 35000) (Fr.tr (Fr.tr (Fr.rf) F821 (by decide)) F826 (by decide)) eh834 kd832 (cd_a (by decide)) (by decide)) F850 (by decide)) (lv_sub hl [0, 1, 2, 3, 4, 5] rfl) hw hS
    exact lp750 _ hp0 0 _ _ ls (lp_in _) ok0 (Fr.rf) (b_wid2 bc_0 (by decide) (by decide)) (lv_sub hl [2, 3, 4, 5, 1, 0] rfl) hw hS

set_option maxRecDepth 100000 in
set_option maxHeartbeats 4000000 in
theorem cX4_extend_6 (l : Launch) (G : va_G) (cy : Nat → ClassId) (ev : Ew) (K ln : Nat → Nat) (Ls : List Nat) (hW : SW K ln Ls) (sz : Nat) (hp0 : Nat → Nat → Value) (ok0 : Ok K hp0) (qa900 : Nat) (qa901 : Nat) (zi902 : Int32) (zi903 : Int32) (kd900 : K qa900 = 5) (kd901 : K qa901 = 11) (bd903 : ((0 : Int) ≤ zi903.toInt ∧ zi903.toInt ≤ 0)) : Met l yX4_extend (WS yX4_extend cX4_extend 6 none) { frames := 10, cells := 0, slots := 0, locals := 249 } (PB2 [.ref qa900, .ref qa901, .int zi902, .int zi903] sz G cy ev (va_pl Ls (cellOf cy K ln hp0))) (QBv (S := (Nat → Nat → Value)) (fun u : (Nat → Nat → Value) => Ok K u ∧ Fr [3003, 3004, 5003, 5004, 8000, 8001, 8002, 8003, 8004, 8005, 8006, 8008, 27000, 35000, 36000, 40000, 41000, 42000] K hp0 u) G (fun u => va_pl Ls (cellOf cy K ln u)) (va_A (va_pl Ls (cellOf cy K ln hp0)) sz)) 0 0 (va_A (va_pl Ls (cellOf cy K ln hp0)) sz) := by
  refine met_of2 (y := yX4_extend) (L := 6) (av := [.ref qa900, .ref qa901, .int zi902, .int zi903]) (Qc := fun A => QBv (S := (Nat → Nat → Value)) (fun u : (Nat → Nat → Value) => Ok K u ∧ Fr [3003, 3004, 5003, 5004, 8000, 8001, 8002, 8003, 8004, 8005, 8006, 8008, 27000, 35000, 36000, 40000, 41000, 42000] K hp0 u) G (fun u => va_pl Ls (cellOf cy K ln u)) A) (plainFor_of_name (by decide)) (Nat.le_of_ble_eq_true rfl) ?_
  intro p e s m below meth c hsz hx hb hr hml hown hT hlocks hin hK A hA hE hw hS ls hl
  have hw : PW G cy K ln Ls A hp0 s.heap := hw
  have hown : s.vm.findClass "LieClock$Orders" = some m.cls := hown
  have hl : lv_has ls 6 [(0, .ref qa900), (1, .ref qa901), (2, .int zi902), (3, .int zi903)] := hl
  obtain ⟨Q, hQ⟩ : ∃ Q : State → Prop, Q = MQ below (QBv (S := (Nat → Nat → Value)) (fun u : (Nat → Nat → Value) => Ok K u ∧ Fr [3003, 3004, 5003, 5004, 8000, 8001, 8002, 8003, 8004, 8005, 8006, 8008, 27000, 35000, 36000, 40000, 41000, 42000] K hp0 u) G (fun u => va_pl Ls (cellOf cy K ln u)) A) ([.ref qa900, .ref qa901, .int zi902, .int zi903] : List Value).toArray s 0 0 A := ⟨_, rfl⟩
  rw [← hQ]
  refine lv_iload_n hx hb dX4_extend_0 rfl (lv_at hl 2 rfl) ?_
  refine lv_if_eq (tgt := 14) hx hb dX4_extend_1 (by decide) (fun cn1 => ?_) (fun cn1 => ?_)
  · skip
    have bd2 : (0 : Int) ≤ zi902.toInt ∧ zi902.toInt ≤ 0 := r_eq_x cn1 (b_all zi902) bc_0 (by decide) (by decide)
    refine lv_aload_n hx hb dX4_extend_14 rfl (lv_at hl 0 rfl) ?_
    refine lv_aload_n hx hb dX4_extend_15 rfl (lv_at hl 0 rfl) ?_
    obtain ⟨qa4, eq3, kd5⟩ := rd_5000 ok0 kd900
    refine p_get (ci := 4) (v := .ref qa4) (C := RX4) (T := TX4) (N := 8) hx hb hT iw_X4 hown hK hw hW kd900 (by decide) rfl rfl 0 (by decide) eq3 (hT _ tb_555) (fun _ h9 => h9) dX4_extend_16 ?_
    refine lv_iconst (v := 0) hx hb dX4_extend_19 (by decide) ?_
    refine lv_iload_n hx hb dX4_extend_20 rfl (lv_at hl 3 rfl) ?_
    refine lv_bipush (v := 6) hx hb dX4_extend_21 (by decide) ?_
    refine va_mmin hx hb (hml.trans hl.1.symm) hown (hT _ tb_1228) (hT _ tb_791) (hT _ tb_123) (hT _ tb_792) (Nat.le_of_ble_eq_true rfl) (Nat.le_of_ble_eq_true rfl) (Nat.le_of_ble_eq_true rfl) (Nat.le_of_ble_eq_true rfl) dX4_extend_23 (lv_topi (fun zi6 ea7 => ?_))
    have bd8 : (0 : Int) ≤ zi6.toInt ∧ zi6.toInt ≤ 0 := b_min ea7 bd903 bc_6 (by decide) (by decide) (by decide)
    refine va_mmax hx hb (hml.trans hl.1.symm) hown (hT _ tb_1229) (hT _ tb_788) (hT _ tb_123) (hT _ tb_789) (Nat.le_of_ble_eq_true rfl) (Nat.le_of_ble_eq_true rfl) (Nat.le_of_ble_eq_true rfl) (Nat.le_of_ble_eq_true rfl) dX4_extend_26 (lv_topi (fun zi9 ea10 => ?_))
    have bd11 : (0 : Int) ≤ zi9.toInt ∧ zi9.toInt ≤ 0 := b_max ea10 bc_0 bd8 (by decide) (by decide) (by decide)
    obtain ⟨qa13, eq12, kd14⟩ := rd_34000 ok0 kd5 ((zi9 : Int32).toNatClampNeg)
    refine p_aald (v := qa13) hx hb hK hw hW kd5 (by decide) rfl (by decide) (by decide) rfl (hW.len kd5 (n := 7) rfl (by decide)) (vp_b bd11 (by decide) (by decide)) eq12 dX4_extend_29 ?_
    obtain ⟨zi16, eq15⟩ := rd_8000 ok0 kd14
    refine p_getN (ci := 7) (v := .int zi16) (C := RX7) (T := TX7) (N := 13) hx hb hT iw_X7 hown hK hw hW kd14 (by decide) rfl rfl 0 (by decide) eq15 (hK.fl nw_309) (fun _ h9 => h9) dX4_extend_30 ?_
    refine kq_v hw hS hA (va_runV (As := [.int zi16]) (rest := []) ⟨hx, hb, hml, hown, hT⟩ (cX4_judge_0 l G cy ev K ln Ls hW _ hp0 ok0 qa900 zi16 kd900) (cwV 1 hT (good_V tb_1233 tb_1230 tb_1232 tb_40 tb_119) rfl rfl rfl (by decide +kernel) ⟨Nat.le_of_ble_eq_true rfl, Nat.le_of_ble_eq_true rfl⟩) (pool_preV (ci := 4) hK hE hS hA hw hW kd900 (by decide) rfl) rfl rfl hl.1 rfl (lv_room (Nat.le_of_ble_eq_true rfl)) dX4_extend_33 ⟨Nat.le_of_ble_eq_true rfl, Nat.le_of_ble_eq_true rfl⟩) (fun hp17 H locs hq20 hw hS => ?_)
    obtain ⟨ok18, F19⟩ := hq20
    have hw : PW G cy K ln Ls A hp17 H := hw
    rw [hQ]
    exact kz_v hx hb hr hlocks hS hp17 hw ⟨ok18, (Fr.tr (Fr.rf) F19 (by decide))⟩ (Nat.le_of_ble_eq_true rfl) (Nat.le_of_ble_eq_true rfl) dX4_extend_36
  · skip
    refine lv_iload_n hx hb dX4_extend_4 rfl (lv_at hl 3 rfl) ?_
    refine lv_if_lt (tgt := 14) hx hb dX4_extend_5 (by decide) (fun c => absurd c (d_nlt bd903 bc_0 (by decide))) (fun _ => ?_)
    refine lv_iload_n hx hb dX4_extend_8 rfl (lv_at hl 3 rfl) ?_
    refine lv_bipush (v := 6) hx hb dX4_extend_9 (by decide) ?_
    refine lv_icmp_lt (tgt := 37) hx hb dX4_extend_11 (by decide) (fun _ => ?_) (fun c => absurd (d_lt bd903 bc_6 (by decide)) c)
    refine lv_aload_n hx hb dX4_extend_37 rfl (lv_at hl 0 rfl) ?_
    obtain ⟨qa23, eq22, kd24⟩ := rd_5000 ok0 kd900
    refine p_get (ci := 4) (v := .ref qa23) (C := RX4) (T := TX4) (N := 8) hx hb hT iw_X4 hown hK hw hW kd900 (by decide) rfl rfl 0 (by decide) eq22 (hT _ tb_555) (fun _ h9 => h9) dX4_extend_38 ?_
    refine lv_iload_n hx hb dX4_extend_41 rfl (lv_at hl 3 rfl) ?_
    refine lv_iconst (v := 1) hx hb dX4_extend_42 (by decide) ?_
    refine lv_iadd hx hb dX4_extend_43 (lv_topi (fun zi25 ea26 => ?_))
    have bd27 : (1 : Int) ≤ zi25.toInt ∧ zi25.toInt ≤ 1 := b_iadd ea26 bd903 bc_1 (by decide) (by decide) (by decide) (by decide)
    have qe28 : zi25.toInt = (zi903 : Int32).toInt + (1 : Int32).toInt := e_iadd ea26 bd903 bc_1 (by decide) (by decide)
    have qe29 : zi25.toInt = zi903.toInt + 1 := by have ha : (1 : Int32).toInt = 1 := (by decide); rw [ha] at qe28; exact qe28
    obtain ⟨qa31, eq30, kd32⟩ := rd_34000 ok0 kd24 ((zi25 : Int32).toNatClampNeg)
    refine p_aald (v := qa31) hx hb hK hw hW kd24 (by decide) rfl (by decide) (by decide) rfl (hW.len kd24 (n := 7) rfl (by decide)) (vp_b bd27 (by decide) (by decide)) eq30 dX4_extend_44 ?_
    refine lv_astore (lv' := [(4, .ref qa31), (0, .ref qa900), (1, .ref qa901), (2, .int zi902), (3, .int zi903)]) hx hb dX4_extend_45 hl (by decide) rfl (fun ls hl => ?_)
    refine lv_iconst (v := 0) hx hb dX4_extend_47 (by decide) ?_
    refine lv_istore (lv' := [(5, .int 0), (4, .ref qa31), (0, .ref qa900), (1, .ref qa901), (2, .int zi902), (3, .int zi903)]) hx hb dX4_extend_48 hl (by decide) rfl (fun ls hl => ?_)
    have lp750 : ∀ (n748 : Nat) (hp542 : Nat → Nat → Value) (zi541 : Int32) (H : Heap) (locs : List Loc) (ls : Array Slot), 16 - zi541.toInt < (n748 : Int) → Ok K hp542 → Fr [3003, 3004, 5003, 5004, 8000, 8001, 8002, 8003, 8004, 8005, 8006, 8008, 27000, 35000, 36000, 40000, 41000, 42000] K hp0 hp542 → ((0 : Int) ≤ zi541.toInt ∧ zi541.toInt ≤ 16) → lv_has ls 6 [(0, .ref qa900), (1, .ref qa901), (2, .int zi902), (3, .int zi903), (4, .ref qa31), (5, .int zi541)] → PW G cy K ln Ls A hp542 H → va_S A s.heap H locs → W p l e ({ frames := 10, cells := 0, slots := 0, locals := 249 } : Room) s m ([.ref qa900, .ref qa901, .int zi902, .int zi903] : List Value).toArray below meth c H locs 0 0 Q (F0 m 50 ls []) := by
      intro n748
      induction n748 with
      | zero =>
        intro hp542 zi541 H locs ls hm751 ok544 F543 bd545 hl hw hS
        exact absurd hm751 (by have := bd545; omega)
      | succ n748 ih749 =>
        intro hp542 zi541 H locs ls hm751 ok544 F543 bd545 hl hw hS
        refine lv_iload hx hb dX4_extend_50 (lv_at hl 5 rfl) ?_
        refine lv_aload_n hx hb dX4_extend_52 rfl (lv_at hl 1 rfl) ?_
        obtain ⟨zi753, eq752, bd754⟩ := rd_11004 ok544 kd901
        refine p_getN (ci := 10) (v := .int zi753) (C := RX10) (T := TX10) (N := 20) hx hb hT iw_X10 hown hK hw hW kd901 (by decide) rfl rfl 4 (by decide) eq752 (hK.fl nw_95) (fun _ h9 => h9) dX4_extend_53 ?_
        refine lv_icmp_ge (tgt := 118) hx hb dX4_extend_56 (by decide) (fun cn755 => ?_) (fun cn755 => ?_)
        · skip
          rw [hQ]
          exact kz_v hx hb hr hlocks hS hp542 hw ⟨ok544, (Fr.tr (Fr.rf) F543 (by decide))⟩ (Nat.le_of_ble_eq_true rfl) (Nat.le_of_ble_eq_true rfl) dX4_extend_118
        · skip
          have bd756 : (0 : Int) ≤ zi541.toInt ∧ zi541.toInt ≤ 15 := r_lt_x (Int32.not_le.mp cn755) bd545 bd754 (by decide) (by decide)
          have bd757 : (1 : Int) ≤ zi753.toInt ∧ zi753.toInt ≤ 16 := r_lt_y (Int32.not_le.mp cn755) bd545 bd754 (by decide) (by decide)
          refine lv_iload_n hx hb dX4_extend_59 rfl (lv_at hl 2 rfl) ?_
          refine lv_iload hx hb dX4_extend_60 (lv_at hl 5 rfl) ?_
          refine lv_ishr hx hb dX4_extend_62 (lv_topi (fun zi758 ea759 => ?_))
          refine lv_iconst (v := 1) hx hb dX4_extend_63 (by decide) ?_
          refine lv_iand hx hb dX4_extend_64 (lv_topi (fun zi760 ea761 => ?_))
          have bd762 : (0 : Int) ≤ zi760.toInt ∧ zi760.toInt ≤ 1 := b_and_r ea761 bc_1 (by decide) (by decide) (by decide)
          have jn807 : ∀ (hp804 : Nat → Nat → Value)  (H : Heap) (locs : List Loc) (ls : Array Slot), Ok K hp804 → Fr [3003, 3004, 5003, 5004, 8000, 8001, 8002, 8003, 8004, 8005, 8006, 8008, 27000, 35000, 36000, 40000, 41000, 42000] K hp542 hp804 → lv_has ls 6 [(0, .ref qa900), (1, .ref qa901), (2, .int zi902), (3, .int zi903), (4, .ref qa31), (5, .int zi541)] → PW G cy K ln Ls A hp804 H → va_S A s.heap H locs → W p l e ({ frames := 10, cells := 0, slots := 0, locals := 249 } : Room) s m ([.ref qa900, .ref qa901, .int zi902, .int zi903] : List Value).toArray below meth c H locs 0 0 Q (F0 m 112 ls []) := by
            intro hp804 H locs ls ok806 F805 hl hw hS
            obtain ⟨zi808, ea809⟩ : ∃ z : Int32, z = zi541 + 1 := ⟨_, rfl⟩
            have bd810 : (1 : Int) ≤ zi808.toInt ∧ zi808.toInt ≤ 16 := b_iadd ea809 bd756 bc_1 (by decide) (by decide) (by decide) (by decide)
            have qe811 : zi808.toInt = (zi541 : Int32).toInt + (1 : Int32).toInt := e_iadd ea809 bd756 bc_1 (by decide) (by decide)
            have qe812 : zi808.toInt = zi541.toInt + 1 := by have ha : (1 : Int32).toInt = 1 := (by decide); rw [ha] at qe811; exact qe811
            refine lv_iinc (v := zi808) (lv' := [(5, .int zi808), (0, .ref qa900), (1, .ref qa901), (2, .int zi902), (3, .int zi903), (4, .ref qa31)]) hx hb dX4_extend_112 hl (k := 5) rfl ea809.symm (by decide) rfl (fun ls hl => ?_)
            refine lv_goto (tgt := 50) hx hb dX4_extend_115 (by decide) ?_
            exact ih749 hp804 zi808 _ _ ls (by have := hm751; have := qe812; omega) ok806 (Fr.tr (Fr.tr (Fr.rf) F543 (by decide)) F805 (by decide)) (b_wid2 bd810 (by decide) (by decide)) (lv_sub hl [1, 2, 3, 4, 5, 0] rfl) hw hS
          refine lv_if_eq (tgt := 112) hx hb dX4_extend_65 (by decide) (fun cn763 => ?_) (fun cn763 => ?_)
          · skip
            have bd813 : (0 : Int) ≤ zi760.toInt ∧ zi760.toInt ≤ 0 := r_eq_x cn763 bd762 bc_0 (by decide) (by decide)
            exact jn807 hp542 _ _ ls ok544 (Fr.rf) (lv_sub hl [0, 1, 2, 3, 4, 5] rfl) hw hS
          · skip
            have bd814 : (1 : Int) ≤ zi760.toInt ∧ zi760.toInt ≤ 1 := r_ne_lo cn763 bd762 (toi bc_0) (by decide) (by decide)
            refine lv_aload hx hb dX4_extend_68 (lv_at hl 4 rfl) ?_
            refine lv_aload_n hx hb dX4_extend_70 rfl (lv_at hl 0 rfl) ?_
            have eq815 : hp542 qa900 0 = .ref qa23 := Eq.trans (Fr.at (cq := 5000) F543 kd900 (cd_o (by decide)) (by decide)) eq22
            refine p_get (ci := 4) (v := .ref qa23) (C := RX4) (T := TX4) (N := 8) hx hb hT iw_X4 hown hK hw hW kd900 (by decide) rfl rfl 0 (by decide) eq815 (hT _ tb_555) (fun _ h9 => h9) dX4_extend_71 ?_
            refine lv_iload_n hx hb dX4_extend_74 rfl (lv_at hl 3 rfl) ?_
            obtain ⟨qa817, eq816, kd818⟩ := rd_34000 ok544 kd24 ((zi903 : Int32).toNatClampNeg)
            refine p_aald (v := qa817) hx hb hK hw hW kd24 (by decide) rfl (by decide) (by decide) rfl (hW.len kd24 (n := 7) rfl (by decide)) (vp_b bd903 (by decide) (by decide)) eq816 dX4_extend_75 ?_
            refine kq_v hw hS hA (va_runV (As := [.ref qa817]) (rest := []) ⟨hx, hb, hml, hown, hT⟩ (cX7_copyMoment_0 l G cy ev K ln Ls hW _ hp542 ok544 qa31 qa817 kd32 kd818) (cwV 1 hT (good_V tb_1051 tb_1223 tb_1049 tb_1050 tb_115) rfl rfl rfl (by decide +kernel) ⟨Nat.le_of_ble_eq_true rfl, Nat.le_of_ble_eq_true rfl⟩) (pool_preV (ci := 7) hK hE hS hA hw hW kd32 (by decide) rfl) rfl rfl hl.1 rfl (lv_room (Nat.le_of_ble_eq_true rfl)) dX4_extend_76 ⟨Nat.le_of_ble_eq_true rfl, Nat.le_of_ble_eq_true rfl⟩) (fun hp819 H locs hq822 hw hS => ?_)
            obtain ⟨ok820, F821⟩ := hq822
            have hw : PW G cy K ln Ls A hp819 H := hw
            refine lv_aload hx hb dX4_extend_79 (lv_at hl 4 rfl) ?_
            refine lv_aload_n hx hb dX4_extend_81 rfl (lv_at hl 1 rfl) ?_
            refine lv_iload hx hb dX4_extend_82 (lv_at hl 5 rfl) ?_
            refine kq_i hw hS hA (va_runV (As := [.ref qa901, .int zi541]) (rest := []) ⟨hx, hb, hml, hown, hT⟩ (cX7_utter_0 l G cy ev K ln Ls hW _ hp819 ok820 qa31 qa901 zi541 kd32 kd901 (b_wid2 bd756 (by decide) (by decide))) (cwV 2 hT (good_V tb_1059 tb_1235 tb_1057 tb_1058 tb_115) rfl rfl rfl (by decide +kernel) ⟨Nat.le_of_ble_eq_true rfl, Nat.le_of_ble_eq_true rfl⟩) (pool_preV (ci := 7) hK hE hS hA hw hW kd32 (by decide) rfl) rfl rfl hl.1 rfl (lv_room (Nat.le_of_ble_eq_true rfl)) dX4_extend_84 ⟨Nat.le_of_ble_eq_true rfl, Nat.le_of_ble_eq_true rfl⟩) (fun zi828 hp824 H locs hq827 hw hS => ?_)
            obtain ⟨ok825, F826, bd829⟩ := hq827
            have hw : PW G cy K ln Ls A hp824 H := hw
            refine lv_pop hx hb dX4_extend_87 rfl ?_
            refine lv_aload_n hx hb dX4_extend_88 rfl (lv_at hl 0 rfl) ?_
            obtain ⟨qa831, eq830, kd832⟩ := rd_5001 ok825 kd900
            refine p_get (ci := 4) (v := .ref qa831) (C := RX4) (T := TX4) (N := 8) hx hb hT iw_X4 hown hK hw hW kd900 (by decide) rfl rfl 1 (by decide) eq830 (hT _ tb_556) (fun _ h9 => h9) dX4_extend_89 ?_
            refine lv_iload_n hx hb dX4_extend_92 rfl (lv_at hl 3 rfl) ?_
            refine lv_iload hx hb dX4_extend_93 (lv_at hl 5 rfl) ?_
            refine p_iast (x := zi541) hx hb hK hw hS hW kd832 (by decide) rfl (hW.len kd832 (n := 6) rfl (by decide)) (vp_b bd903 (by decide) (by decide)) dX4_extend_95 (fun hp833 eh834 H locs hw hS => ?_)
            have ok835 := wr_35000 ok825 kd832 eh834
            refine lv_aload_n hx hb dX4_extend_96 rfl (lv_at hl 0 rfl) ?_
            refine lv_aload_n hx hb dX4_extend_97 rfl (lv_at hl 1 rfl) ?_
            refine lv_iload_n hx hb dX4_extend_98 rfl (lv_at hl 2 rfl) ?_
            refine lv_iconst (v := 1) hx hb dX4_extend_99 (by decide) ?_
            refine lv_iload hx hb dX4_extend_100 (lv_at hl 5 rfl) ?_
            refine lv_ishl hx hb dX4_extend_102 (lv_topi (fun zi836 ea837 => ?_))
            have bd838 : (1 : Int) ≤ zi836.toInt ∧ zi836.toInt ≤ 32768 := b_shl1 15 ea837 bd756 (by decide) (by decide) (by decide) (by decide) (by decide)
            refine lv_iconst (v := (-1)) hx hb dX4_extend_103 (by decide) ?_
            refine lv_ixor hx hb dX4_extend_104 (lv_topi (fun zi839 ea840 => ?_))
            refine lv_iand hx hb dX4_extend_105 (lv_topi (fun zi841 ea842 => ?_))
            refine lv_iload_n hx hb dX4_extend_106 rfl (lv_at hl 3 rfl) ?_
            refine lv_iconst (v := 1) hx hb dX4_extend_107 (by decide) ?_
            refine lv_iadd hx hb dX4_extend_108 (lv_topi (fun zi843 ea844 => ?_))
            have bd845 : (1 : Int) ≤ zi843.toInt ∧ zi843.toInt ≤ 1 := b_iadd ea844 bd903 bc_1 (by decide) (by decide) (by decide) (by decide)
            have qe846 : zi843.toInt = (zi903 : Int32).toInt + (1 : Int32).toInt := e_iadd ea844 bd903 bc_1 (by decide) (by decide)
            have qe847 : zi843.toInt = zi903.toInt + 1 := by have ha : (1 : Int32).toInt = 1 := (by decide); rw [ha] at qe846; exact qe846
            refine kq_v hw hS hA (va_runV (As := [.ref qa901, .int zi841, .int zi843]) (rest := []) ⟨hx, hb, hml, hown, hT⟩ (cX4_extend_5 l G cy ev K ln Ls hW _ hp833 ok835 qa900 qa901 zi841 zi843 kd900 kd901 (b_wid2 bd845 (by decide) (by decide))) (cwV 3 hT (good_V tb_1227 tb_1224 tb_1226 tb_39 tb_119) rfl rfl rfl (by decide +kernel) ⟨Nat.le_of_ble_eq_true rfl, Nat.le_of_ble_eq_true rfl⟩) (pool_preV (ci := 4) hK hE hS hA hw hW kd900 (by decide) rfl) rfl rfl hl.1 rfl (lv_room (Nat.le_of_ble_eq_true rfl)) dX4_extend_109 ⟨Nat.le_of_ble_eq_true rfl, Nat.le_of_ble_eq_true rfl⟩) (fun hp848 H locs hq851 hw hS => ?_)
            obtain ⟨ok849, F850⟩ := hq851
            have hw : PW G cy K ln Ls A hp848 H := hw
            exact jn807 hp848 _ _ ls ok849 (Fr.tr (Fr.put (cq := 35000) (Fr.tr (Fr.tr (Fr.rf) F821 (by decide)) F826 (by decide)) eh834 kd832 (cd_a (by decide)) (by decide)) F850 (by decide)) (lv_sub hl [0, 1, 2, 3, 4, 5] rfl) hw hS
    exact lp750 _ hp0 0 _ _ ls (lp_in _) ok0 (Fr.rf) (b_wid2 bc_0 (by decide) (by decide)) (lv_sub hl [2, 3, 4, 5, 1, 0] rfl) hw hS

set_option maxRecDepth 100000 in
set_option maxHeartbeats 4000000 in
theorem cX4_find_0 (l : Launch) (G : va_G) (cy : Nat → ClassId) (ev : Ew) (K ln : Nat → Nat) (Ls : List Nat) (hW : SW K ln Ls) (sz : Nat) (hp0 : Nat → Nat → Value) (ok0 : Ok K hp0) (qa900 : Nat) (qa901 : Nat) (qa902 : Nat) (zi903 : Int32) (zi904 : Int32) (kd900 : K qa900 = 5) (kd901 : K qa901 = 11) (kd902 : K qa902 = 8) (bd904 : ((0 : Int) ≤ zi904.toInt ∧ zi904.toInt ≤ 1)) : Met l yX4_find (WS yX4_find cX4_find 5 none) { frames := 11, cells := 0, slots := 0, locals := 274 } (PB2 [.ref qa900, .ref qa901, .ref qa902, .int zi903, .int zi904] sz G cy ev (va_pl Ls (cellOf cy K ln hp0))) (QBv (S := (Nat → Nat → Value)) (fun u : (Nat → Nat → Value) => Ok K u ∧ Fr [3003, 3004, 5003, 5004, 5005, 5006, 5007, 8000, 8001, 8002, 8003, 8004, 8005, 8006, 8008, 27000, 35000, 36000, 40000, 41000, 42000] K hp0 u) G (fun u => va_pl Ls (cellOf cy K ln u)) (va_A (va_pl Ls (cellOf cy K ln hp0)) sz)) 0 0 (va_A (va_pl Ls (cellOf cy K ln hp0)) sz) := by
  refine met_of2 (y := yX4_find) (L := 5) (av := [.ref qa900, .ref qa901, .ref qa902, .int zi903, .int zi904]) (Qc := fun A => QBv (S := (Nat → Nat → Value)) (fun u : (Nat → Nat → Value) => Ok K u ∧ Fr [3003, 3004, 5003, 5004, 5005, 5006, 5007, 8000, 8001, 8002, 8003, 8004, 8005, 8006, 8008, 27000, 35000, 36000, 40000, 41000, 42000] K hp0 u) G (fun u => va_pl Ls (cellOf cy K ln u)) A) (plainFor_of_name (by decide)) (Nat.le_of_ble_eq_true rfl) ?_
  intro p e s m below meth c hsz hx hb hr hml hown hT hlocks hin hK A hA hE hw hS ls hl
  have hw : PW G cy K ln Ls A hp0 s.heap := hw
  have hown : s.vm.findClass "LieClock$Orders" = some m.cls := hown
  have hl : lv_has ls 5 [(0, .ref qa900), (1, .ref qa901), (2, .ref qa902), (3, .int zi903), (4, .int zi904)] := hl
  obtain ⟨Q, hQ⟩ : ∃ Q : State → Prop, Q = MQ below (QBv (S := (Nat → Nat → Value)) (fun u : (Nat → Nat → Value) => Ok K u ∧ Fr [3003, 3004, 5003, 5004, 5005, 5006, 5007, 8000, 8001, 8002, 8003, 8004, 8005, 8006, 8008, 27000, 35000, 36000, 40000, 41000, 42000] K hp0 u) G (fun u => va_pl Ls (cellOf cy K ln u)) A) ([.ref qa900, .ref qa901, .ref qa902, .int zi903, .int zi904] : List Value).toArray s 0 0 A := ⟨_, rfl⟩
  rw [← hQ]
  refine lv_aload_n hx hb dX4_find_0 rfl (lv_at hl 0 rfl) ?_
  obtain ⟨zi2, eq1, bd3⟩ := rd_5005 ok0 kd900
  refine p_get (ci := 4) (v := .int zi2) (C := RX4) (T := TX4) (N := 8) hx hb hT iw_X4 hown hK hw hW kd900 (by decide) rfl rfl 5 (by decide) eq1 (hT _ tb_562) (fun _ h9 => h9) dX4_find_1 ?_
  refine lv_if_eq (tgt := 25) hx hb dX4_find_4 (by decide) (fun cn4 => ?_) (fun cn4 => ?_)
  · skip
    have bd5 : (0 : Int) ≤ zi2.toInt ∧ zi2.toInt ≤ 0 := r_eq_x cn4 bd3 bc_0 (by decide) (by decide)
    refine lv_aload_n hx hb dX4_find_25 rfl (lv_at hl 0 rfl) ?_
    refine lv_iconst (v := 1) hx hb dX4_find_26 (by decide) ?_
    refine p_put (ci := 4) (v := .int 1) (ty := .boolean) (C := RX4) (T := TX4) (N := 8) hx hb hT iw_X4 tyX4 tyX4_ok nmX4 hown hK hw hS hW kd900 (by decide) rfl rfl 5 (by decide) (hT _ tb_562) (fun _ h9 => h9) rfl (by decide +kernel) (nz_n bc_1 (by decide) (by decide)) (nz_f bc_1 (by decide) (by decide)) dX4_find_27 (fun hp6 eh7 H locs hw hS => ?_)
    have ok8 := wr_5005 bc_1 (by decide) (by decide) ok0 kd900 eh7
    refine lv_aload_n hx hb dX4_find_30 rfl (lv_at hl 0 rfl) ?_
    refine lv_iload_n hx hb dX4_find_31 rfl (lv_at hl 3 rfl) ?_
    refine p_put (ci := 4) (v := .int zi903) (ty := .int) (C := RX4) (T := TX4) (N := 8) hx hb hT iw_X4 tyX4 tyX4_ok nmX4 hown hK hw hS hW kd900 (by decide) rfl rfl 6 (by decide) (hT _ tb_564) (fun _ h9 => h9) rfl (by decide +kernel) rfl rfl dX4_find_32 (fun hp9 eh10 H locs hw hS => ?_)
    have ok11 := wr_5006 ok8 kd900 eh10
    refine lv_aload_n hx hb dX4_find_35 rfl (lv_at hl 0 rfl) ?_
    refine lv_iload hx hb dX4_find_36 (lv_at hl 4 rfl) ?_
    refine p_put (ci := 4) (v := .int zi904) (ty := .boolean) (C := RX4) (T := TX4) (N := 8) hx hb hT iw_X4 tyX4 tyX4_ok nmX4 hown hK hw hS hW kd900 (by decide) rfl rfl 7 (by decide) (hT _ tb_565) (fun _ h9 => h9) rfl (by decide +kernel) (nz_n bd904 (by decide) (by decide)) (nz_f bd904 (by decide) (by decide)) dX4_find_38 (fun hp12 eh13 H locs hw hS => ?_)
    have ok14 := wr_5007 bd904 (by decide) (by decide) ok11 kd900 eh13
    refine lv_aload_n hx hb dX4_find_41 rfl (lv_at hl 0 rfl) ?_
    refine lv_iconst (v := 0) hx hb dX4_find_42 (by decide) ?_
    refine p_put (ci := 4) (v := .int 0) (ty := .boolean) (C := RX4) (T := TX4) (N := 8) hx hb hT iw_X4 tyX4 tyX4_ok nmX4 hown hK hw hS hW kd900 (by decide) rfl rfl 4 (by decide) (hT _ tb_561) (fun _ h9 => h9) rfl (by decide +kernel) (nz_n bc_0 (by decide) (by decide)) (nz_f bc_0 (by decide) (by decide)) dX4_find_43 (fun hp15 eh16 H locs hw hS => ?_)
    have ok17 := wr_5004 bc_0 (by decide) (by decide) ok14 kd900 eh16
    refine lv_aload_n hx hb dX4_find_46 rfl (lv_at hl 0 rfl) ?_
    obtain ⟨qa19, eq18, kd20⟩ := rd_5000 ok17 kd900
    refine p_get (ci := 4) (v := .ref qa19) (C := RX4) (T := TX4) (N := 8) hx hb hT iw_X4 hown hK hw hW kd900 (by decide) rfl rfl 0 (by decide) eq18 (hT _ tb_555) (fun _ h9 => h9) dX4_find_47 ?_
    refine lv_iconst (v := 0) hx hb dX4_find_50 (by decide) ?_
    obtain ⟨qa22, eq21, kd23⟩ := rd_34000 ok17 kd20 ((0 : Int32).toNatClampNeg)
    refine p_aald (v := qa22) hx hb hK hw hW kd20 (by decide) rfl (by decide) (by decide) rfl (hW.len kd20 (n := 7) rfl (by decide)) (vp_b bc_0 (by decide) (by decide)) eq21 dX4_find_51 ?_
    refine lv_aload_n hx hb dX4_find_52 rfl (lv_at hl 2 rfl) ?_
    refine kq_v hw hS hA (va_runV (As := [.ref qa902]) (rest := []) ⟨hx, hb, hml, hown, hT⟩ (cX7_copyMoment_0 l G cy ev K ln Ls hW _ hp15 ok17 qa22 qa902 kd23 kd902) (cwV 1 hT (good_V tb_1051 tb_1223 tb_1049 tb_1050 tb_115) rfl rfl rfl (by decide +kernel) ⟨Nat.le_of_ble_eq_true rfl, Nat.le_of_ble_eq_true rfl⟩) (pool_preV (ci := 7) hK hE hS hA hw hW kd23 (by decide) rfl) rfl rfl hl.1 rfl (lv_room (Nat.le_of_ble_eq_true rfl)) dX4_find_53 ⟨Nat.le_of_ble_eq_true rfl, Nat.le_of_ble_eq_true rfl⟩) (fun hp24 H locs hq27 hw hS => ?_)
    obtain ⟨ok25, F26⟩ := hq27
    have hw : PW G cy K ln Ls A hp24 H := hw
    refine lv_aload_n hx hb dX4_find_56 rfl (lv_at hl 0 rfl) ?_
    refine lv_aload_n hx hb dX4_find_57 rfl (lv_at hl 1 rfl) ?_
    refine lv_iload_n hx hb dX4_find_58 rfl (lv_at hl 3 rfl) ?_
    refine lv_iconst (v := 0) hx hb dX4_find_59 (by decide) ?_
    refine kq_v hw hS hA (va_runV (As := [.ref qa901, .int zi903, .int 0]) (rest := []) ⟨hx, hb, hml, hown, hT⟩ (cX4_extend_6 l G cy ev K ln Ls hW _ hp24 ok25 qa900 qa901 zi903 0 kd900 kd901 (b_wid2 bc_0 (by decide) (by decide))) (cwV 3 hT (good_V tb_1227 tb_1224 tb_1226 tb_39 tb_119) rfl rfl rfl (by decide +kernel) ⟨Nat.le_of_ble_eq_true rfl, Nat.le_of_ble_eq_true rfl⟩) (pool_preV (ci := 4) hK hE hS hA hw hW kd900 (by decide) rfl) rfl rfl hl.1 rfl (lv_room (Nat.le_of_ble_eq_true rfl)) dX4_find_60 ⟨Nat.le_of_ble_eq_true rfl, Nat.le_of_ble_eq_true rfl⟩) (fun hp29 H locs hq32 hw hS => ?_)
    obtain ⟨ok30, F31⟩ := hq32
    have hw : PW G cy K ln Ls A hp29 H := hw
    rw [hQ]
    exact kz_v hx hb hr hlocks hS hp29 hw ⟨ok30, (Fr.tr (Fr.tr (Fr.put (cq := 5004) (Fr.put (cq := 5007) (Fr.put (cq := 5006) (Fr.put (cq := 5005) (Fr.rf) eh7 kd900 (cd_o (by decide)) (by decide)) eh10 kd900 (cd_o (by decide)) (by decide)) eh13 kd900 (cd_o (by decide)) (by decide)) eh16 kd900 (cd_o (by decide)) (by decide)) F26 (by decide)) F31 (by decide))⟩ (Nat.le_of_ble_eq_true rfl) (Nat.le_of_ble_eq_true rfl) dX4_find_63
  · skip
    have bd34 : (1 : Int) ≤ zi2.toInt ∧ zi2.toInt ≤ 1 := r_ne_lo cn4 bd3 (toi bc_0) (by decide) (by decide)
    refine lv_aload_n hx hb dX4_find_7 rfl (lv_at hl 0 rfl) ?_
    obtain ⟨zi36, eq35⟩ := rd_5006 ok0 kd900
    refine p_get (ci := 4) (v := .int zi36) (C := RX4) (T := TX4) (N := 8) hx hb hT iw_X4 hown hK hw hW kd900 (by decide) rfl rfl 6 (by decide) eq35 (hT _ tb_564) (fun _ h9 => h9) dX4_find_8 ?_
    refine lv_iload_n hx hb dX4_find_11 rfl (lv_at hl 3 rfl) ?_
    refine lv_icmp_ne (tgt := 25) hx hb dX4_find_12 (by decide) (fun cn37 => ?_) (fun cn37 => ?_)
    · skip
      refine lv_aload_n hx hb dX4_find_25 rfl (lv_at hl 0 rfl) ?_
      refine lv_iconst (v := 1) hx hb dX4_find_26 (by decide) ?_
      refine p_put (ci := 4) (v := .int 1) (ty := .boolean) (C := RX4) (T := TX4) (N := 8) hx hb hT iw_X4 tyX4 tyX4_ok nmX4 hown hK hw hS hW kd900 (by decide) rfl rfl 5 (by decide) (hT _ tb_562) (fun _ h9 => h9) rfl (by decide +kernel) (nz_n bc_1 (by decide) (by decide)) (nz_f bc_1 (by decide) (by decide)) dX4_find_27 (fun hp38 eh39 H locs hw hS => ?_)
      have ok40 := wr_5005 bc_1 (by decide) (by decide) ok0 kd900 eh39
      refine lv_aload_n hx hb dX4_find_30 rfl (lv_at hl 0 rfl) ?_
      refine lv_iload_n hx hb dX4_find_31 rfl (lv_at hl 3 rfl) ?_
      refine p_put (ci := 4) (v := .int zi903) (ty := .int) (C := RX4) (T := TX4) (N := 8) hx hb hT iw_X4 tyX4 tyX4_ok nmX4 hown hK hw hS hW kd900 (by decide) rfl rfl 6 (by decide) (hT _ tb_564) (fun _ h9 => h9) rfl (by decide +kernel) rfl rfl dX4_find_32 (fun hp41 eh42 H locs hw hS => ?_)
      have ok43 := wr_5006 ok40 kd900 eh42
      refine lv_aload_n hx hb dX4_find_35 rfl (lv_at hl 0 rfl) ?_
      refine lv_iload hx hb dX4_find_36 (lv_at hl 4 rfl) ?_
      refine p_put (ci := 4) (v := .int zi904) (ty := .boolean) (C := RX4) (T := TX4) (N := 8) hx hb hT iw_X4 tyX4 tyX4_ok nmX4 hown hK hw hS hW kd900 (by decide) rfl rfl 7 (by decide) (hT _ tb_565) (fun _ h9 => h9) rfl (by decide +kernel) (nz_n bd904 (by decide) (by decide)) (nz_f bd904 (by decide) (by decide)) dX4_find_38 (fun hp44 eh45 H locs hw hS => ?_)
      have ok46 := wr_5007 bd904 (by decide) (by decide) ok43 kd900 eh45
      refine lv_aload_n hx hb dX4_find_41 rfl (lv_at hl 0 rfl) ?_
      refine lv_iconst (v := 0) hx hb dX4_find_42 (by decide) ?_
      refine p_put (ci := 4) (v := .int 0) (ty := .boolean) (C := RX4) (T := TX4) (N := 8) hx hb hT iw_X4 tyX4 tyX4_ok nmX4 hown hK hw hS hW kd900 (by decide) rfl rfl 4 (by decide) (hT _ tb_561) (fun _ h9 => h9) rfl (by decide +kernel) (nz_n bc_0 (by decide) (by decide)) (nz_f bc_0 (by decide) (by decide)) dX4_find_43 (fun hp47 eh48 H locs hw hS => ?_)
      have ok49 := wr_5004 bc_0 (by decide) (by decide) ok46 kd900 eh48
      refine lv_aload_n hx hb dX4_find_46 rfl (lv_at hl 0 rfl) ?_
      obtain ⟨qa51, eq50, kd52⟩ := rd_5000 ok49 kd900
      refine p_get (ci := 4) (v := .ref qa51) (C := RX4) (T := TX4) (N := 8) hx hb hT iw_X4 hown hK hw hW kd900 (by decide) rfl rfl 0 (by decide) eq50 (hT _ tb_555) (fun _ h9 => h9) dX4_find_47 ?_
      refine lv_iconst (v := 0) hx hb dX4_find_50 (by decide) ?_
      obtain ⟨qa54, eq53, kd55⟩ := rd_34000 ok49 kd52 ((0 : Int32).toNatClampNeg)
      refine p_aald (v := qa54) hx hb hK hw hW kd52 (by decide) rfl (by decide) (by decide) rfl (hW.len kd52 (n := 7) rfl (by decide)) (vp_b bc_0 (by decide) (by decide)) eq53 dX4_find_51 ?_
      refine lv_aload_n hx hb dX4_find_52 rfl (lv_at hl 2 rfl) ?_
      refine kq_v hw hS hA (va_runV (As := [.ref qa902]) (rest := []) ⟨hx, hb, hml, hown, hT⟩ (cX7_copyMoment_0 l G cy ev K ln Ls hW _ hp47 ok49 qa54 qa902 kd55 kd902) (cwV 1 hT (good_V tb_1051 tb_1223 tb_1049 tb_1050 tb_115) rfl rfl rfl (by decide +kernel) ⟨Nat.le_of_ble_eq_true rfl, Nat.le_of_ble_eq_true rfl⟩) (pool_preV (ci := 7) hK hE hS hA hw hW kd55 (by decide) rfl) rfl rfl hl.1 rfl (lv_room (Nat.le_of_ble_eq_true rfl)) dX4_find_53 ⟨Nat.le_of_ble_eq_true rfl, Nat.le_of_ble_eq_true rfl⟩) (fun hp56 H locs hq59 hw hS => ?_)
      obtain ⟨ok57, F58⟩ := hq59
      have hw : PW G cy K ln Ls A hp56 H := hw
      refine lv_aload_n hx hb dX4_find_56 rfl (lv_at hl 0 rfl) ?_
      refine lv_aload_n hx hb dX4_find_57 rfl (lv_at hl 1 rfl) ?_
      refine lv_iload_n hx hb dX4_find_58 rfl (lv_at hl 3 rfl) ?_
      refine lv_iconst (v := 0) hx hb dX4_find_59 (by decide) ?_
      refine kq_v hw hS hA (va_runV (As := [.ref qa901, .int zi903, .int 0]) (rest := []) ⟨hx, hb, hml, hown, hT⟩ (cX4_extend_6 l G cy ev K ln Ls hW _ hp56 ok57 qa900 qa901 zi903 0 kd900 kd901 (b_wid2 bc_0 (by decide) (by decide))) (cwV 3 hT (good_V tb_1227 tb_1224 tb_1226 tb_39 tb_119) rfl rfl rfl (by decide +kernel) ⟨Nat.le_of_ble_eq_true rfl, Nat.le_of_ble_eq_true rfl⟩) (pool_preV (ci := 4) hK hE hS hA hw hW kd900 (by decide) rfl) rfl rfl hl.1 rfl (lv_room (Nat.le_of_ble_eq_true rfl)) dX4_find_60 ⟨Nat.le_of_ble_eq_true rfl, Nat.le_of_ble_eq_true rfl⟩) (fun hp61 H locs hq64 hw hS => ?_)
      obtain ⟨ok62, F63⟩ := hq64
      have hw : PW G cy K ln Ls A hp61 H := hw
      rw [hQ]
      exact kz_v hx hb hr hlocks hS hp61 hw ⟨ok62, (Fr.tr (Fr.tr (Fr.put (cq := 5004) (Fr.put (cq := 5007) (Fr.put (cq := 5006) (Fr.put (cq := 5005) (Fr.rf) eh39 kd900 (cd_o (by decide)) (by decide)) eh42 kd900 (cd_o (by decide)) (by decide)) eh45 kd900 (cd_o (by decide)) (by decide)) eh48 kd900 (cd_o (by decide)) (by decide)) F58 (by decide)) F63 (by decide))⟩ (Nat.le_of_ble_eq_true rfl) (Nat.le_of_ble_eq_true rfl) dX4_find_63
    · skip
      refine lv_aload_n hx hb dX4_find_15 rfl (lv_at hl 0 rfl) ?_
      obtain ⟨zi67, eq66, bd68⟩ := rd_5007 ok0 kd900
      refine p_get (ci := 4) (v := .int zi67) (C := RX4) (T := TX4) (N := 8) hx hb hT iw_X4 hown hK hw hW kd900 (by decide) rfl rfl 7 (by decide) eq66 (hT _ tb_565) (fun _ h9 => h9) dX4_find_16 ?_
      refine lv_iload hx hb dX4_find_19 (lv_at hl 4 rfl) ?_
      refine lv_icmp_ne (tgt := 25) hx hb dX4_find_21 (by decide) (fun cn69 => ?_) (fun cn69 => ?_)
      · skip
        refine lv_aload_n hx hb dX4_find_25 rfl (lv_at hl 0 rfl) ?_
        refine lv_iconst (v := 1) hx hb dX4_find_26 (by decide) ?_
        refine p_put (ci := 4) (v := .int 1) (ty := .boolean) (C := RX4) (T := TX4) (N := 8) hx hb hT iw_X4 tyX4 tyX4_ok nmX4 hown hK hw hS hW kd900 (by decide) rfl rfl 5 (by decide) (hT _ tb_562) (fun _ h9 => h9) rfl (by decide +kernel) (nz_n bc_1 (by decide) (by decide)) (nz_f bc_1 (by decide) (by decide)) dX4_find_27 (fun hp70 eh71 H locs hw hS => ?_)
        have ok72 := wr_5005 bc_1 (by decide) (by decide) ok0 kd900 eh71
        refine lv_aload_n hx hb dX4_find_30 rfl (lv_at hl 0 rfl) ?_
        refine lv_iload_n hx hb dX4_find_31 rfl (lv_at hl 3 rfl) ?_
        refine p_put (ci := 4) (v := .int zi903) (ty := .int) (C := RX4) (T := TX4) (N := 8) hx hb hT iw_X4 tyX4 tyX4_ok nmX4 hown hK hw hS hW kd900 (by decide) rfl rfl 6 (by decide) (hT _ tb_564) (fun _ h9 => h9) rfl (by decide +kernel) rfl rfl dX4_find_32 (fun hp73 eh74 H locs hw hS => ?_)
        have ok75 := wr_5006 ok72 kd900 eh74
        refine lv_aload_n hx hb dX4_find_35 rfl (lv_at hl 0 rfl) ?_
        refine lv_iload hx hb dX4_find_36 (lv_at hl 4 rfl) ?_
        refine p_put (ci := 4) (v := .int zi904) (ty := .boolean) (C := RX4) (T := TX4) (N := 8) hx hb hT iw_X4 tyX4 tyX4_ok nmX4 hown hK hw hS hW kd900 (by decide) rfl rfl 7 (by decide) (hT _ tb_565) (fun _ h9 => h9) rfl (by decide +kernel) (nz_n bd904 (by decide) (by decide)) (nz_f bd904 (by decide) (by decide)) dX4_find_38 (fun hp76 eh77 H locs hw hS => ?_)
        have ok78 := wr_5007 bd904 (by decide) (by decide) ok75 kd900 eh77
        refine lv_aload_n hx hb dX4_find_41 rfl (lv_at hl 0 rfl) ?_
        refine lv_iconst (v := 0) hx hb dX4_find_42 (by decide) ?_
        refine p_put (ci := 4) (v := .int 0) (ty := .boolean) (C := RX4) (T := TX4) (N := 8) hx hb hT iw_X4 tyX4 tyX4_ok nmX4 hown hK hw hS hW kd900 (by decide) rfl rfl 4 (by decide) (hT _ tb_561) (fun _ h9 => h9) rfl (by decide +kernel) (nz_n bc_0 (by decide) (by decide)) (nz_f bc_0 (by decide) (by decide)) dX4_find_43 (fun hp79 eh80 H locs hw hS => ?_)
        have ok81 := wr_5004 bc_0 (by decide) (by decide) ok78 kd900 eh80
        refine lv_aload_n hx hb dX4_find_46 rfl (lv_at hl 0 rfl) ?_
        obtain ⟨qa83, eq82, kd84⟩ := rd_5000 ok81 kd900
        refine p_get (ci := 4) (v := .ref qa83) (C := RX4) (T := TX4) (N := 8) hx hb hT iw_X4 hown hK hw hW kd900 (by decide) rfl rfl 0 (by decide) eq82 (hT _ tb_555) (fun _ h9 => h9) dX4_find_47 ?_
        refine lv_iconst (v := 0) hx hb dX4_find_50 (by decide) ?_
        obtain ⟨qa86, eq85, kd87⟩ := rd_34000 ok81 kd84 ((0 : Int32).toNatClampNeg)
        refine p_aald (v := qa86) hx hb hK hw hW kd84 (by decide) rfl (by decide) (by decide) rfl (hW.len kd84 (n := 7) rfl (by decide)) (vp_b bc_0 (by decide) (by decide)) eq85 dX4_find_51 ?_
        refine lv_aload_n hx hb dX4_find_52 rfl (lv_at hl 2 rfl) ?_
        refine kq_v hw hS hA (va_runV (As := [.ref qa902]) (rest := []) ⟨hx, hb, hml, hown, hT⟩ (cX7_copyMoment_0 l G cy ev K ln Ls hW _ hp79 ok81 qa86 qa902 kd87 kd902) (cwV 1 hT (good_V tb_1051 tb_1223 tb_1049 tb_1050 tb_115) rfl rfl rfl (by decide +kernel) ⟨Nat.le_of_ble_eq_true rfl, Nat.le_of_ble_eq_true rfl⟩) (pool_preV (ci := 7) hK hE hS hA hw hW kd87 (by decide) rfl) rfl rfl hl.1 rfl (lv_room (Nat.le_of_ble_eq_true rfl)) dX4_find_53 ⟨Nat.le_of_ble_eq_true rfl, Nat.le_of_ble_eq_true rfl⟩) (fun hp88 H locs hq91 hw hS => ?_)
        obtain ⟨ok89, F90⟩ := hq91
        have hw : PW G cy K ln Ls A hp88 H := hw
        refine lv_aload_n hx hb dX4_find_56 rfl (lv_at hl 0 rfl) ?_
        refine lv_aload_n hx hb dX4_find_57 rfl (lv_at hl 1 rfl) ?_
        refine lv_iload_n hx hb dX4_find_58 rfl (lv_at hl 3 rfl) ?_
        refine lv_iconst (v := 0) hx hb dX4_find_59 (by decide) ?_
        refine kq_v hw hS hA (va_runV (As := [.ref qa901, .int zi903, .int 0]) (rest := []) ⟨hx, hb, hml, hown, hT⟩ (cX4_extend_6 l G cy ev K ln Ls hW _ hp88 ok89 qa900 qa901 zi903 0 kd900 kd901 (b_wid2 bc_0 (by decide) (by decide))) (cwV 3 hT (good_V tb_1227 tb_1224 tb_1226 tb_39 tb_119) rfl rfl rfl (by decide +kernel) ⟨Nat.le_of_ble_eq_true rfl, Nat.le_of_ble_eq_true rfl⟩) (pool_preV (ci := 4) hK hE hS hA hw hW kd900 (by decide) rfl) rfl rfl hl.1 rfl (lv_room (Nat.le_of_ble_eq_true rfl)) dX4_find_60 ⟨Nat.le_of_ble_eq_true rfl, Nat.le_of_ble_eq_true rfl⟩) (fun hp93 H locs hq96 hw hS => ?_)
        obtain ⟨ok94, F95⟩ := hq96
        have hw : PW G cy K ln Ls A hp93 H := hw
        rw [hQ]
        exact kz_v hx hb hr hlocks hS hp93 hw ⟨ok94, (Fr.tr (Fr.tr (Fr.put (cq := 5004) (Fr.put (cq := 5007) (Fr.put (cq := 5006) (Fr.put (cq := 5005) (Fr.rf) eh71 kd900 (cd_o (by decide)) (by decide)) eh74 kd900 (cd_o (by decide)) (by decide)) eh77 kd900 (cd_o (by decide)) (by decide)) eh80 kd900 (cd_o (by decide)) (by decide)) F90 (by decide)) F95 (by decide))⟩ (Nat.le_of_ble_eq_true rfl) (Nat.le_of_ble_eq_true rfl) dX4_find_63
      · skip
        rw [hQ]
        exact kz_v hx hb hr hlocks hS hp0 hw ⟨ok0, (Fr.rf)⟩ (Nat.le_of_ble_eq_true rfl) (Nat.le_of_ble_eq_true rfl) dX4_find_24

set_option maxRecDepth 100000 in
set_option maxHeartbeats 4000000 in
theorem cX4_avoids_0 (l : Launch) (G : va_G) (cy : Nat → ClassId) (ev : Ew) (K ln : Nat → Nat) (Ls : List Nat) (hW : SW K ln Ls) (sz : Nat) (hp0 : Nat → Nat → Value) (ok0 : Ok K hp0) (qa900 : Nat) (qa901 : Nat) (zi902 : Int32) (zi903 : Int32) (zi904 : Int32) (kd900 : K qa900 = 5) (kd901 : K qa901 = 11) (bd904 : ((6 : Int) ≤ zi904.toInt ∧ zi904.toInt ≤ 6)) : Met l yX4_avoids (WS yX4_avoids cX4_avoids 7 (some .boolean)) { frames := 0, cells := 0, slots := 0, locals := 0 } (PB2 [.ref qa900, .ref qa901, .int zi902, .int zi903, .int zi904] sz G cy ev (va_pl Ls (cellOf cy K ln hp0))) (QBi (S := (Nat → Nat → Value)) (fun (r : Int32) (u : (Nat → Nat → Value)) => Ok K u ∧ Fr [] K hp0 u ∧ ((1 : Int) ≤ r.toInt ∧ r.toInt ≤ 1)) G (fun u => va_pl Ls (cellOf cy K ln u)) (va_A (va_pl Ls (cellOf cy K ln hp0)) sz)) 0 0 (va_A (va_pl Ls (cellOf cy K ln hp0)) sz) := by
  refine met_of2 (y := yX4_avoids) (L := 7) (av := [.ref qa900, .ref qa901, .int zi902, .int zi903, .int zi904]) (Qc := fun A => QBi (S := (Nat → Nat → Value)) (fun (r : Int32) (u : (Nat → Nat → Value)) => Ok K u ∧ Fr [] K hp0 u ∧ ((1 : Int) ≤ r.toInt ∧ r.toInt ≤ 1)) G (fun u => va_pl Ls (cellOf cy K ln u)) A) (plainFor_of_name (by decide)) (Nat.le_of_ble_eq_true rfl) ?_
  intro p e s m below meth c hsz hx hb hr hml hown hT hlocks hin hK A hA hE hw hS ls hl
  have hw : PW G cy K ln Ls A hp0 s.heap := hw
  have hown : s.vm.findClass "LieClock$Orders" = some m.cls := hown
  have hl : lv_has ls 7 [(0, .ref qa900), (1, .ref qa901), (2, .int zi902), (3, .int zi903), (4, .int zi904)] := hl
  obtain ⟨Q, hQ⟩ : ∃ Q : State → Prop, Q = MQ below (QBi (S := (Nat → Nat → Value)) (fun (r : Int32) (u : (Nat → Nat → Value)) => Ok K u ∧ Fr [] K hp0 u ∧ ((1 : Int) ≤ r.toInt ∧ r.toInt ≤ 1)) G (fun u => va_pl Ls (cellOf cy K ln u)) A) ([.ref qa900, .ref qa901, .int zi902, .int zi903, .int zi904] : List Value).toArray s 0 0 A := ⟨_, rfl⟩
  rw [← hQ]
  refine lv_iload_n hx hb dX4_avoids_0 rfl (lv_at hl 2 rfl) ?_
  refine lv_if_eq (tgt := 16) hx hb dX4_avoids_1 (by decide) (fun cn1 => ?_) (fun cn1 => ?_)
  · skip
    have bd2 : (0 : Int) ≤ zi902.toInt ∧ zi902.toInt ≤ 0 := r_eq_x cn1 (b_all zi902) bc_0 (by decide) (by decide)
    refine lv_iconst (v := 1) hx hb dX4_avoids_16 (by decide) ?_
    rw [hQ]
    exact kz_i hx hb hr hlocks hS (nz_n bc_1 (by decide) (by decide)) hp0 hw ⟨ok0, (Fr.rf), (b_wid2 bc_1 (by decide) (by decide))⟩ (Nat.le_of_ble_eq_true rfl) (Nat.le_of_ble_eq_true rfl) dX4_avoids_17
  · skip
    refine lv_iload hx hb dX4_avoids_4 (lv_at hl 4 rfl) ?_
    refine lv_if_lt (tgt := 16) hx hb dX4_avoids_6 (by decide) (fun c => absurd c (d_nlt bd904 bc_0 (by decide))) (fun _ => ?_)
    refine lv_iload hx hb dX4_avoids_9 (lv_at hl 4 rfl) ?_
    refine lv_bipush (v := 6) hx hb dX4_avoids_11 (by decide) ?_
    refine lv_icmp_lt (tgt := 18) hx hb dX4_avoids_13 (by decide) (fun c => absurd c (d_nlt bd904 bc_6 (by decide))) (fun _ => ?_)
    refine lv_iconst (v := 1) hx hb dX4_avoids_16 (by decide) ?_
    rw [hQ]
    exact kz_i hx hb hr hlocks hS (nz_n bc_1 (by decide) (by decide)) hp0 hw ⟨ok0, (Fr.rf), (b_wid2 bc_1 (by decide) (by decide))⟩ (Nat.le_of_ble_eq_true rfl) (Nat.le_of_ble_eq_true rfl) dX4_avoids_17

set_option maxRecDepth 100000 in
set_option maxHeartbeats 4000000 in
theorem cX4_avoids_1 (l : Launch) (G : va_G) (cy : Nat → ClassId) (ev : Ew) (K ln : Nat → Nat) (Ls : List Nat) (hW : SW K ln Ls) (sz : Nat) (hp0 : Nat → Nat → Value) (ok0 : Ok K hp0) (qa900 : Nat) (qa901 : Nat) (zi902 : Int32) (zi903 : Int32) (zi904 : Int32) (kd900 : K qa900 = 5) (kd901 : K qa901 = 11) (bd904 : ((5 : Int) ≤ zi904.toInt ∧ zi904.toInt ≤ 5)) : Met l yX4_avoids (WS yX4_avoids cX4_avoids 7 (some .boolean)) { frames := 5, cells := 0, slots := 0, locals := 124 } (PB2 [.ref qa900, .ref qa901, .int zi902, .int zi903, .int zi904] sz G cy ev (va_pl Ls (cellOf cy K ln hp0))) (QBi (S := (Nat → Nat → Value)) (fun (r : Int32) (u : (Nat → Nat → Value)) => Ok K u ∧ Fr [3003, 3004, 8000, 8001, 8002, 8003, 8004, 8005, 8006, 8007, 8008, 27000, 40000, 41000, 42000] K hp0 u ∧ ((0 : Int) ≤ r.toInt ∧ r.toInt ≤ 1)) G (fun u => va_pl Ls (cellOf cy K ln u)) (va_A (va_pl Ls (cellOf cy K ln hp0)) sz)) 0 0 (va_A (va_pl Ls (cellOf cy K ln hp0)) sz) := by
  refine met_of2 (y := yX4_avoids) (L := 7) (av := [.ref qa900, .ref qa901, .int zi902, .int zi903, .int zi904]) (Qc := fun A => QBi (S := (Nat → Nat → Value)) (fun (r : Int32) (u : (Nat → Nat → Value)) => Ok K u ∧ Fr [3003, 3004, 8000, 8001, 8002, 8003, 8004, 8005, 8006, 8007, 8008, 27000, 40000, 41000, 42000] K hp0 u ∧ ((0 : Int) ≤ r.toInt ∧ r.toInt ≤ 1)) G (fun u => va_pl Ls (cellOf cy K ln u)) A) (plainFor_of_name (by decide)) (Nat.le_of_ble_eq_true rfl) ?_
  intro p e s m below meth c hsz hx hb hr hml hown hT hlocks hin hK A hA hE hw hS ls hl
  have hw : PW G cy K ln Ls A hp0 s.heap := hw
  have hown : s.vm.findClass "LieClock$Orders" = some m.cls := hown
  have hl : lv_has ls 7 [(0, .ref qa900), (1, .ref qa901), (2, .int zi902), (3, .int zi903), (4, .int zi904)] := hl
  obtain ⟨Q, hQ⟩ : ∃ Q : State → Prop, Q = MQ below (QBi (S := (Nat → Nat → Value)) (fun (r : Int32) (u : (Nat → Nat → Value)) => Ok K u ∧ Fr [3003, 3004, 8000, 8001, 8002, 8003, 8004, 8005, 8006, 8007, 8008, 27000, 40000, 41000, 42000] K hp0 u ∧ ((0 : Int) ≤ r.toInt ∧ r.toInt ≤ 1)) G (fun u => va_pl Ls (cellOf cy K ln u)) A) ([.ref qa900, .ref qa901, .int zi902, .int zi903, .int zi904] : List Value).toArray s 0 0 A := ⟨_, rfl⟩
  rw [← hQ]
  refine lv_iload_n hx hb dX4_avoids_0 rfl (lv_at hl 2 rfl) ?_
  refine lv_if_eq (tgt := 16) hx hb dX4_avoids_1 (by decide) (fun cn1 => ?_) (fun cn1 => ?_)
  · skip
    have bd2 : (0 : Int) ≤ zi902.toInt ∧ zi902.toInt ≤ 0 := r_eq_x cn1 (b_all zi902) bc_0 (by decide) (by decide)
    refine lv_iconst (v := 1) hx hb dX4_avoids_16 (by decide) ?_
    rw [hQ]
    exact kz_i hx hb hr hlocks hS (nz_n bc_1 (by decide) (by decide)) hp0 hw ⟨ok0, (Fr.rf), (b_wid2 bc_1 (by decide) (by decide))⟩ (Nat.le_of_ble_eq_true rfl) (Nat.le_of_ble_eq_true rfl) dX4_avoids_17
  · skip
    refine lv_iload hx hb dX4_avoids_4 (lv_at hl 4 rfl) ?_
    refine lv_if_lt (tgt := 16) hx hb dX4_avoids_6 (by decide) (fun c => absurd c (d_nlt bd904 bc_0 (by decide))) (fun _ => ?_)
    refine lv_iload hx hb dX4_avoids_9 (lv_at hl 4 rfl) ?_
    refine lv_bipush (v := 6) hx hb dX4_avoids_11 (by decide) ?_
    refine lv_icmp_lt (tgt := 18) hx hb dX4_avoids_13 (by decide) (fun _ => ?_) (fun c => absurd (d_lt bd904 bc_6 (by decide)) c)
    refine lv_aload_n hx hb dX4_avoids_18 rfl (lv_at hl 0 rfl) ?_
    obtain ⟨qa4, eq3, kd5⟩ := rd_5000 ok0 kd900
    refine p_get (ci := 4) (v := .ref qa4) (C := RX4) (T := TX4) (N := 8) hx hb hT iw_X4 hown hK hw hW kd900 (by decide) rfl rfl 0 (by decide) eq3 (hT _ tb_555) (fun _ h9 => h9) dX4_avoids_19 ?_
    refine lv_iload hx hb dX4_avoids_22 (lv_at hl 4 rfl) ?_
    refine lv_iconst (v := 1) hx hb dX4_avoids_24 (by decide) ?_
    refine lv_iadd hx hb dX4_avoids_25 (lv_topi (fun zi6 ea7 => ?_))
    have bd8 : (6 : Int) ≤ zi6.toInt ∧ zi6.toInt ≤ 6 := b_iadd ea7 bd904 bc_1 (by decide) (by decide) (by decide) (by decide)
    have qe9 : zi6.toInt = (zi904 : Int32).toInt + (1 : Int32).toInt := e_iadd ea7 bd904 bc_1 (by decide) (by decide)
    have qe10 : zi6.toInt = zi904.toInt + 1 := by have ha : (1 : Int32).toInt = 1 := (by decide); rw [ha] at qe9; exact qe9
    obtain ⟨qa12, eq11, kd13⟩ := rd_34000 ok0 kd5 ((zi6 : Int32).toNatClampNeg)
    refine p_aald (v := qa12) hx hb hK hw hW kd5 (by decide) rfl (by decide) (by decide) rfl (hW.len kd5 (n := 7) rfl (by decide)) (vp_b bd8 (by decide) (by decide)) eq11 dX4_avoids_26 ?_
    refine lv_astore (lv' := [(5, .ref qa12), (0, .ref qa900), (1, .ref qa901), (2, .int zi902), (3, .int zi903), (4, .int zi904)]) hx hb dX4_avoids_27 hl (by decide) rfl (fun ls hl => ?_)
    refine lv_iconst (v := 0) hx hb dX4_avoids_29 (by decide) ?_
    refine lv_istore (lv' := [(6, .int 0), (5, .ref qa12), (0, .ref qa900), (1, .ref qa901), (2, .int zi902), (3, .int zi903), (4, .int zi904)]) hx hb dX4_avoids_30 hl (by decide) rfl (fun ls hl => ?_)
    have lp508 : ∀ (n506 : Nat) (hp364 : Nat → Nat → Value) (zi363 : Int32) (H : Heap) (locs : List Loc) (ls : Array Slot), 16 - zi363.toInt < (n506 : Int) → Ok K hp364 → Fr [3003, 3004, 8000, 8001, 8002, 8003, 8004, 8005, 8006, 8007, 8008, 27000, 40000, 41000, 42000] K hp0 hp364 → ((0 : Int) ≤ zi363.toInt ∧ zi363.toInt ≤ 16) → lv_has ls 7 [(0, .ref qa900), (1, .ref qa901), (2, .int zi902), (3, .int zi903), (4, .int zi904), (5, .ref qa12), (6, .int zi363)] → PW G cy K ln Ls A hp364 H → va_S A s.heap H locs → W p l e ({ frames := 5, cells := 0, slots := 0, locals := 124 } : Room) s m ([.ref qa900, .ref qa901, .int zi902, .int zi903, .int zi904] : List Value).toArray below meth c H locs 0 0 Q (F0 m 32 ls []) := by
      intro n506
      induction n506 with
      | zero =>
        intro hp364 zi363 H locs ls hm509 ok366 F365 bd367 hl hw hS
        exact absurd hm509 (by have := bd367; omega)
      | succ n506 ih507 =>
        intro hp364 zi363 H locs ls hm509 ok366 F365 bd367 hl hw hS
        refine lv_iload hx hb dX4_avoids_32 (lv_at hl 6 rfl) ?_
        refine lv_aload_n hx hb dX4_avoids_34 rfl (lv_at hl 1 rfl) ?_
        obtain ⟨zi511, eq510, bd512⟩ := rd_11004 ok366 kd901
        refine p_getN (ci := 10) (v := .int zi511) (C := RX10) (T := TX10) (N := 20) hx hb hT iw_X10 hown hK hw hW kd901 (by decide) rfl rfl 4 (by decide) eq510 (hK.fl nw_95) (fun _ h9 => h9) dX4_avoids_35 ?_
        refine lv_icmp_ge (tgt := 120) hx hb dX4_avoids_38 (by decide) (fun cn513 => ?_) (fun cn513 => ?_)
        · skip
          refine lv_iconst (v := 0) hx hb dX4_avoids_120 (by decide) ?_
          rw [hQ]
          exact kz_i hx hb hr hlocks hS (nz_n bc_0 (by decide) (by decide)) hp364 hw ⟨ok366, (Fr.tr (Fr.rf) F365 (by decide)), (b_wid2 bc_0 (by decide) (by decide))⟩ (Nat.le_of_ble_eq_true rfl) (Nat.le_of_ble_eq_true rfl) dX4_avoids_121
        · skip
          have bd514 : (0 : Int) ≤ zi363.toInt ∧ zi363.toInt ≤ 15 := r_lt_x (Int32.not_le.mp cn513) bd367 bd512 (by decide) (by decide)
          have bd515 : (1 : Int) ≤ zi511.toInt ∧ zi511.toInt ≤ 16 := r_lt_y (Int32.not_le.mp cn513) bd367 bd512 (by decide) (by decide)
          refine lv_iload_n hx hb dX4_avoids_41 rfl (lv_at hl 2 rfl) ?_
          refine lv_iload hx hb dX4_avoids_42 (lv_at hl 6 rfl) ?_
          refine lv_ishr hx hb dX4_avoids_44 (lv_topi (fun zi516 ea517 => ?_))
          refine lv_iconst (v := 1) hx hb dX4_avoids_45 (by decide) ?_
          refine lv_iand hx hb dX4_avoids_46 (lv_topi (fun zi518 ea519 => ?_))
          have bd520 : (0 : Int) ≤ zi518.toInt ∧ zi518.toInt ≤ 1 := b_and_r ea519 bc_1 (by decide) (by decide) (by decide)
          refine lv_if_eq (tgt := 114) hx hb dX4_avoids_47 (by decide) (fun cn521 => ?_) (fun cn521 => ?_)
          · skip
            have bd522 : (0 : Int) ≤ zi518.toInt ∧ zi518.toInt ≤ 0 := r_eq_x cn521 bd520 bc_0 (by decide) (by decide)
            obtain ⟨zi523, ea524⟩ : ∃ z : Int32, z = zi363 + 1 := ⟨_, rfl⟩
            have bd525 : (1 : Int) ≤ zi523.toInt ∧ zi523.toInt ≤ 16 := b_iadd ea524 bd514 bc_1 (by decide) (by decide) (by decide) (by decide)
            have qe526 : zi523.toInt = (zi363 : Int32).toInt + (1 : Int32).toInt := e_iadd ea524 bd514 bc_1 (by decide) (by decide)
            have qe527 : zi523.toInt = zi363.toInt + 1 := by have ha : (1 : Int32).toInt = 1 := (by decide); rw [ha] at qe526; exact qe526
            refine lv_iinc (v := zi523) (lv' := [(6, .int zi523), (0, .ref qa900), (1, .ref qa901), (2, .int zi902), (3, .int zi903), (4, .int zi904), (5, .ref qa12)]) hx hb dX4_avoids_114 hl (k := 6) rfl ea524.symm (by decide) rfl (fun ls hl => ?_)
            refine lv_goto (tgt := 32) hx hb dX4_avoids_117 (by decide) ?_
            exact ih507 hp364 zi523 _ _ ls (by have := hm509; have := qe527; omega) ok366 (Fr.tr (Fr.rf) F365 (by decide)) (b_wid2 bd525 (by decide) (by decide)) (lv_sub hl [1, 2, 3, 4, 5, 6, 0] rfl) hw hS
          · skip
            have bd528 : (1 : Int) ≤ zi518.toInt ∧ zi518.toInt ≤ 1 := r_ne_lo cn521 bd520 (toi bc_0) (by decide) (by decide)
            refine lv_aload hx hb dX4_avoids_50 (lv_at hl 5 rfl) ?_
            refine lv_aload_n hx hb dX4_avoids_52 rfl (lv_at hl 0 rfl) ?_
            have eq529 : hp364 qa900 0 = .ref qa4 := Eq.trans (Fr.at (cq := 5000) F365 kd900 (cd_o (by decide)) (by decide)) eq3
            refine p_get (ci := 4) (v := .ref qa4) (C := RX4) (T := TX4) (N := 8) hx hb hT iw_X4 hown hK hw hW kd900 (by decide) rfl rfl 0 (by decide) eq529 (hT _ tb_555) (fun _ h9 => h9) dX4_avoids_53 ?_
            refine lv_iload hx hb dX4_avoids_56 (lv_at hl 4 rfl) ?_
            obtain ⟨qa531, eq530, kd532⟩ := rd_34000 ok366 kd5 ((zi904 : Int32).toNatClampNeg)
            refine p_aald (v := qa531) hx hb hK hw hW kd5 (by decide) rfl (by decide) (by decide) rfl (hW.len kd5 (n := 7) rfl (by decide)) (vp_b bd904 (by decide) (by decide)) eq530 dX4_avoids_58 ?_
            refine kq_v hw hS hA (va_runV (As := [.ref qa531]) (rest := []) ⟨hx, hb, hml, hown, hT⟩ (cX7_copyMoment_0 l G cy ev K ln Ls hW _ hp364 ok366 qa12 qa531 kd13 kd532) (cwV 1 hT (good_V tb_1051 tb_1223 tb_1049 tb_1050 tb_115) rfl rfl rfl (by decide +kernel) ⟨Nat.le_of_ble_eq_true rfl, Nat.le_of_ble_eq_true rfl⟩) (pool_preV (ci := 7) hK hE hS hA hw hW kd13 (by decide) rfl) rfl rfl hl.1 rfl (lv_room (Nat.le_of_ble_eq_true rfl)) dX4_avoids_59 ⟨Nat.le_of_ble_eq_true rfl, Nat.le_of_ble_eq_true rfl⟩) (fun hp533 H locs hq536 hw hS => ?_)
            obtain ⟨ok534, F535⟩ := hq536
            have hw : PW G cy K ln Ls A hp533 H := hw
            refine lv_aload hx hb dX4_avoids_62 (lv_at hl 5 rfl) ?_
            refine lv_iload_n hx hb dX4_avoids_64 rfl (lv_at hl 3 rfl) ?_
            refine p_putN (ci := 7) (v := .int zi903) (ty := .int) (C := RX7) (T := TX7) (N := 13) hx hb hT iw_X7 tyX7 tyX7_ok nmX7 hown hK hw hS hW kd13 (by decide) rfl rfl 7 (by decide) (hK.fl nw_329) (fun _ h9 => h9) rfl (by decide +kernel) rfl rfl dX4_avoids_65 (fun hp538 eh539 H locs hw hS => ?_)
            have ok540 := wr_8007 ok534 kd13 eh539
            refine lv_aload hx hb dX4_avoids_68 (lv_at hl 5 rfl) ?_
            refine lv_iconst (v := 0) hx hb dX4_avoids_70 (by decide) ?_
            refine p_putN (ci := 7) (v := .int 0) (ty := .boolean) (C := RX7) (T := TX7) (N := 13) hx hb hT iw_X7 tyX7 tyX7_ok nmX7 hown hK hw hS hW kd13 (by decide) rfl rfl 8 (by decide) (hK.fl nw_331) (fun _ h9 => h9) rfl (by decide +kernel) (nz_n bc_0 (by decide) (by decide)) (nz_f bc_0 (by decide) (by decide)) dX4_avoids_71 (fun hp541 eh542 H locs hw hS => ?_)
            have ok543 := wr_8008 bc_0 (by decide) (by decide) ok540 kd13 eh542
            refine lv_aload hx hb dX4_avoids_74 (lv_at hl 5 rfl) ?_
            refine lv_aload_n hx hb dX4_avoids_76 rfl (lv_at hl 1 rfl) ?_
            refine lv_iload hx hb dX4_avoids_77 (lv_at hl 6 rfl) ?_
            refine kq_i hw hS hA (va_runV (As := [.ref qa901, .int zi363]) (rest := []) ⟨hx, hb, hml, hown, hT⟩ (cX7_utter_0 l G cy ev K ln Ls hW _ hp541 ok543 qa12 qa901 zi363 kd13 kd901 (b_wid2 bd514 (by decide) (by decide))) (cwV 2 hT (good_V tb_1059 tb_1235 tb_1057 tb_1058 tb_115) rfl rfl rfl (by decide +kernel) ⟨Nat.le_of_ble_eq_true rfl, Nat.le_of_ble_eq_true rfl⟩) (pool_preV (ci := 7) hK hE hS hA hw hW kd13 (by decide) rfl) rfl rfl hl.1 rfl (lv_room (Nat.le_of_ble_eq_true rfl)) dX4_avoids_79 ⟨Nat.le_of_ble_eq_true rfl, Nat.le_of_ble_eq_true rfl⟩) (fun zi548 hp544 H locs hq547 hw hS => ?_)
            obtain ⟨ok545, F546, bd549⟩ := hq547
            have hw : PW G cy K ln Ls A hp544 H := hw
            refine lv_pop hx hb dX4_avoids_82 rfl ?_
            refine lv_aload hx hb dX4_avoids_83 (lv_at hl 5 rfl) ?_
            obtain ⟨zi551, eq550, bd552⟩ := rd_8008 ok545 kd13
            refine p_getN (ci := 7) (v := .int zi551) (C := RX7) (T := TX7) (N := 13) hx hb hT iw_X7 hown hK hw hW kd13 (by decide) rfl rfl 8 (by decide) eq550 (hK.fl nw_331) (fun _ h9 => h9) dX4_avoids_85 ?_
            refine lv_if_ne (tgt := 114) hx hb dX4_avoids_88 (by decide) (fun cn553 => ?_) (fun cn553 => ?_)
            · skip
              have bd554 : (1 : Int) ≤ zi551.toInt ∧ zi551.toInt ≤ 1 := r_ne_lo cn553 bd552 (toi bc_0) (by decide) (by decide)
              obtain ⟨zi555, ea556⟩ : ∃ z : Int32, z = zi363 + 1 := ⟨_, rfl⟩
              have bd557 : (1 : Int) ≤ zi555.toInt ∧ zi555.toInt ≤ 16 := b_iadd ea556 bd514 bc_1 (by decide) (by decide) (by decide) (by decide)
              have qe558 : zi555.toInt = (zi363 : Int32).toInt + (1 : Int32).toInt := e_iadd ea556 bd514 bc_1 (by decide) (by decide)
              have qe559 : zi555.toInt = zi363.toInt + 1 := by have ha : (1 : Int32).toInt = 1 := (by decide); rw [ha] at qe558; exact qe558
              refine lv_iinc (v := zi555) (lv' := [(6, .int zi555), (0, .ref qa900), (1, .ref qa901), (2, .int zi902), (3, .int zi903), (4, .int zi904), (5, .ref qa12)]) hx hb dX4_avoids_114 hl (k := 6) rfl ea556.symm (by decide) rfl (fun ls hl => ?_)
              refine lv_goto (tgt := 32) hx hb dX4_avoids_117 (by decide) ?_
              exact ih507 hp544 zi555 _ _ ls (by have := hm509; have := qe559; omega) ok545 (Fr.tr (Fr.put (cq := 8008) (Fr.put (cq := 8007) (Fr.tr (Fr.tr (Fr.rf) F365 (by decide)) F535 (by decide)) eh539 kd13 (cd_o (by decide)) (by decide)) eh542 kd13 (cd_o (by decide)) (by decide)) F546 (by decide)) (b_wid2 bd557 (by decide) (by decide)) (lv_sub hl [1, 2, 3, 4, 5, 6, 0] rfl) hw hS
            · skip
              have bd560 : (0 : Int) ≤ zi551.toInt ∧ zi551.toInt ≤ 0 := r_eq_x cn553 bd552 bc_0 (by decide) (by decide)
              refine lv_aload_n hx hb dX4_avoids_91 rfl (lv_at hl 0 rfl) ?_
              refine lv_aload_n hx hb dX4_avoids_92 rfl (lv_at hl 1 rfl) ?_
              refine lv_iload_n hx hb dX4_avoids_93 rfl (lv_at hl 2 rfl) ?_
              refine lv_iconst (v := 1) hx hb dX4_avoids_94 (by decide) ?_
              refine lv_iload hx hb dX4_avoids_95 (lv_at hl 6 rfl) ?_
              refine lv_ishl hx hb dX4_avoids_97 (lv_topi (fun zi561 ea562 => ?_))
              have bd563 : (1 : Int) ≤ zi561.toInt ∧ zi561.toInt ≤ 32768 := b_shl1 15 ea562 bd514 (by decide) (by decide) (by decide) (by decide) (by decide)
              refine lv_iconst (v := (-1)) hx hb dX4_avoids_98 (by decide) ?_
              refine lv_ixor hx hb dX4_avoids_99 (lv_topi (fun zi564 ea565 => ?_))
              refine lv_iand hx hb dX4_avoids_100 (lv_topi (fun zi566 ea567 => ?_))
              refine lv_iload_n hx hb dX4_avoids_101 rfl (lv_at hl 3 rfl) ?_
              refine lv_iload hx hb dX4_avoids_102 (lv_at hl 4 rfl) ?_
              refine lv_iconst (v := 1) hx hb dX4_avoids_104 (by decide) ?_
              refine lv_iadd hx hb dX4_avoids_105 (lv_topi (fun zi568 ea569 => ?_))
              have bd570 : (6 : Int) ≤ zi568.toInt ∧ zi568.toInt ≤ 6 := b_iadd ea569 bd904 bc_1 (by decide) (by decide) (by decide) (by decide)
              have qe571 : zi568.toInt = (zi904 : Int32).toInt + (1 : Int32).toInt := e_iadd ea569 bd904 bc_1 (by decide) (by decide)
              have qe572 : zi568.toInt = zi904.toInt + 1 := by have ha : (1 : Int32).toInt = 1 := (by decide); rw [ha] at qe571; exact qe571
              refine kq_i hw hS hA (va_runV (As := [.ref qa901, .int zi566, .int zi903, .int zi568]) (rest := []) ⟨hx, hb, hml, hown, hT⟩ (cX4_avoids_0 l G cy ev K ln Ls hW _ hp544 ok545 qa900 qa901 zi566 zi903 zi568 kd900 kd901 (b_wid2 bd570 (by decide) (by decide))) (cwV 4 hT (good_V tb_1251 tb_1248 tb_1250 tb_41 tb_119) rfl rfl rfl (by decide +kernel) ⟨Nat.le_of_ble_eq_true rfl, Nat.le_of_ble_eq_true rfl⟩) (pool_preV (ci := 4) hK hE hS hA hw hW kd900 (by decide) rfl) rfl rfl hl.1 rfl (lv_room (Nat.le_of_ble_eq_true rfl)) dX4_avoids_106 ⟨Nat.le_of_ble_eq_true rfl, Nat.le_of_ble_eq_true rfl⟩) (fun zi577 hp573 H locs hq576 hw hS => ?_)
              obtain ⟨ok574, F575, bd578⟩ := hq576
              obtain rfl : hp544 = hp573 := (Fr.nil F575).symm
              have hw : PW G cy K ln Ls A hp544 H := hw
              refine lv_if_eq (tgt := 114) hx hb dX4_avoids_109 (by decide) (fun c => absurd c (d_ne bd578 bc_0 (by decide))) (fun _ => ?_)
              refine lv_iconst (v := 1) hx hb dX4_avoids_112 (by decide) ?_
              rw [hQ]
              exact kz_i hx hb hr hlocks hS (nz_n bc_1 (by decide) (by decide)) hp544 hw ⟨ok545, (Fr.tr (Fr.put (cq := 8008) (Fr.put (cq := 8007) (Fr.tr (Fr.tr (Fr.rf) F365 (by decide)) F535 (by decide)) eh539 kd13 (cd_o (by decide)) (by decide)) eh542 kd13 (cd_o (by decide)) (by decide)) F546 (by decide)), (b_wid2 bc_1 (by decide) (by decide))⟩ (Nat.le_of_ble_eq_true rfl) (Nat.le_of_ble_eq_true rfl) dX4_avoids_113
    exact lp508 _ hp0 0 _ _ ls (lp_in _) ok0 (Fr.rf) (b_wid2 bc_0 (by decide) (by decide)) (lv_sub hl [2, 3, 4, 5, 6, 1, 0] rfl) hw hS
