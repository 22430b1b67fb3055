set_option maxRecDepth 100000 in
set_option maxHeartbeats 4000000 in
theorem cX2_clear_0 (l : Launch) (G : va_G) (cy : Nat → ClassId) (ev : Ew) (K ln : Nat → Nat) (Ls : List Nat) (hW : SW K ln Ls) (sz : Nat) (hp0 : Nat → Nat → Value) (ok0 : Ok K hp0) (qa900 : Nat) (kd900 : K qa900 = 3) : Met l yX2_clear (WS yX2_clear cX2_clear 1 none) { frames := 0, cells := 0, slots := 0, locals := 0 } (PB2 [.ref qa900] sz G cy ev (va_pl Ls (cellOf cy K ln hp0))) (QBv (S := (Nat → Nat → Value)) (fun u : (Nat → Nat → Value) => Ok K u ∧ Fr [3002] K hp0 u) G (fun u => va_pl Ls (cellOf cy K ln u)) (va_A (va_pl Ls (cellOf cy K ln hp0)) sz)) 0 0 (va_A (va_pl Ls (cellOf cy K ln hp0)) sz) := by
  refine met_of2 (y := yX2_clear) (L := 1) (av := [.ref qa900]) (Qc := fun A => QBv (S := (Nat → Nat → Value)) (fun u : (Nat → Nat → Value) => Ok K u ∧ Fr [3002] K hp0 u) G (fun u => va_pl Ls (cellOf cy K ln u)) A) (plainFor_of_name (by decide)) (Nat.le_of_ble_eq_true rfl) ?_
  intro p e s m below meth c hsz hx hb hr hml hown hT hlocks hin hK A hA hE hw hS ls hl
  have hw : PW G cy K ln Ls A hp0 s.heap := hw
  have hown : s.vm.findClass "LieClock$Law" = some m.cls := hown
  have hl : lv_has ls 1 [(0, .ref qa900)] := hl
  obtain ⟨Q, hQ⟩ : ∃ Q : State → Prop, Q = MQ below (QBv (S := (Nat → Nat → Value)) (fun u : (Nat → Nat → Value) => Ok K u ∧ Fr [3002] K hp0 u) G (fun u => va_pl Ls (cellOf cy K ln u)) A) ([.ref qa900] : List Value).toArray s 0 0 A := ⟨_, rfl⟩
  rw [← hQ]
  refine lv_aload_n hx hb dX2_clear_0 rfl (lv_at hl 0 rfl) ?_
  refine lv_iconst (v := 0) hx hb dX2_clear_1 (by decide) ?_
  refine p_put (ci := 2) (v := .int 0) (ty := .int) (C := RX2) (T := TX2) (N := 5) hx hb hT iw_X2 tyX2 tyX2_ok nmX2 hown hK hw hS hW kd900 (by decide) rfl rfl 2 (by decide) (hT _ tb_166) (fun _ h9 => h9) rfl (by decide +kernel) rfl rfl dX2_clear_2 (fun hp1 eh2 H locs hw hS => ?_)
  have ok3 := wr_3002 bc_0 (by decide) (by decide) ok0 kd900 eh2
  rw [hQ]
  exact kz_v hx hb hr hlocks hS hp1 hw ⟨ok3, (Fr.put (cq := 3002) (Fr.rf) eh2 kd900 (cd_o (by decide)) (by decide))⟩ (Nat.le_of_ble_eq_true rfl) (Nat.le_of_ble_eq_true rfl) dX2_clear_5

set_option maxRecDepth 100000 in
set_option maxHeartbeats 4000000 in
theorem cX2_add_0 (l : Launch) (G : va_G) (cy : Nat → ClassId) (ev : Ew) (K ln : Nat → Nat) (Ls : List Nat) (hW : SW K ln Ls) (sz : Nat) (hp0 : Nat → Nat → Value) (ok0 : Ok K hp0) (qa900 : Nat) (zi901 : Int32) (kd900 : K qa900 = 3) : Met l yX2_add (WS yX2_add cX2_add 2 none) { frames := 0, cells := 0, slots := 0, locals := 0 } (PB2 [.ref qa900, .int zi901] sz G cy ev (va_pl Ls (cellOf cy K ln hp0))) (QBv (S := (Nat → Nat → Value)) (fun u : (Nat → Nat → Value) => Ok K u ∧ Fr [3002, 26000] K hp0 u) G (fun u => va_pl Ls (cellOf cy K ln u)) (va_A (va_pl Ls (cellOf cy K ln hp0)) sz)) 0 0 (va_A (va_pl Ls (cellOf cy K ln hp0)) sz) := by
  refine met_of2 (y := yX2_add) (L := 2) (av := [.ref qa900, .int zi901]) (Qc := fun A => QBv (S := (Nat → Nat → Value)) (fun u : (Nat → Nat → Value) => Ok K u ∧ Fr [3002, 26000] K hp0 u) G (fun u => va_pl Ls (cellOf cy K ln u)) A) (plainFor_of_name (by decide)) (Nat.le_of_ble_eq_true rfl) ?_
  intro p e s m below meth c hsz hx hb hr hml hown hT hlocks hin hK A hA hE hw hS ls hl
  have hw : PW G cy K ln Ls A hp0 s.heap := hw
  have hown : s.vm.findClass "LieClock$Law" = some m.cls := hown
  have hl : lv_has ls 2 [(0, .ref qa900), (1, .int zi901)] := hl
  obtain ⟨Q, hQ⟩ : ∃ Q : State → Prop, Q = MQ below (QBv (S := (Nat → Nat → Value)) (fun u : (Nat → Nat → Value) => Ok K u ∧ Fr [3002, 26000] K hp0 u) G (fun u => va_pl Ls (cellOf cy K ln u)) A) ([.ref qa900, .int zi901] : List Value).toArray s 0 0 A := ⟨_, rfl⟩
  rw [← hQ]
  refine lv_aload_n hx hb dX2_add_0 rfl (lv_at hl 0 rfl) ?_
  obtain ⟨zi2, eq1, bd3⟩ := rd_3002 ok0 kd900
  refine p_get (ci := 2) (v := .int zi2) (C := RX2) (T := TX2) (N := 5) hx hb hT iw_X2 hown hK hw hW kd900 (by decide) rfl rfl 2 (by decide) eq1 (hT _ tb_166) (fun _ h9 => h9) dX2_add_1 ?_
  refine lv_sipush (v := 400) hx hb dX2_add_4 (by decide) ?_
  refine lv_icmp_ge (tgt := 30) hx hb dX2_add_7 (by decide) (fun cn4 => ?_) (fun cn4 => ?_)
  · skip
    have bd5 : (400 : Int) ≤ zi2.toInt ∧ zi2.toInt ≤ 400 := r_le_y cn4 bc_400 bd3 (by decide) (by decide)
    rw [hQ]
    exact kz_v hx hb hr hlocks hS hp0 hw ⟨ok0, (Fr.rf)⟩ (Nat.le_of_ble_eq_true rfl) (Nat.le_of_ble_eq_true rfl) dX2_add_30
  · skip
    have bd6 : (0 : Int) ≤ zi2.toInt ∧ zi2.toInt ≤ 399 := r_lt_x (Int32.not_le.mp cn4) bd3 bc_400 (by decide) (by decide)
    refine lv_aload_n hx hb dX2_add_10 rfl (lv_at hl 0 rfl) ?_
    obtain ⟨qa8, eq7, kd9⟩ := rd_3000 ok0 kd900
    refine p_get (ci := 2) (v := .ref qa8) (C := RX2) (T := TX2) (N := 5) hx hb hT iw_X2 hown hK hw hW kd900 (by decide) rfl rfl 0 (by decide) eq7 (hT _ tb_164) (fun _ h9 => h9) dX2_add_11 ?_
    refine lv_aload_n hx hb dX2_add_14 rfl (lv_at hl 0 rfl) ?_
    refine p_get (ci := 2) (v := .int zi2) (C := RX2) (T := TX2) (N := 5) hx hb hT iw_X2 hown hK hw hW kd900 (by decide) rfl rfl 2 (by decide) eq1 (hT _ tb_166) (fun _ h9 => h9) dX2_add_15 ?_
    refine lv_iload_n hx hb dX2_add_18 rfl (lv_at hl 1 rfl) ?_
    refine p_iast (x := zi901) hx hb hK hw hS hW kd9 (by decide) rfl (hW.len kd9 (n := 400) rfl (by decide)) (vp_b bd6 (by decide) (by decide)) dX2_add_19 (fun hp10 eh11 H locs hw hS => ?_)
    have ok12 := wr_26000 ok0 kd9 eh11
    refine lv_aload_n hx hb dX2_add_20 rfl (lv_at hl 0 rfl) ?_
    refine lv_dup hx hb dX2_add_21 rfl ?_
    have eq13 : hp10 qa900 2 = .int zi2 := Eq.trans (up_at eh11 (Or.inl (kd_ne kd900 kd9 (by decide)))) eq1
    refine p_get (ci := 2) (v := .int zi2) (C := RX2) (T := TX2) (N := 5) hx hb hT iw_X2 hown hK hw hW kd900 (by decide) rfl rfl 2 (by decide) eq13 (hT _ tb_166) (fun _ h9 => h9) dX2_add_22 ?_
    refine lv_iconst (v := 1) hx hb dX2_add_25 (by decide) ?_
    refine lv_iadd hx hb dX2_add_26 (lv_topi (fun zi14 ea15 => ?_))
    have bd16 : (1 : Int) ≤ zi14.toInt ∧ zi14.toInt ≤ 400 := b_iadd ea15 bd6 bc_1 (by decide) (by decide) (by decide) (by decide)
    have qe17 : zi14.toInt = (zi2 : Int32).toInt + (1 : Int32).toInt := e_iadd ea15 bd6 bc_1 (by decide) (by decide)
    have qe18 : zi14.toInt = zi2.toInt + 1 := by have ha : (1 : Int32).toInt = 1 := (by decide); rw [ha] at qe17; exact qe17
    refine p_put (ci := 2) (v := .int zi14) (ty := .int) (C := RX2) (T := TX2) (N := 5) hx hb hT iw_X2 tyX2 tyX2_ok nmX2 hown hK hw hS hW kd900 (by decide) rfl rfl 2 (by decide) (hT _ tb_166) (fun _ h9 => h9) rfl (by decide +kernel) rfl rfl dX2_add_27 (fun hp19 eh20 H locs hw hS => ?_)
    have ok21 := wr_3002 bd16 (by decide) (by decide) ok12 kd900 eh20
    rw [hQ]
    exact kz_v hx hb hr hlocks hS hp19 hw ⟨ok21, (Fr.put (cq := 3002) (Fr.put (cq := 26000) (Fr.rf) eh11 kd9 (cd_a (by decide)) (by decide)) eh20 kd900 (cd_o (by decide)) (by decide))⟩ (Nat.le_of_ble_eq_true rfl) (Nat.le_of_ble_eq_true rfl) dX2_add_30

set_option maxRecDepth 100000 in
set_option maxHeartbeats 4000000 in
theorem cJ6_bitCount_0f7a4_0 (l : Launch) (G : va_G) (cy : Nat → ClassId) (ev : Ew) (K ln : Nat → Nat) (Ls : List Nat) (hW : SW K ln Ls) (sz : Nat) (hp0 : Nat → Nat → Value) (ok0 : Ok K hp0) (zi900 : Int32)  : Met l yJ6_bitCount_0f7a4 (WS yJ6_bitCount_0f7a4 cJ6_bitCount_0f7a4 1 (some .int)) { frames := 0, cells := 0, slots := 0, locals := 0 } (PB2 [.int zi900] sz G cy ev (va_pl Ls (cellOf cy K ln hp0))) (QBi (S := (Nat → Nat → Value)) (fun (r : Int32) (u : (Nat → Nat → Value)) => Ok K u ∧ Fr [] K hp0 u ∧ ((0 : Int) ≤ r.toInt ∧ r.toInt ≤ 63) ∧ r = bcnt zi900) G (fun u => va_pl Ls (cellOf cy K ln u)) (va_A (va_pl Ls (cellOf cy K ln hp0)) sz)) 0 0 (va_A (va_pl Ls (cellOf cy K ln hp0)) sz) := by
  refine met_of2 (y := yJ6_bitCount_0f7a4) (L := 1) (av := [.int zi900]) (Qc := fun A => QBi (S := (Nat → Nat → Value)) (fun (r : Int32) (u : (Nat → Nat → Value)) => Ok K u ∧ Fr [] K hp0 u ∧ ((0 : Int) ≤ r.toInt ∧ r.toInt ≤ 63) ∧ r = bcnt zi900) G (fun u => va_pl Ls (cellOf cy K ln u)) A) (plainFor_of_name (by decide)) (Nat.le_of_ble_eq_true rfl) ?_
  intro p e s m below meth c hsz hx hb hr hml hown hT hlocks hin hK A hA hE hw hS ls hl
  have hw : PW G cy K ln Ls A hp0 s.heap := hw
  have hown : s.vm.findClass "java/lang/Integer" = some m.cls := hown
  have hl : lv_has ls 1 [(0, .int zi900)] := hl
  obtain ⟨Q, hQ⟩ : ∃ Q : State → Prop, Q = MQ below (QBi (S := (Nat → Nat → Value)) (fun (r : Int32) (u : (Nat → Nat → Value)) => Ok K u ∧ Fr [] K hp0 u ∧ ((0 : Int) ≤ r.toInt ∧ r.toInt ≤ 63) ∧ r = bcnt zi900) G (fun u => va_pl Ls (cellOf cy K ln u)) A) ([.int zi900] : List Value).toArray s 0 0 A := ⟨_, rfl⟩
  rw [← hQ]
  refine lv_iload_n hx hb dJ6_bitCount_0f7a4_0 rfl (lv_at hl 0 rfl) ?_
  refine lv_iload_n hx hb dJ6_bitCount_0f7a4_1 rfl (lv_at hl 0 rfl) ?_
  refine lv_iconst (v := 1) hx hb dJ6_bitCount_0f7a4_2 (by decide) ?_
  refine lv_iushr hx hb dJ6_bitCount_0f7a4_3 rfl (lv_topi (fun zi1 ea2 => ?_))
  refine lv_ldcw (v := 1431655765) hx hb hown (hT _ tb_1011) dJ6_bitCount_0f7a4_4 ?_
  refine lv_iand hx hb dJ6_bitCount_0f7a4_7 (lv_topi (fun zi3 ea4 => ?_))
  have bd5 : (0 : Int) ≤ zi3.toInt ∧ zi3.toInt ≤ 1431655765 := b_and_r ea4 bc_1431655765 (by decide) (by decide) (by decide)
  refine lv_isub hx hb dJ6_bitCount_0f7a4_8 (lv_topi (fun zi6 ea7 => ?_))
  refine lv_istore_n (lv' := [(0, .int zi6)]) hx hb dJ6_bitCount_0f7a4_9 rfl hl (by decide) rfl (fun ls hl => ?_)
  refine lv_iload_n hx hb dJ6_bitCount_0f7a4_10 rfl (lv_at hl 0 rfl) ?_
  refine lv_ldcw (v := 858993459) hx hb hown (hT _ tb_1012) dJ6_bitCount_0f7a4_11 ?_
  refine lv_iand hx hb dJ6_bitCount_0f7a4_14 (lv_topi (fun zi8 ea9 => ?_))
  have bd10 : (0 : Int) ≤ zi8.toInt ∧ zi8.toInt ≤ 858993459 := b_and_r ea9 bc_858993459 (by decide) (by decide) (by decide)
  refine lv_iload_n hx hb dJ6_bitCount_0f7a4_15 rfl (lv_at hl 0 rfl) ?_
  refine lv_iconst (v := 2) hx hb dJ6_bitCount_0f7a4_16 (by decide) ?_
  refine lv_iushr hx hb dJ6_bitCount_0f7a4_17 rfl (lv_topi (fun zi11 ea12 => ?_))
  refine lv_ldcw (v := 858993459) hx hb hown (hT _ tb_1012) dJ6_bitCount_0f7a4_18 ?_
  refine lv_iand hx hb dJ6_bitCount_0f7a4_21 (lv_topi (fun zi13 ea14 => ?_))
  have bd15 : (0 : Int) ≤ zi13.toInt ∧ zi13.toInt ≤ 858993459 := b_and_r ea14 bc_858993459 (by decide) (by decide) (by decide)
  refine lv_iadd hx hb dJ6_bitCount_0f7a4_22 (lv_topi (fun zi16 ea17 => ?_))
  have bd18 : (0 : Int) ≤ zi16.toInt ∧ zi16.toInt ≤ 1717986918 := b_iadd ea17 bd10 bd15 (by decide) (by decide) (by decide) (by decide)
  refine lv_istore_n (lv' := [(0, .int zi16)]) hx hb dJ6_bitCount_0f7a4_23 rfl hl (by decide) rfl (fun ls hl => ?_)
  refine lv_iload_n hx hb dJ6_bitCount_0f7a4_24 rfl (lv_at hl 0 rfl) ?_
  refine lv_iload_n hx hb dJ6_bitCount_0f7a4_25 rfl (lv_at hl 0 rfl) ?_
  refine lv_iconst (v := 4) hx hb dJ6_bitCount_0f7a4_26 (by decide) ?_
  refine lv_iushr hx hb dJ6_bitCount_0f7a4_27 rfl (lv_topi (fun zi19 ea20 => ?_))
  refine lv_iadd hx hb dJ6_bitCount_0f7a4_28 (lv_topi (fun zi21 ea22 => ?_))
  refine lv_ldcw (v := 252645135) hx hb hown (hT _ tb_1013) dJ6_bitCount_0f7a4_29 ?_
  refine lv_iand hx hb dJ6_bitCount_0f7a4_32 (lv_topi (fun zi23 ea24 => ?_))
  have bd25 : (0 : Int) ≤ zi23.toInt ∧ zi23.toInt ≤ 252645135 := b_and_r ea24 bc_252645135 (by decide) (by decide) (by decide)
  refine lv_istore_n (lv' := [(0, .int zi23)]) hx hb dJ6_bitCount_0f7a4_33 rfl hl (by decide) rfl (fun ls hl => ?_)
  refine lv_iload_n hx hb dJ6_bitCount_0f7a4_34 rfl (lv_at hl 0 rfl) ?_
  refine lv_iload_n hx hb dJ6_bitCount_0f7a4_35 rfl (lv_at hl 0 rfl) ?_
  refine lv_bipush (v := 8) hx hb dJ6_bitCount_0f7a4_36 (by decide) ?_
  refine lv_iushr hx hb dJ6_bitCount_0f7a4_38 rfl (lv_topi (fun zi26 ea27 => ?_))
  refine lv_iadd hx hb dJ6_bitCount_0f7a4_39 (lv_topi (fun zi28 ea29 => ?_))
  refine lv_istore_n (lv' := [(0, .int zi28)]) hx hb dJ6_bitCount_0f7a4_40 rfl hl (by decide) rfl (fun ls hl => ?_)
  refine lv_iload_n hx hb dJ6_bitCount_0f7a4_41 rfl (lv_at hl 0 rfl) ?_
  refine lv_iload_n hx hb dJ6_bitCount_0f7a4_42 rfl (lv_at hl 0 rfl) ?_
  refine lv_bipush (v := 16) hx hb dJ6_bitCount_0f7a4_43 (by decide) ?_
  refine lv_iushr hx hb dJ6_bitCount_0f7a4_45 rfl (lv_topi (fun zi30 ea31 => ?_))
  refine lv_iadd hx hb dJ6_bitCount_0f7a4_46 (lv_topi (fun zi32 ea33 => ?_))
  refine lv_istore_n (lv' := [(0, .int zi32)]) hx hb dJ6_bitCount_0f7a4_47 rfl hl (by decide) rfl (fun ls hl => ?_)
  refine lv_iload_n hx hb dJ6_bitCount_0f7a4_48 rfl (lv_at hl 0 rfl) ?_
  refine lv_bipush (v := 63) hx hb dJ6_bitCount_0f7a4_49 (by decide) ?_
  refine lv_iand hx hb dJ6_bitCount_0f7a4_51 (lv_topi (fun zi34 ea35 => ?_))
  have bd36 : (0 : Int) ≤ zi34.toInt ∧ zi34.toInt ≤ 63 := b_and_r ea35 bc_63 (by decide) (by decide) (by decide)
  rw [hQ]
  exact kz_i hx hb hr hlocks hS rfl hp0 hw ⟨ok0, (Fr.rf), (b_wid2 bd36 (by decide) (by decide)), (by simp only [bcnt, ea2, ea4, ea7, ea9, ea12, ea14, ea17, ea20, ea22, ea24, ea27, ea29, ea31, ea33, ea35])⟩ (Nat.le_of_ble_eq_true rfl) (Nat.le_of_ble_eq_true rfl) dJ6_bitCount_0f7a4_52

set_option maxRecDepth 100000 in
set_option maxHeartbeats 4000000 in
theorem cJ9_floorMod_7cf53_0 (l : Launch) (G : va_G) (cy : Nat → ClassId) (ev : Ew) (K ln : Nat → Nat) (Ls : List Nat) (hW : SW K ln Ls) (sz : Nat) (hp0 : Nat → Nat → Value) (ok0 : Ok K hp0) (zi900 : Int32) (zi901 : Int32) (bd901 : ((1440 : Int) ≤ zi901.toInt ∧ zi901.toInt ≤ 1440)) : Met l yJ9_floorMod_7cf53 (WS yJ9_floorMod_7cf53 cJ9_floorMod_7cf53 3 (some .int)) { frames := 0, cells := 0, slots := 0, locals := 0 } (PB2 [.int zi900, .int zi901] sz G cy ev (va_pl Ls (cellOf cy K ln hp0))) (QBi (S := (Nat → Nat → Value)) (fun (r : Int32) (u : (Nat → Nat → Value)) => Ok K u ∧ Fr [] K hp0 u) G (fun u => va_pl Ls (cellOf cy K ln u)) (va_A (va_pl Ls (cellOf cy K ln hp0)) sz)) 0 0 (va_A (va_pl Ls (cellOf cy K ln hp0)) sz) := by
  refine met_of2 (y := yJ9_floorMod_7cf53) (L := 3) (av := [.int zi900, .int zi901]) (Qc := fun A => QBi (S := (Nat → Nat → Value)) (fun (r : Int32) (u : (Nat → Nat → Value)) => Ok K u ∧ Fr [] K hp0 u) G (fun u => va_pl Ls (cellOf cy K ln u)) A) (by decide +kernel) (Nat.le_of_ble_eq_true rfl) ?_
  intro p e s m below meth c hsz hx hb hr hml hown hT hlocks hin hK A hA hE hw hS ls hl
  have hw : PW G cy K ln Ls A hp0 s.heap := hw
  have hown : s.vm.findClass "java/lang/Math" = some m.cls := hown
  have hl : lv_has ls 3 [(0, .int zi900), (1, .int zi901)] := hl
  obtain ⟨Q, hQ⟩ : ∃ Q : State → Prop, Q = MQ below (QBi (S := (Nat → Nat → Value)) (fun (r : Int32) (u : (Nat → Nat → Value)) => Ok K u ∧ Fr [] K hp0 u) G (fun u => va_pl Ls (cellOf cy K ln u)) A) ([.int zi900, .int zi901] : List Value).toArray s 0 0 A := ⟨_, rfl⟩
  rw [← hQ]
  refine lv_iload_n hx hb dJ9_floorMod_7cf53_0 rfl (lv_at hl 0 rfl) ?_
  refine lv_iload_n hx hb dJ9_floorMod_7cf53_1 rfl (lv_at hl 1 rfl) ?_
  refine lv_irem hx hb dJ9_floorMod_7cf53_2 (ne_z bd901 (by decide)) (lv_topi (fun zi1 ea2 => ?_))
  refine lv_istore_n (lv' := [(2, .int zi1), (0, .int zi900), (1, .int zi901)]) hx hb dJ9_floorMod_7cf53_3 rfl hl (by decide) rfl (fun ls hl => ?_)
  refine lv_iload_n hx hb dJ9_floorMod_7cf53_4 rfl (lv_at hl 1 rfl) ?_
  refine lv_iload_n hx hb dJ9_floorMod_7cf53_5 rfl (lv_at hl 2 rfl) ?_
  refine lv_ixor hx hb dJ9_floorMod_7cf53_6 (lv_topi (fun zi3 ea4 => ?_))
  refine lv_if_ge (tgt := 18) hx hb dJ9_floorMod_7cf53_7 (by decide) (fun cn5 => ?_) (fun cn5 => ?_)
  · skip
    have bd6 : (0 : Int) ≤ zi3.toInt ∧ zi3.toInt ≤ 2147483647 := r_le_y cn5 bc_0 (b_all zi3) (by decide) (by decide)
    refine lv_iload_n hx hb dJ9_floorMod_7cf53_18 rfl (lv_at hl 0 rfl) ?_
    rw [hQ]
    exact kz_i hx hb hr hlocks hS rfl hp0 hw ⟨ok0, (Fr.rf)⟩ (Nat.le_of_ble_eq_true rfl) (Nat.le_of_ble_eq_true rfl) dJ9_floorMod_7cf53_19
  · skip
    have bd7 : (-2147483648 : Int) ≤ zi3.toInt ∧ zi3.toInt ≤ -1 := r_lt_x (Int32.not_le.mp cn5) (b_all zi3) bc_0 (by decide) (by decide)
    refine lv_iload_n hx hb dJ9_floorMod_7cf53_10 rfl (lv_at hl 0 rfl) ?_
    refine lv_if_eq (tgt := 18) hx hb dJ9_floorMod_7cf53_11 (by decide) (fun cn8 => ?_) (fun cn8 => ?_)
    · skip
      have bd9 : (0 : Int) ≤ zi1.toInt ∧ zi1.toInt ≤ 0 := r_eq_x cn8 (b_all zi1) bc_0 (by decide) (by decide)
      refine lv_iload_n hx hb dJ9_floorMod_7cf53_18 rfl (lv_at hl 0 rfl) ?_
      rw [hQ]
      exact kz_i hx hb hr hlocks hS rfl hp0 hw ⟨ok0, (Fr.rf)⟩ (Nat.le_of_ble_eq_true rfl) (Nat.le_of_ble_eq_true rfl) dJ9_floorMod_7cf53_19
    · skip
      refine lv_iload_n hx hb dJ9_floorMod_7cf53_14 rfl (lv_at hl 0 rfl) ?_
      refine lv_iload_n hx hb dJ9_floorMod_7cf53_15 rfl (lv_at hl 2 rfl) ?_
      refine lv_iadd hx hb dJ9_floorMod_7cf53_16 (lv_topi (fun zi10 ea11 => ?_))
      rw [hQ]
      exact kz_i hx hb hr hlocks hS rfl hp0 hw ⟨ok0, (Fr.rf)⟩ (Nat.le_of_ble_eq_true rfl) (Nat.le_of_ble_eq_true rfl) dJ9_floorMod_7cf53_17

set_option maxRecDepth 100000 in
set_option maxHeartbeats 4000000 in
theorem cX7_valueOf_0 (l : Launch) (G : va_G) (cy : Nat → ClassId) (ev : Ew) (K ln : Nat → Nat) (Ls : List Nat) (hW : SW K ln Ls) (sz : Nat) (hp0 : Nat → Nat → Value) (ok0 : Ok K hp0) (qa900 : Nat) (zi901 : Int32) (zi902 : Int32) (kd900 : K qa900 = 8) : Met l yX7_valueOf (WS yX7_valueOf cX7_valueOf 3 (some .int)) { frames := 1, cells := 0, slots := 0, locals := 22 } (PB2 [.ref qa900, .int zi901, .int zi902] sz G cy ev (va_pl Ls (cellOf cy K ln hp0))) (QBi (S := (Nat → Nat → Value)) (fun (r : Int32) (u : (Nat → Nat → Value)) => Ok K u ∧ Fr [] K hp0 u) G (fun u => va_pl Ls (cellOf cy K ln u)) (va_A (va_pl Ls (cellOf cy K ln hp0)) sz)) 0 0 (va_A (va_pl Ls (cellOf cy K ln hp0)) sz) := by
  refine met_of2 (y := yX7_valueOf) (L := 3) (av := [.ref qa900, .int zi901, .int zi902]) (Qc := fun A => QBi (S := (Nat → Nat → Value)) (fun (r : Int32) (u : (Nat → Nat → Value)) => Ok K u ∧ Fr [] K hp0 u) G (fun u => va_pl Ls (cellOf cy K ln u)) A) (plainFor_of_name (by decide)) (Nat.le_of_ble_eq_true rfl) ?_
  intro p e s m below meth c hsz hx hb hr hml hown hT hlocks hin hK A hA hE hw hS ls hl
  have hw : PW G cy K ln Ls A hp0 s.heap := hw
  have hown : s.vm.findClass "LieClock$State" = some m.cls := hown
  have hl : lv_has ls 3 [(0, .ref qa900), (1, .int zi901), (2, .int zi902)] := hl
  obtain ⟨Q, hQ⟩ : ∃ Q : State → Prop, Q = MQ below (QBi (S := (Nat → Nat → Value)) (fun (r : Int32) (u : (Nat → Nat → Value)) => Ok K u ∧ Fr [] K hp0 u) G (fun u => va_pl Ls (cellOf cy K ln u)) A) ([.ref qa900, .int zi901, .int zi902] : List Value).toArray s 0 0 A := ⟨_, rfl⟩
  rw [← hQ]
  refine lv_iload_n hx hb dX7_valueOf_0 rfl (lv_at hl 1 rfl) ?_
  by_cases cn1 : zi901 = 114
  · skip
    refine lv_tableIn (tgt := 32) hx hb dX7_valueOf_1 (by rw [cn1]; decide) (by rw [cn1]; decide) (by rw [cn1]; rfl) (by decide) ?_
    have bd9 : (114 : Int) ≤ zi901.toInt ∧ zi901.toInt ≤ 114 := r_eq_x cn1 (b_all zi901) bc_114 (by decide) (by decide)
    refine lv_aload_n hx hb dX7_valueOf_32 rfl (lv_at hl 0 rfl) ?_
    obtain ⟨zi11, eq10⟩ := rd_8002 ok0 kd900
    refine p_get (ci := 7) (v := .int zi11) (C := RX7) (T := TX7) (N := 13) hx hb hT iw_X7 hown hK hw hW kd900 (by decide) rfl rfl 2 (by decide) eq10 (hT _ tb_420) (fun _ h9 => h9) dX7_valueOf_33 ?_
    refine lv_iload_n hx hb dX7_valueOf_36 rfl (lv_at hl 2 rfl) ?_
    refine lv_iand hx hb dX7_valueOf_37 (lv_topi (fun zi12 ea13 => ?_))
    refine kq_i hw hS hA (va_runS (As := [.int zi12]) (rest := []) ⟨hx, hb, hml, hown, hT⟩ (cJ6_bitCount_0f7a4_0 l G cy ev K ln Ls hW _ hp0 ok0 zi12) (va_cwS 1 hT (good_S tb_1010 tb_1087 tb_1009 tb_126) rfl rfl rfl (by decide +kernel) ⟨Nat.le_of_ble_eq_true rfl, Nat.le_of_ble_eq_true rfl⟩) (PB2.preS hK hE hS hA hw) rfl rfl hl.1 rfl (lv_room (Nat.le_of_ble_eq_true rfl)) dX7_valueOf_38 ⟨Nat.le_of_ble_eq_true rfl, Nat.le_of_ble_eq_true rfl⟩) (fun zi18 hp14 H locs hq17 hw hS => ?_)
    obtain ⟨ok15, F16, bd19, ef20⟩ := hq17
    obtain rfl : hp0 = hp14 := (Fr.nil F16).symm
    have hw : PW G cy K ln Ls A hp0 H := hw
    rw [hQ]
    exact kz_i hx hb hr hlocks hS rfl hp0 hw ⟨ok0, (Fr.rf)⟩ (Nat.le_of_ble_eq_true rfl) (Nat.le_of_ble_eq_true rfl) dX7_valueOf_41
  by_cases cn2 : zi901 = 115
  · skip
    refine lv_tableIn (tgt := 42) hx hb dX7_valueOf_1 (by rw [cn2]; decide) (by rw [cn2]; decide) (by rw [cn2]; rfl) (by decide) ?_
    have bd21 : (115 : Int) ≤ zi901.toInt ∧ zi901.toInt ≤ 115 := r_eq_x cn2 (b_all zi901) bc_115 (by decide) (by decide)
    refine lv_aload_n hx hb dX7_valueOf_42 rfl (lv_at hl 0 rfl) ?_
    obtain ⟨zi23, eq22⟩ := rd_8001 ok0 kd900
    refine p_get (ci := 7) (v := .int zi23) (C := RX7) (T := TX7) (N := 13) hx hb hT iw_X7 hown hK hw hW kd900 (by decide) rfl rfl 1 (by decide) eq22 (hT _ tb_416) (fun _ h9 => h9) dX7_valueOf_43 ?_
    refine lv_iload_n hx hb dX7_valueOf_46 rfl (lv_at hl 2 rfl) ?_
    refine lv_iand hx hb dX7_valueOf_47 (lv_topi (fun zi24 ea25 => ?_))
    refine kq_i hw hS hA (va_runS (As := [.int zi24]) (rest := []) ⟨hx, hb, hml, hown, hT⟩ (cJ6_bitCount_0f7a4_0 l G cy ev K ln Ls hW _ hp0 ok0 zi24) (va_cwS 1 hT (good_S tb_1010 tb_1087 tb_1009 tb_126) rfl rfl rfl (by decide +kernel) ⟨Nat.le_of_ble_eq_true rfl, Nat.le_of_ble_eq_true rfl⟩) (PB2.preS hK hE hS hA hw) rfl rfl hl.1 rfl (lv_room (Nat.le_of_ble_eq_true rfl)) dX7_valueOf_48 ⟨Nat.le_of_ble_eq_true rfl, Nat.le_of_ble_eq_true rfl⟩) (fun zi30 hp26 H locs hq29 hw hS => ?_)
    obtain ⟨ok27, F28, bd31, ef32⟩ := hq29
    obtain rfl : hp0 = hp26 := (Fr.nil F28).symm
    have hw : PW G cy K ln Ls A hp0 H := hw
    rw [hQ]
    exact kz_i hx hb hr hlocks hS rfl hp0 hw ⟨ok0, (Fr.rf)⟩ (Nat.le_of_ble_eq_true rfl) (Nat.le_of_ble_eq_true rfl) dX7_valueOf_51
  by_cases cn3 : zi901 = 116
  · skip
    refine lv_tableIn (tgt := 52) hx hb dX7_valueOf_1 (by rw [cn3]; decide) (by rw [cn3]; decide) (by rw [cn3]; rfl) (by decide) ?_
    have bd33 : (116 : Int) ≤ zi901.toInt ∧ zi901.toInt ≤ 116 := r_eq_x cn3 (b_all zi901) bc_116 (by decide) (by decide)
    refine lv_aload_n hx hb dX7_valueOf_52 rfl (lv_at hl 0 rfl) ?_
    obtain ⟨zi35, eq34⟩ := rd_8000 ok0 kd900
    refine p_get (ci := 7) (v := .int zi35) (C := RX7) (T := TX7) (N := 13) hx hb hT iw_X7 hown hK hw hW kd900 (by decide) rfl rfl 0 (by decide) eq34 (hT _ tb_411) (fun _ h9 => h9) dX7_valueOf_53 ?_
    refine lv_sipush (v := 1440) hx hb dX7_valueOf_56 (by decide) ?_
    refine kq_i hw hS hA (va_runS (As := [.int zi35, .int 1440]) (rest := []) ⟨hx, hb, hml, hown, hT⟩ (cJ9_floorMod_7cf53_0 l G cy ev K ln Ls hW _ hp0 ok0 zi35 1440 (b_wid2 bc_1440 (by decide) (by decide))) (va_cwS 2 hT (good_S tb_1090 tb_1088 tb_1089 tb_123) rfl rfl rfl (by decide +kernel) ⟨Nat.le_of_ble_eq_true rfl, Nat.le_of_ble_eq_true rfl⟩) (PB2.preS hK hE hS hA hw) rfl rfl hl.1 rfl (lv_room (Nat.le_of_ble_eq_true rfl)) dX7_valueOf_59 ⟨Nat.le_of_ble_eq_true rfl, Nat.le_of_ble_eq_true rfl⟩) (fun zi40 hp36 H locs hq39 hw hS => ?_)
    obtain ⟨ok37, F38⟩ := hq39
    obtain rfl : hp0 = hp36 := (Fr.nil F38).symm
    have hw : PW G cy K ln Ls A hp0 H := hw
    rw [hQ]
    exact kz_i hx hb hr hlocks hS rfl hp0 hw ⟨ok0, (Fr.rf)⟩ (Nat.le_of_ble_eq_true rfl) (Nat.le_of_ble_eq_true rfl) dX7_valueOf_62
  by_cases cn4 : zi901 = 117
  · skip
    refine lv_tableIn (tgt := 63) hx hb dX7_valueOf_1 (by rw [cn4]; decide) (by rw [cn4]; decide) (by rw [cn4]; rfl) (by decide) ?_
    have bd41 : (117 : Int) ≤ zi901.toInt ∧ zi901.toInt ≤ 117 := r_eq_x cn4 (b_all zi901) bc_117 (by decide) (by decide)
    refine lv_aload_n hx hb dX7_valueOf_63 rfl (lv_at hl 0 rfl) ?_
    obtain ⟨zi43, eq42⟩ := rd_8004 ok0 kd900
    refine p_get (ci := 7) (v := .int zi43) (C := RX7) (T := TX7) (N := 13) hx hb hT iw_X7 hown hK hw hW kd900 (by decide) rfl rfl 4 (by decide) eq42 (hT _ tb_426) (fun _ h9 => h9) dX7_valueOf_64 ?_
    rw [hQ]
    exact kz_i hx hb hr hlocks hS rfl hp0 hw ⟨ok0, (Fr.rf)⟩ (Nat.le_of_ble_eq_true rfl) (Nat.le_of_ble_eq_true rfl) dX7_valueOf_67
  have nn5 : zi901.toInt ≠ 114 := fun e => cn1 (Int32.toInt_inj.mp (e.trans (by decide)))
  have nn6 : zi901.toInt ≠ 115 := fun e => cn2 (Int32.toInt_inj.mp (e.trans (by decide)))
  have nn7 : zi901.toInt ≠ 116 := fun e => cn3 (Int32.toInt_inj.mp (e.trans (by decide)))
  have nn8 : zi901.toInt ≠ 117 := fun e => cn4 (Int32.toInt_inj.mp (e.trans (by decide)))
  refine lv_tableOut (tgt := 68) hx hb dX7_valueOf_1 (by have := (b_all zi901); omega) (by decide) ?_
  refine lv_aload_n hx hb dX7_valueOf_68 rfl (lv_at hl 0 rfl) ?_
  obtain ⟨zi45, eq44⟩ := rd_8003 ok0 kd900
  refine p_get (ci := 7) (v := .int zi45) (C := RX7) (T := TX7) (N := 13) hx hb hT iw_X7 hown hK hw hW kd900 (by decide) rfl rfl 3 (by decide) eq44 (hT _ tb_424) (fun _ h9 => h9) dX7_valueOf_69 ?_
  refine kq_i hw hS hA (va_runS (As := [.int zi45]) (rest := []) ⟨hx, hb, hml, hown, hT⟩ (cJ6_bitCount_0f7a4_0 l G cy ev K ln Ls hW _ hp0 ok0 zi45) (va_cwS 1 hT (good_S tb_1010 tb_1087 tb_1009 tb_126) rfl rfl rfl (by decide +kernel) ⟨Nat.le_of_ble_eq_true rfl, Nat.le_of_ble_eq_true rfl⟩) (PB2.preS hK hE hS hA hw) rfl rfl hl.1 rfl (lv_room (Nat.le_of_ble_eq_true rfl)) dX7_valueOf_72 ⟨Nat.le_of_ble_eq_true rfl, Nat.le_of_ble_eq_true rfl⟩) (fun zi50 hp46 H locs hq49 hw hS => ?_)
  obtain ⟨ok47, F48, bd51, ef52⟩ := hq49
  obtain rfl : hp0 = hp46 := (Fr.nil F48).symm
  have hw : PW G cy K ln Ls A hp0 H := hw
  rw [hQ]
  exact kz_i hx hb hr hlocks hS rfl hp0 hw ⟨ok0, (Fr.rf)⟩ (Nat.le_of_ble_eq_true rfl) (Nat.le_of_ble_eq_true rfl) dX7_valueOf_75

set_option maxRecDepth 100000 in
set_option maxHeartbeats 4000000 in
theorem cX2_push_0 (l : Launch) (G : va_G) (cy : Nat → ClassId) (ev : Ew) (K ln : Nat → Nat) (Ls : List Nat) (hW : SW K ln Ls) (sz : Nat) (hp0 : Nat → Nat → Value) (ok0 : Ok K hp0) (qa900 : Nat) (zi901 : Int32) (kd900 : K qa900 = 3) : Met l yX2_push (WS yX2_push cX2_push 2 none) { frames := 0, cells := 0, slots := 0, locals := 0 } (PB2 [.ref qa900, .int zi901] sz G cy ev (va_pl Ls (cellOf cy K ln hp0))) (QBv (S := (Nat → Nat → Value)) (fun u : (Nat → Nat → Value) => Ok K u ∧ Fr [3003, 27000] K hp0 u) G (fun u => va_pl Ls (cellOf cy K ln u)) (va_A (va_pl Ls (cellOf cy K ln hp0)) sz)) 0 0 (va_A (va_pl Ls (cellOf cy K ln hp0)) sz) := by
  refine met_of2 (y := yX2_push) (L := 2) (av := [.ref qa900, .int zi901]) (Qc := fun A => QBv (S := (Nat → Nat → Value)) (fun u : (Nat → Nat → Value) => Ok K u ∧ Fr [3003, 27000] K hp0 u) G (fun u => va_pl Ls (cellOf cy K ln u)) A) (plainFor_of_name (by decide)) (Nat.le_of_ble_eq_true rfl) ?_
  intro p e s m below meth c hsz hx hb hr hml hown hT hlocks hin hK A hA hE hw hS ls hl
  have hw : PW G cy K ln Ls A hp0 s.heap := hw
  have hown : s.vm.findClass "LieClock$Law" = some m.cls := hown
  have hl : lv_has ls 2 [(0, .ref qa900), (1, .int zi901)] := hl
  obtain ⟨Q, hQ⟩ : ∃ Q : State → Prop, Q = MQ below (QBv (S := (Nat → Nat → Value)) (fun u : (Nat → Nat → Value) => Ok K u ∧ Fr [3003, 27000] K hp0 u) G (fun u => va_pl Ls (cellOf cy K ln u)) A) ([.ref qa900, .int zi901] : List Value).toArray s 0 0 A := ⟨_, rfl⟩
  rw [← hQ]
  refine lv_aload_n hx hb dX2_push_0 rfl (lv_at hl 0 rfl) ?_
  obtain ⟨zi2, eq1, bd3⟩ := rd_3003 ok0 kd900
  refine p_get (ci := 2) (v := .int zi2) (C := RX2) (T := TX2) (N := 5) hx hb hT iw_X2 hown hK hw hW kd900 (by decide) rfl rfl 3 (by decide) eq1 (hT _ tb_168) (fun _ h9 => h9) dX2_push_1 ?_
  refine lv_if_lt (tgt := 36) hx hb dX2_push_4 (by decide) (fun c => absurd c (d_nlt bd3 bc_0 (by decide))) (fun _ => ?_)
  refine lv_aload_n hx hb dX2_push_7 rfl (lv_at hl 0 rfl) ?_
  refine p_get (ci := 2) (v := .int zi2) (C := RX2) (T := TX2) (N := 5) hx hb hT iw_X2 hown hK hw hW kd900 (by decide) rfl rfl 3 (by decide) eq1 (hT _ tb_168) (fun _ h9 => h9) dX2_push_8 ?_
  refine lv_bipush (v := 32) hx hb dX2_push_11 (by decide) ?_
  refine lv_icmp_ge (tgt := 36) hx hb dX2_push_13 (by decide) (fun cn4 => ?_) (fun cn4 => ?_)
  · skip
    have bd5 : (32 : Int) ≤ zi2.toInt ∧ zi2.toInt ≤ 32 := r_le_y cn4 bc_32 bd3 (by decide) (by decide)
    rw [hQ]
    exact kz_v hx hb hr hlocks hS hp0 hw ⟨ok0, (Fr.rf)⟩ (Nat.le_of_ble_eq_true rfl) (Nat.le_of_ble_eq_true rfl) dX2_push_36
  · skip
    have bd6 : (0 : Int) ≤ zi2.toInt ∧ zi2.toInt ≤ 31 := r_lt_x (Int32.not_le.mp cn4) bd3 bc_32 (by decide) (by decide)
    refine lv_aload_n hx hb dX2_push_16 rfl (lv_at hl 0 rfl) ?_
    obtain ⟨qa8, eq7, kd9⟩ := rd_3001 ok0 kd900
    refine p_get (ci := 2) (v := .ref qa8) (C := RX2) (T := TX2) (N := 5) hx hb hT iw_X2 hown hK hw hW kd900 (by decide) rfl rfl 1 (by decide) eq7 (hT _ tb_165) (fun _ h9 => h9) dX2_push_17 ?_
    refine lv_aload_n hx hb dX2_push_20 rfl (lv_at hl 0 rfl) ?_
    refine p_get (ci := 2) (v := .int zi2) (C := RX2) (T := TX2) (N := 5) hx hb hT iw_X2 hown hK hw hW kd900 (by decide) rfl rfl 3 (by decide) eq1 (hT _ tb_168) (fun _ h9 => h9) dX2_push_21 ?_
    refine lv_iload_n hx hb dX2_push_24 rfl (lv_at hl 1 rfl) ?_
    refine p_iast (x := zi901) hx hb hK hw hS hW kd9 (by decide) rfl (hW.len kd9 (n := 32) rfl (by decide)) (vp_b bd6 (by decide) (by decide)) dX2_push_25 (fun hp10 eh11 H locs hw hS => ?_)
    have ok12 := wr_27000 ok0 kd9 eh11
    refine lv_aload_n hx hb dX2_push_26 rfl (lv_at hl 0 rfl) ?_
    refine lv_dup hx hb dX2_push_27 rfl ?_
    have eq13 : hp10 qa900 3 = .int zi2 := Eq.trans (up_at eh11 (Or.inl (kd_ne kd900 kd9 (by decide)))) eq1
    refine p_get (ci := 2) (v := .int zi2) (C := RX2) (T := TX2) (N := 5) hx hb hT iw_X2 hown hK hw hW kd900 (by decide) rfl rfl 3 (by decide) eq13 (hT _ tb_168) (fun _ h9 => h9) dX2_push_28 ?_
    refine lv_iconst (v := 1) hx hb dX2_push_31 (by decide) ?_
    refine lv_iadd hx hb dX2_push_32 (lv_topi (fun zi14 ea15 => ?_))
    have bd16 : (1 : Int) ≤ zi14.toInt ∧ zi14.toInt ≤ 32 := b_iadd ea15 bd6 bc_1 (by decide) (by decide) (by decide) (by decide)
    have qe17 : zi14.toInt = (zi2 : Int32).toInt + (1 : Int32).toInt := e_iadd ea15 bd6 bc_1 (by decide) (by decide)
    have qe18 : zi14.toInt = zi2.toInt + 1 := by have ha : (1 : Int32).toInt = 1 := (by decide); rw [ha] at qe17; exact qe17
    refine p_put (ci := 2) (v := .int zi14) (ty := .int) (C := RX2) (T := TX2) (N := 5) hx hb hT iw_X2 tyX2 tyX2_ok nmX2 hown hK hw hS hW kd900 (by decide) rfl rfl 3 (by decide) (hT _ tb_168) (fun _ h9 => h9) rfl (by decide +kernel) rfl rfl dX2_push_33 (fun hp19 eh20 H locs hw hS => ?_)
    have ok21 := wr_3003 bd16 (by decide) (by decide) ok12 kd900 eh20
    rw [hQ]
    exact kz_v hx hb hr hlocks hS hp19 hw ⟨ok21, (Fr.put (cq := 3003) (Fr.put (cq := 27000) (Fr.rf) eh11 kd9 (cd_a (by decide)) (by decide)) eh20 kd900 (cd_o (by decide)) (by decide))⟩ (Nat.le_of_ble_eq_true rfl) (Nat.le_of_ble_eq_true rfl) dX2_push_36

set_option maxRecDepth 100000 in
set_option maxHeartbeats 4000000 in
theorem cX2_operate_0 (l : Launch) (G : va_G) (cy : Nat → ClassId) (ev : Ew) (K ln : Nat → Nat) (Ls : List Nat) (hW : SW K ln Ls) (sz : Nat) (hp0 : Nat → Nat → Value) (ok0 : Ok K hp0) (qa900 : Nat) (zi901 : Int32) (kd900 : K qa900 = 3) : Met l yX2_operate (WS yX2_operate cX2_operate 5 none) { frames := 0, cells := 0, slots := 0, locals := 0 } (PB2 [.ref qa900, .int zi901] sz G cy ev (va_pl Ls (cellOf cy K ln hp0))) (QBv (S := (Nat → Nat → Value)) (fun u : (Nat → Nat → Value) => Ok K u ∧ Fr [3003, 3004, 27000] K hp0 u) G (fun u => va_pl Ls (cellOf cy K ln u)) (va_A (va_pl Ls (cellOf cy K ln hp0)) sz)) 0 0 (va_A (va_pl Ls (cellOf cy K ln hp0)) sz) := by
  refine met_of2 (y := yX2_operate) (L := 5) (av := [.ref qa900, .int zi901]) (Qc := fun A => QBv (S := (Nat → Nat → Value)) (fun u : (Nat → Nat → Value) => Ok K u ∧ Fr [3003, 3004, 27000] K hp0 u) G (fun u => va_pl Ls (cellOf cy K ln u)) A) (plainFor_of_name (by decide)) (Nat.le_of_ble_eq_true rfl) ?_
  intro p e s m below meth c hsz hx hb hr hml hown hT hlocks hin hK A hA hE hw hS ls hl
  have hw : PW G cy K ln Ls A hp0 s.heap := hw
  have hown : s.vm.findClass "LieClock$Law" = some m.cls := hown
  have hl : lv_has ls 5 [(0, .ref qa900), (1, .int zi901)] := hl
  obtain ⟨Q, hQ⟩ : ∃ Q : State → Prop, Q = MQ below (QBv (S := (Nat → Nat → Value)) (fun u : (Nat → Nat → Value) => Ok K u ∧ Fr [3003, 3004, 27000] K hp0 u) G (fun u => va_pl Ls (cellOf cy K ln u)) A) ([.ref qa900, .int zi901] : List Value).toArray s 0 0 A := ⟨_, rfl⟩
  rw [← hQ]
  refine lv_aload_n hx hb dX2_operate_0 rfl (lv_at hl 0 rfl) ?_
  obtain ⟨zi2, eq1, bd3⟩ := rd_3003 ok0 kd900
  refine p_get (ci := 2) (v := .int zi2) (C := RX2) (T := TX2) (N := 5) hx hb hT iw_X2 hown hK hw hW kd900 (by decide) rfl rfl 3 (by decide) eq1 (hT _ tb_168) (fun _ h9 => h9) dX2_operate_1 ?_
  refine lv_iconst (v := 2) hx hb dX2_operate_4 (by decide) ?_
  refine lv_icmp_lt (tgt := 17) hx hb dX2_operate_5 (by decide) (fun cn4 => ?_) (fun cn4 => ?_)
  · skip
    have bd5 : (0 : Int) ≤ zi2.toInt ∧ zi2.toInt ≤ 1 := r_lt_x cn4 bd3 bc_2 (by decide) (by decide)
    rw [hQ]
    exact kz_v hx hb hr hlocks hS hp0 hw ⟨ok0, (Fr.rf)⟩ (Nat.le_of_ble_eq_true rfl) (Nat.le_of_ble_eq_true rfl) dX2_operate_17
  · skip
    have bd6 : (2 : Int) ≤ zi2.toInt ∧ zi2.toInt ≤ 32 := r_le_y (Int32.not_lt.mp cn4) bc_2 bd3 (by decide) (by decide)
    refine lv_aload_n hx hb dX2_operate_8 rfl (lv_at hl 0 rfl) ?_
    refine p_get (ci := 2) (v := .int zi2) (C := RX2) (T := TX2) (N := 5) hx hb hT iw_X2 hown hK hw hW kd900 (by decide) rfl rfl 3 (by decide) eq1 (hT _ tb_168) (fun _ h9 => h9) dX2_operate_9 ?_
    refine lv_bipush (v := 32) hx hb dX2_operate_12 (by decide) ?_
    refine lv_icmp_le (tgt := 18) hx hb dX2_operate_14 (by decide) (fun _ => ?_) (fun c => absurd (d_le bd6 bc_32 (by decide)) c)
    refine lv_aload_n hx hb dX2_operate_18 rfl (lv_at hl 0 rfl) ?_
    refine lv_dup hx hb dX2_operate_19 rfl ?_
    refine p_get (ci := 2) (v := .int zi2) (C := RX2) (T := TX2) (N := 5) hx hb hT iw_X2 hown hK hw hW kd900 (by decide) rfl rfl 3 (by decide) eq1 (hT _ tb_168) (fun _ h9 => h9) dX2_operate_20 ?_
    refine lv_iconst (v := 1) hx hb dX2_operate_23 (by decide) ?_
    refine lv_isub hx hb dX2_operate_24 (lv_topi (fun zi7 ea8 => ?_))
    have bd9 : (1 : Int) ≤ zi7.toInt ∧ zi7.toInt ≤ 31 := b_isub ea8 bd6 bc_1 (by decide) (by decide) (by decide) (by decide)
    have qe10 : zi7.toInt = (zi2 : Int32).toInt - (1 : Int32).toInt := e_isub ea8 bd6 bc_1 (by decide) (by decide)
    have qe11 : zi7.toInt = zi2.toInt - 1 := by have ha : (1 : Int32).toInt = 1 := (by decide); rw [ha] at qe10; exact qe10
    refine p_put (ci := 2) (v := .int zi7) (ty := .int) (C := RX2) (T := TX2) (N := 5) hx hb hT iw_X2 tyX2 tyX2_ok nmX2 hown hK hw hS hW kd900 (by decide) rfl rfl 3 (by decide) (hT _ tb_168) (fun _ h9 => h9) rfl (by decide +kernel) rfl rfl dX2_operate_25 (fun hp12 eh13 H locs hw hS => ?_)
    have ok14 := wr_3003 bd9 (by decide) (by decide) ok0 kd900 eh13
    refine lv_aload_n hx hb dX2_operate_28 rfl (lv_at hl 0 rfl) ?_
    obtain ⟨qa16, eq15, kd17⟩ := rd_3001 ok14 kd900
    refine p_get (ci := 2) (v := .ref qa16) (C := RX2) (T := TX2) (N := 5) hx hb hT iw_X2 hown hK hw hW kd900 (by decide) rfl rfl 1 (by decide) eq15 (hT _ tb_165) (fun _ h9 => h9) dX2_operate_29 ?_
    refine lv_aload_n hx hb dX2_operate_32 rfl (lv_at hl 0 rfl) ?_
    refine p_get (ci := 2) (v := .int zi7) (C := RX2) (T := TX2) (N := 5) hx hb hT iw_X2 hown hK hw hW kd900 (by decide) rfl rfl 3 (by decide) (hp_self eh13) (hT _ tb_168) (fun _ h9 => h9) dX2_operate_33 ?_
    obtain ⟨zi19, eq18⟩ := rd_27000 ok14 kd17 ((zi7 : Int32).toNatClampNeg)
    refine p_iald (v := zi19) hx hb hK hw hW kd17 (by decide) rfl (hW.len kd17 (n := 32) rfl (by decide)) (vp_b bd9 (by decide) (by decide)) eq18 dX2_operate_36 ?_
    refine lv_istore_n (lv' := [(2, .int zi19), (0, .ref qa900), (1, .int zi901)]) hx hb dX2_operate_37 rfl hl (by decide) rfl (fun ls hl => ?_)
    refine lv_aload_n hx hb dX2_operate_38 rfl (lv_at hl 1 rfl) ?_
    refine p_get (ci := 2) (v := .ref qa16) (C := RX2) (T := TX2) (N := 5) hx hb hT iw_X2 hown hK hw hW kd900 (by decide) rfl rfl 1 (by decide) eq15 (hT _ tb_165) (fun _ h9 => h9) dX2_operate_39 ?_
    refine lv_aload_n hx hb dX2_operate_42 rfl (lv_at hl 1 rfl) ?_
    refine p_get (ci := 2) (v := .int zi7) (C := RX2) (T := TX2) (N := 5) hx hb hT iw_X2 hown hK hw hW kd900 (by decide) rfl rfl 3 (by decide) (hp_self eh13) (hT _ tb_168) (fun _ h9 => h9) dX2_operate_43 ?_
    refine lv_iconst (v := 1) hx hb dX2_operate_46 (by decide) ?_
    refine lv_isub hx hb dX2_operate_47 (lv_topi (fun zi20 ea21 => ?_))
    have bd22 : (0 : Int) ≤ zi20.toInt ∧ zi20.toInt ≤ 30 := b_isub ea21 bd9 bc_1 (by decide) (by decide) (by decide) (by decide)
    have qe23 : zi20.toInt = (zi7 : Int32).toInt - (1 : Int32).toInt := e_isub ea21 bd9 bc_1 (by decide) (by decide)
    have qe24 : zi20.toInt = zi7.toInt - 1 := by have ha : (1 : Int32).toInt = 1 := (by decide); rw [ha] at qe23; exact qe23
    obtain ⟨zi26, eq25⟩ := rd_27000 ok14 kd17 ((zi20 : Int32).toNatClampNeg)
    refine p_iald (v := zi26) hx hb hK hw hW kd17 (by decide) rfl (hW.len kd17 (n := 32) rfl (by decide)) (vp_b bd22 (by decide) (by decide)) eq25 dX2_operate_48 ?_
    refine lv_istore_n (lv' := [(3, .int zi26), (2, .int zi19), (0, .ref qa900), (1, .int zi901)]) hx hb dX2_operate_49 rfl hl (by decide) rfl (fun ls hl => ?_)
    refine lv_iconst (v := 0) hx hb dX2_operate_50 (by decide) ?_
    refine lv_istore (lv' := [(4, .int 0), (3, .int zi26), (2, .int zi19), (0, .ref qa900), (1, .int zi901)]) hx hb dX2_operate_51 hl (by decide) rfl (fun ls hl => ?_)
    refine lv_iload_n hx hb dX2_operate_53 rfl (lv_at hl 4 rfl) ?_
    have jn63 : ∀ (hp60 : Nat → Nat → Value) (zi59 : Int32) (H : Heap) (locs : List Loc) (ls : Array Slot), Ok K hp60 → Fr [3004] K hp12 hp60 → lv_has ls 5 [(0, .ref qa900), (4, .int zi59)] → PW G cy K ln Ls A hp60 H → va_S A s.heap H locs → W p l e ({ frames := 0, cells := 0, slots := 0, locals := 0 } : Room) s m ([.ref qa900, .int zi901] : List Value).toArray below meth c H locs 0 0 Q (F0 m 125 ls []) := by
      intro hp60 zi59 H locs ls ok62 F61 hl hw hS
      refine lv_aload_n hx hb dX2_operate_125 rfl (lv_at hl 0 rfl) ?_
      have eq64 : hp60 qa900 1 = .ref qa16 := Eq.trans (Fr.at (cq := 3001) F61 kd900 (cd_o (by decide)) (by decide)) eq15
      refine p_get (ci := 2) (v := .ref qa16) (C := RX2) (T := TX2) (N := 5) hx hb hT iw_X2 hown hK hw hW kd900 (by decide) rfl rfl 1 (by decide) eq64 (hT _ tb_165) (fun _ h9 => h9) dX2_operate_126 ?_
      refine lv_aload_n hx hb dX2_operate_129 rfl (lv_at hl 0 rfl) ?_
      have eq65 : hp60 qa900 3 = .int zi7 := Eq.trans (Fr.at (cq := 3003) F61 kd900 (cd_o (by decide)) (by decide)) (hp_self eh13)
      refine p_get (ci := 2) (v := .int zi7) (C := RX2) (T := TX2) (N := 5) hx hb hT iw_X2 hown hK hw hW kd900 (by decide) rfl rfl 3 (by decide) eq65 (hT _ tb_168) (fun _ h9 => h9) dX2_operate_130 ?_
      refine lv_iconst (v := 1) hx hb dX2_operate_133 (by decide) ?_
      refine lv_isub hx hb dX2_operate_134 (lv_topi (fun zi66 ea67 => ?_))
      have bd68 : (0 : Int) ≤ zi66.toInt ∧ zi66.toInt ≤ 30 := b_isub ea67 bd9 bc_1 (by decide) (by decide) (by decide) (by decide)
      have qe69 : zi66.toInt = (zi7 : Int32).toInt - (1 : Int32).toInt := e_isub ea67 bd9 bc_1 (by decide) (by decide)
      have qe70 : zi66.toInt = zi7.toInt - 1 := by have ha : (1 : Int32).toInt = 1 := (by decide); rw [ha] at qe69; exact qe69
      refine lv_iload hx hb dX2_operate_135 (lv_at hl 1 rfl) ?_
      refine p_iast (x := zi59) hx hb hK hw hS hW kd17 (by decide) rfl (hW.len kd17 (n := 32) rfl (by decide)) (vp_b bd68 (by decide) (by decide)) dX2_operate_137 (fun hp71 eh72 H locs hw hS => ?_)
      have ok73 := wr_27000 ok62 kd17 eh72
      rw [hQ]
      exact kz_v hx hb hr hlocks hS hp71 hw ⟨ok73, (Fr.put (cq := 27000) (Fr.tr (Fr.put (cq := 3003) (Fr.rf) eh13 kd900 (cd_o (by decide)) (by decide)) F61 (by decide)) eh72 kd17 (cd_a (by decide)) (by decide))⟩ (Nat.le_of_ble_eq_true rfl) (Nat.le_of_ble_eq_true rfl) dX2_operate_138
    by_cases cn27 : zi901 = 42
    · skip
      refine lv_tableIn (tgt := 100) hx hb dX2_operate_54 (by rw [cn27]; decide) (by rw [cn27]; decide) (by rw [cn27]; rfl) (by decide) ?_
      have bd74 : (42 : Int) ≤ zi901.toInt ∧ zi901.toInt ≤ 42 := r_eq_x cn27 (b_all zi901) bc_42 (by decide) (by decide)
      refine lv_iload_n hx hb dX2_operate_100 rfl (lv_at hl 1 rfl) ?_
      refine lv_iload_n hx hb dX2_operate_101 rfl (lv_at hl 2 rfl) ?_
      refine lv_imul hx hb dX2_operate_102 (lv_topi (fun zi75 ea76 => ?_))
      refine lv_istore (lv' := [(4, .int zi75), (3, .int zi26), (2, .int zi19), (0, .ref qa900), (1, .int zi901)]) hx hb dX2_operate_103 hl (by decide) rfl (fun ls hl => ?_)
      refine lv_goto (tgt := 125) hx hb dX2_operate_105 (by decide) ?_
      exact jn63 hp12 zi75 _ _ ls ok14 (Fr.rf) (lv_sub hl [3, 0] rfl) hw hS
    by_cases cn28 : zi901 = 43
    · skip
      refine lv_tableIn (tgt := 84) hx hb dX2_operate_54 (by rw [cn28]; decide) (by rw [cn28]; decide) (by rw [cn28]; rfl) (by decide) ?_
      have bd77 : (43 : Int) ≤ zi901.toInt ∧ zi901.toInt ≤ 43 := r_eq_x cn28 (b_all zi901) bc_43 (by decide) (by decide)
      refine lv_iload_n hx hb dX2_operate_84 rfl (lv_at hl 1 rfl) ?_
      refine lv_iload_n hx hb dX2_operate_85 rfl (lv_at hl 2 rfl) ?_
      refine lv_iadd hx hb dX2_operate_86 (lv_topi (fun zi78 ea79 => ?_))
      refine lv_istore (lv' := [(4, .int zi78), (3, .int zi26), (2, .int zi19), (0, .ref qa900), (1, .int zi901)]) hx hb dX2_operate_87 hl (by decide) rfl (fun ls hl => ?_)
      refine lv_goto (tgt := 125) hx hb dX2_operate_89 (by decide) ?_
      exact jn63 hp12 zi78 _ _ ls ok14 (Fr.rf) (lv_sub hl [3, 0] rfl) hw hS
    by_cases cn29 : zi901 = 44
    · skip
      refine lv_tableIn (tgt := 108) hx hb dX2_operate_54 (by rw [cn29]; decide) (by rw [cn29]; decide) (by rw [cn29]; rfl) (by decide) ?_
      have bd80 : (44 : Int) ≤ zi901.toInt ∧ zi901.toInt ≤ 44 := r_eq_x cn29 (b_all zi901) bc_44 (by decide) (by decide)
      refine lv_iload_n hx hb dX2_operate_108 rfl (lv_at hl 2 rfl) ?_
      refine lv_if_ne (tgt := 120) hx hb dX2_operate_109 (by decide) (fun cn81 => ?_) (fun cn81 => ?_)
      · skip
        refine lv_iload_n hx hb dX2_operate_120 rfl (lv_at hl 1 rfl) ?_
        refine lv_iload_n hx hb dX2_operate_121 rfl (lv_at hl 2 rfl) ?_
        refine lv_idiv hx hb dX2_operate_122 cn81 (lv_topi (fun zi82 ea83 => ?_))
        refine lv_istore (lv' := [(4, .int zi82), (3, .int zi26), (2, .int zi19), (0, .ref qa900), (1, .int zi901)]) hx hb dX2_operate_123 hl (by decide) rfl (fun ls hl => ?_)
        exact jn63 hp12 zi82 _ _ ls ok14 (Fr.rf) (lv_sub hl [3, 0] rfl) hw hS
      · skip
        have bd84 : (0 : Int) ≤ zi19.toInt ∧ zi19.toInt ≤ 0 := r_eq_x cn81 (b_all zi19) bc_0 (by decide) (by decide)
        refine lv_aload_n hx hb dX2_operate_112 rfl (lv_at hl 3 rfl) ?_
        refine lv_iconst (v := 1) hx hb dX2_operate_113 (by decide) ?_
        refine p_put (ci := 2) (v := .int 1) (ty := .boolean) (C := RX2) (T := TX2) (N := 5) hx hb hT iw_X2 tyX2 tyX2_ok nmX2 hown hK hw hS hW kd900 (by decide) rfl rfl 4 (by decide) (hT _ tb_169) (fun _ h9 => h9) rfl (by decide +kernel) (nz_n bc_1 (by decide) (by decide)) (nz_f bc_1 (by decide) (by decide)) dX2_operate_114 (fun hp85 eh86 H locs hw hS => ?_)
        have ok87 := wr_3004 bc_1 (by decide) (by decide) ok14 kd900 eh86
        refine lv_goto (tgt := 125) hx hb dX2_operate_117 (by decide) ?_
        exact jn63 hp85 0 _ _ ls ok87 (Fr.put (cq := 3004) (Fr.rf) eh86 kd900 (cd_o (by decide)) (by decide)) (lv_sub hl [3, 0] rfl) hw hS
    by_cases cn30 : zi901 = 45
    · skip
      refine lv_tableIn (tgt := 92) hx hb dX2_operate_54 (by rw [cn30]; decide) (by rw [cn30]; decide) (by rw [cn30]; rfl) (by decide) ?_
      have bd88 : (45 : Int) ≤ zi901.toInt ∧ zi901.toInt ≤ 45 := r_eq_x cn30 (b_all zi901) bc_45 (by decide) (by decide)
      refine lv_iload_n hx hb dX2_operate_92 rfl (lv_at hl 1 rfl) ?_
      refine lv_iload_n hx hb dX2_operate_93 rfl (lv_at hl 2 rfl) ?_
      refine lv_isub hx hb dX2_operate_94 (lv_topi (fun zi89 ea90 => ?_))
      refine lv_istore (lv' := [(4, .int zi89), (3, .int zi26), (2, .int zi19), (0, .ref qa900), (1, .int zi901)]) hx hb dX2_operate_95 hl (by decide) rfl (fun ls hl => ?_)
      refine lv_goto (tgt := 125) hx hb dX2_operate_97 (by decide) ?_
      exact jn63 hp12 zi89 _ _ ls ok14 (Fr.rf) (lv_sub hl [3, 0] rfl) hw hS
    have nn31 : zi901.toInt ≠ 42 := fun e => cn27 (Int32.toInt_inj.mp (e.trans (by decide)))
    have nn32 : zi901.toInt ≠ 43 := fun e => cn28 (Int32.toInt_inj.mp (e.trans (by decide)))
    have nn33 : zi901.toInt ≠ 44 := fun e => cn29 (Int32.toInt_inj.mp (e.trans (by decide)))
    have nn34 : zi901.toInt ≠ 45 := fun e => cn30 (Int32.toInt_inj.mp (e.trans (by decide)))
    refine lv_tableOut (tgt := 108) hx hb dX2_operate_54 (by have := (b_all zi901); omega) (by decide) ?_
    refine lv_iload_n hx hb dX2_operate_108 rfl (lv_at hl 2 rfl) ?_
    refine lv_if_ne (tgt := 120) hx hb dX2_operate_109 (by decide) (fun cn91 => ?_) (fun cn91 => ?_)
    · skip
      refine lv_iload_n hx hb dX2_operate_120 rfl (lv_at hl 1 rfl) ?_
      refine lv_iload_n hx hb dX2_operate_121 rfl (lv_at hl 2 rfl) ?_
      refine lv_idiv hx hb dX2_operate_122 cn91 (lv_topi (fun zi92 ea93 => ?_))
      refine lv_istore (lv' := [(4, .int zi92), (3, .int zi26), (2, .int zi19), (0, .ref qa900), (1, .int zi901)]) hx hb dX2_operate_123 hl (by decide) rfl (fun ls hl => ?_)
      exact jn63 hp12 zi92 _ _ ls ok14 (Fr.rf) (lv_sub hl [3, 0] rfl) hw hS
    · skip
      have bd94 : (0 : Int) ≤ zi19.toInt ∧ zi19.toInt ≤ 0 := r_eq_x cn91 (b_all zi19) bc_0 (by decide) (by decide)
      refine lv_aload_n hx hb dX2_operate_112 rfl (lv_at hl 3 rfl) ?_
      refine lv_iconst (v := 1) hx hb dX2_operate_113 (by decide) ?_
      refine p_put (ci := 2) (v := .int 1) (ty := .boolean) (C := RX2) (T := TX2) (N := 5) hx hb hT iw_X2 tyX2 tyX2_ok nmX2 hown hK hw hS hW kd900 (by decide) rfl rfl 4 (by decide) (hT _ tb_169) (fun _ h9 => h9) rfl (by decide +kernel) (nz_n bc_1 (by decide) (by decide)) (nz_f bc_1 (by decide) (by decide)) dX2_operate_114 (fun hp95 eh96 H locs hw hS => ?_)
      have ok97 := wr_3004 bc_1 (by decide) (by decide) ok14 kd900 eh96
      refine lv_goto (tgt := 125) hx hb dX2_operate_117 (by decide) ?_
      exact jn63 hp95 0 _ _ ls ok97 (Fr.put (cq := 3004) (Fr.rf) eh96 kd900 (cd_o (by decide)) (by decide)) (lv_sub hl [3, 0] rfl) hw hS

set_option maxRecDepth 100000 in
set_option maxHeartbeats 4000000 in
theorem cX2_minutes_0 (l : Launch) (G : va_G) (cy : Nat → ClassId) (ev : Ew) (K ln : Nat → Nat) (Ls : List Nat) (hW : SW K ln Ls) (sz : Nat) (hp0 : Nat → Nat → Value) (ok0 : Ok K hp0) (qa900 : Nat) (qa901 : Nat) (zi902 : Int32) (kd900 : K qa900 = 3) (kd901 : K qa901 = 8) : Met l yX2_minutes (WS yX2_minutes cX2_minutes 5 (some .int)) { frames := 2, cells := 0, slots := 0, locals := 44 } (PB2 [.ref qa900, .ref qa901, .int zi902] sz G cy ev (va_pl Ls (cellOf cy K ln hp0))) (QBi (S := (Nat → Nat → Value)) (fun (r : Int32) (u : (Nat → Nat → Value)) => Ok K u ∧ Fr [3003, 3004, 27000] K hp0 u ∧ ((0 : Int) ≤ r.toInt ∧ r.toInt ≤ 120)) G (fun u => va_pl Ls (cellOf cy K ln u)) (va_A (va_pl Ls (cellOf cy K ln hp0)) sz)) 0 0 (va_A (va_pl Ls (cellOf cy K ln hp0)) sz) := by
  refine met_of2 (y := yX2_minutes) (L := 5) (av := [.ref qa900, .ref qa901, .int zi902]) (Qc := fun A => QBi (S := (Nat → Nat → Value)) (fun (r : Int32) (u : (Nat → Nat → Value)) => Ok K u ∧ Fr [3003, 3004, 27000] K hp0 u ∧ ((0 : Int) ≤ r.toInt ∧ r.toInt ≤ 120)) G (fun u => va_pl Ls (cellOf cy K ln u)) A) (plainFor_of_name (by decide)) (Nat.le_of_ble_eq_true rfl) ?_
  intro p e s m below meth c hsz hx hb hr hml hown hT hlocks hin hK A hA hE hw hS ls hl
  have hw : PW G cy K ln Ls A hp0 s.heap := hw
  have hown : s.vm.findClass "LieClock$Law" = some m.cls := hown
  have hl : lv_has ls 5 [(0, .ref qa900), (1, .ref qa901), (2, .int zi902)] := hl
  obtain ⟨Q, hQ⟩ : ∃ Q : State → Prop, Q = MQ below (QBi (S := (Nat → Nat → Value)) (fun (r : Int32) (u : (Nat → Nat → Value)) => Ok K u ∧ Fr [3003, 3004, 27000] K hp0 u ∧ ((0 : Int) ≤ r.toInt ∧ r.toInt ≤ 120)) G (fun u => va_pl Ls (cellOf cy K ln u)) A) ([.ref qa900, .ref qa901, .int zi902] : List Value).toArray s 0 0 A := ⟨_, rfl⟩
  rw [← hQ]
  refine lv_aload_n hx hb dX2_minutes_0 rfl (lv_at hl 0 rfl) ?_
  refine lv_iconst (v := 0) hx hb dX2_minutes_1 (by decide) ?_
  refine p_put (ci := 2) (v := .int 0) (ty := .int) (C := RX2) (T := TX2) (N := 5) hx hb hT iw_X2 tyX2 tyX2_ok nmX2 hown hK hw hS hW kd900 (by decide) rfl rfl 3 (by decide) (hT _ tb_168) (fun _ h9 => h9) rfl (by decide +kernel) rfl rfl dX2_minutes_2 (fun hp1 eh2 H locs hw hS => ?_)
  have ok3 := wr_3003 bc_0 (by decide) (by decide) ok0 kd900 eh2
  refine lv_aload_n hx hb dX2_minutes_5 rfl (lv_at hl 0 rfl) ?_
  refine lv_iconst (v := 0) hx hb dX2_minutes_6 (by decide) ?_
  refine p_put (ci := 2) (v := .int 0) (ty := .boolean) (C := RX2) (T := TX2) (N := 5) hx hb hT iw_X2 tyX2 tyX2_ok nmX2 hown hK hw hS hW kd900 (by decide) rfl rfl 4 (by decide) (hT _ tb_169) (fun _ h9 => h9) rfl (by decide +kernel) (nz_n bc_0 (by decide) (by decide)) (nz_f bc_0 (by decide) (by decide)) dX2_minutes_7 (fun hp4 eh5 H locs hw hS => ?_)
  have ok6 := wr_3004 bc_0 (by decide) (by decide) ok3 kd900 eh5
  refine lv_iconst (v := 0) hx hb dX2_minutes_10 (by decide) ?_
  refine lv_istore_n (lv' := [(3, .int 0), (0, .ref qa900), (1, .ref qa901), (2, .int zi902)]) hx hb dX2_minutes_11 rfl hl (by decide) rfl (fun ls hl => ?_)
  have lp750 : ∀ (n748 : Nat) (hp586 : Nat → Nat → Value) (zi585 : Int32) (H : Heap) (locs : List Loc) (ls : Array Slot), 400 - zi585.toInt < (n748 : Int) → Ok K hp586 → Fr [3003, 3004, 27000] K hp4 hp586 → ((0 : Int) ≤ zi585.toInt ∧ zi585.toInt ≤ 400) → lv_has ls 5 [(0, .ref qa900), (1, .ref qa901), (2, .int zi902), (3, .int zi585)] → PW G cy K ln Ls A hp586 H → va_S A s.heap H locs → W p l e ({ frames := 2, cells := 0, slots := 0, locals := 44 } : Room) s m ([.ref qa900, .ref qa901, .int zi902] : List Value).toArray below meth c H locs 0 0 Q (F0 m 12 ls []) := by
    intro n748
    induction n748 with
    | zero =>
      intro hp586 zi585 H locs ls hm751 ok588 F587 bd589 hl hw hS
      exact absurd hm751 (by have := bd589; omega)
    | succ n748 ih749 =>
      intro hp586 zi585 H locs ls hm751 ok588 F587 bd589 hl hw hS
      refine lv_iload_n hx hb dX2_minutes_12 rfl (lv_at hl 3 rfl) ?_
      refine lv_aload_n hx hb dX2_minutes_13 rfl (lv_at hl 0 rfl) ?_
      obtain ⟨zi753, eq752, bd754⟩ := rd_3002 ok588 kd900
      refine p_get (ci := 2) (v := .int zi753) (C := RX2) (T := TX2) (N := 5) hx hb hT iw_X2 hown hK hw hW kd900 (by decide) rfl rfl 2 (by decide) eq752 (hT _ tb_166) (fun _ h9 => h9) dX2_minutes_14 ?_
      refine lv_icmp_ge (tgt := 77) hx hb dX2_minutes_17 (by decide) (fun cn755 => ?_) (fun cn755 => ?_)
      · skip
        refine lv_aload_n hx hb dX2_minutes_77 rfl (lv_at hl 0 rfl) ?_
        obtain ⟨zi832, eq831, bd833⟩ := rd_3004 ok588 kd900
        refine p_get (ci := 2) (v := .int zi832) (C := RX2) (T := TX2) (N := 5) hx hb hT iw_X2 hown hK hw hW kd900 (by decide) rfl rfl 4 (by decide) eq831 (hT _ tb_169) (fun _ h9 => h9) dX2_minutes_78 ?_
        refine lv_if_ne (tgt := 92) hx hb dX2_minutes_81 (by decide) (fun cn834 => ?_) (fun cn834 => ?_)
        · skip
          have bd835 : (1 : Int) ≤ zi832.toInt ∧ zi832.toInt ≤ 1 := r_ne_lo cn834 bd833 (toi bc_0) (by decide) (by decide)
          refine lv_iconst (v := 0) hx hb dX2_minutes_92 (by decide) ?_
          rw [hQ]
          exact kz_i hx hb hr hlocks hS rfl hp586 hw ⟨ok588, (Fr.tr (Fr.put (cq := 3004) (Fr.put (cq := 3003) (Fr.rf) eh2 kd900 (cd_o (by decide)) (by decide)) eh5 kd900 (cd_o (by decide)) (by decide)) F587 (by decide)), (b_wid2 bc_0 (by decide) (by decide))⟩ (Nat.le_of_ble_eq_true rfl) (Nat.le_of_ble_eq_true rfl) dX2_minutes_93
        · skip
          have bd836 : (0 : Int) ≤ zi832.toInt ∧ zi832.toInt ≤ 0 := r_eq_x cn834 bd833 bc_0 (by decide) (by decide)
          refine lv_aload_n hx hb dX2_minutes_84 rfl (lv_at hl 0 rfl) ?_
          obtain ⟨zi838, eq837, bd839⟩ := rd_3003 ok588 kd900
          refine p_get (ci := 2) (v := .int zi838) (C := RX2) (T := TX2) (N := 5) hx hb hT iw_X2 hown hK hw hW kd900 (by decide) rfl rfl 3 (by decide) eq837 (hT _ tb_168) (fun _ h9 => h9) dX2_minutes_85 ?_
          refine lv_iconst (v := 1) hx hb dX2_minutes_88 (by decide) ?_
          refine lv_icmp_ge (tgt := 94) hx hb dX2_minutes_89 (by decide) (fun cn840 => ?_) (fun cn840 => ?_)
          · skip
            have bd841 : (1 : Int) ≤ zi838.toInt ∧ zi838.toInt ≤ 32 := r_le_y cn840 bc_1 bd839 (by decide) (by decide)
            refine lv_iconst (v := 0) hx hb dX2_minutes_94 (by decide) ?_
            refine lv_bipush (v := 120) hx hb dX2_minutes_95 (by decide) ?_
            refine lv_aload_n hx hb dX2_minutes_97 rfl (lv_at hl 0 rfl) ?_
            obtain ⟨qa843, eq842, kd844⟩ := rd_3001 ok588 kd900
            refine p_get (ci := 2) (v := .ref qa843) (C := RX2) (T := TX2) (N := 5) hx hb hT iw_X2 hown hK hw hW kd900 (by decide) rfl rfl 1 (by decide) eq842 (hT _ tb_165) (fun _ h9 => h9) dX2_minutes_98 ?_
            refine lv_iconst (v := 0) hx hb dX2_minutes_101 (by decide) ?_
            obtain ⟨zi846, eq845⟩ := rd_27000 ok588 kd844 ((0 : Int32).toNatClampNeg)
            refine p_iald (v := zi846) hx hb hK hw hW kd844 (by decide) rfl (hW.len kd844 (n := 32) rfl (by decide)) (vp_b bc_0 (by decide) (by decide)) eq845 dX2_minutes_102 ?_
            refine va_mmin hx hb (hml.trans hl.1.symm) hown (hT _ tb_1091) (hT _ tb_791) (hT _ tb_123) (hT _ tb_792) (Nat.le_of_ble_eq_true rfl) (Nat.le_of_ble_eq_true rfl) (Nat.le_of_ble_eq_true rfl) (Nat.le_of_ble_eq_true rfl) dX2_minutes_103 (lv_topi (fun zi847 ea848 => ?_))
            have bd849 : (-2147483648 : Int) ≤ zi847.toInt ∧ zi847.toInt ≤ 120 := b_min ea848 bc_120 (b_all zi846) (by decide) (by decide) (by decide)
            refine va_mmax hx hb (hml.trans hl.1.symm) hown (hT _ tb_1092) (hT _ tb_788) (hT _ tb_123) (hT _ tb_789) (Nat.le_of_ble_eq_true rfl) (Nat.le_of_ble_eq_true rfl) (Nat.le_of_ble_eq_true rfl) (Nat.le_of_ble_eq_true rfl) dX2_minutes_106 (lv_topi (fun zi850 ea851 => ?_))
            have bd852 : (0 : Int) ≤ zi850.toInt ∧ zi850.toInt ≤ 120 := b_max ea851 bc_0 bd849 (by decide) (by decide) (by decide)
            rw [hQ]
            exact kz_i hx hb hr hlocks hS rfl hp586 hw ⟨ok588, (Fr.tr (Fr.put (cq := 3004) (Fr.put (cq := 3003) (Fr.rf) eh2 kd900 (cd_o (by decide)) (by decide)) eh5 kd900 (cd_o (by decide)) (by decide)) F587 (by decide)), (b_wid2 bd852 (by decide) (by decide))⟩ (Nat.le_of_ble_eq_true rfl) (Nat.le_of_ble_eq_true rfl) dX2_minutes_109
          · skip
            have bd853 : (0 : Int) ≤ zi838.toInt ∧ zi838.toInt ≤ 0 := r_lt_x (Int32.not_le.mp cn840) bd839 bc_1 (by decide) (by decide)
            refine lv_iconst (v := 0) hx hb dX2_minutes_92 (by decide) ?_
            rw [hQ]
            exact kz_i hx hb hr hlocks hS rfl hp586 hw ⟨ok588, (Fr.tr (Fr.put (cq := 3004) (Fr.put (cq := 3003) (Fr.rf) eh2 kd900 (cd_o (by decide)) (by decide)) eh5 kd900 (cd_o (by decide)) (by decide)) F587 (by decide)), (b_wid2 bc_0 (by decide) (by decide))⟩ (Nat.le_of_ble_eq_true rfl) (Nat.le_of_ble_eq_true rfl) dX2_minutes_93
      · skip
        have bd854 : (0 : Int) ≤ zi585.toInt ∧ zi585.toInt ≤ 399 := r_lt_x (Int32.not_le.mp cn755) bd589 bd754 (by decide) (by decide)
        have bd855 : (1 : Int) ≤ zi753.toInt ∧ zi753.toInt ≤ 400 := r_lt_y (Int32.not_le.mp cn755) bd589 bd754 (by decide) (by decide)
        refine lv_aload_n hx hb dX2_minutes_20 rfl (lv_at hl 0 rfl) ?_
        obtain ⟨qa857, eq856, kd858⟩ := rd_3000 ok588 kd900
        refine p_get (ci := 2) (v := .ref qa857) (C := RX2) (T := TX2) (N := 5) hx hb hT iw_X2 hown hK hw hW kd900 (by decide) rfl rfl 0 (by decide) eq856 (hT _ tb_164) (fun _ h9 => h9) dX2_minutes_21 ?_
        refine lv_iload_n hx hb dX2_minutes_24 rfl (lv_at hl 3 rfl) ?_
        obtain ⟨zi860, eq859⟩ := rd_26000 ok588 kd858 ((zi585 : Int32).toNatClampNeg)
        refine p_iald (v := zi860) hx hb hK hw hW kd858 (by decide) rfl (hW.len kd858 (n := 400) rfl (by decide)) (vp_b bd854 (by decide) (by decide)) eq859 dX2_minutes_25 ?_
        refine lv_istore (lv' := [(4, .int zi860), (0, .ref qa900), (1, .ref qa901), (2, .int zi902), (3, .int zi585)]) hx hb dX2_minutes_26 hl (by decide) rfl (fun ls hl => ?_)
        refine lv_iload hx hb dX2_minutes_28 (lv_at hl 0 rfl) ?_
        have jn894 : ∀ (hp891 : Nat → Nat → Value)  (H : Heap) (locs : List Loc) (ls : Array Slot), Ok K hp891 → Fr [3003, 3004, 27000] K hp586 hp891 → lv_has ls 5 [(0, .ref qa900), (1, .ref qa901), (2, .int zi902), (3, .int zi585)] → PW G cy K ln Ls A hp891 H → va_S A s.heap H locs → W p l e ({ frames := 2, cells := 0, slots := 0, locals := 44 } : Room) s m ([.ref qa900, .ref qa901, .int zi902] : List Value).toArray below meth c H locs 0 0 Q (F0 m 71 ls []) := by
          intro hp891 H locs ls ok893 F892 hl hw hS
          obtain ⟨zi895, ea896⟩ : ∃ z : Int32, z = zi585 + 1 := ⟨_, rfl⟩
          have bd897 : (1 : Int) ≤ zi895.toInt ∧ zi895.toInt ≤ 400 := b_iadd ea896 bd854 bc_1 (by decide) (by decide) (by decide) (by decide)
          have qe898 : zi895.toInt = (zi585 : Int32).toInt + (1 : Int32).toInt := e_iadd ea896 bd854 bc_1 (by decide) (by decide)
          have qe899 : zi895.toInt = zi585.toInt + 1 := by have ha : (1 : Int32).toInt = 1 := (by decide); rw [ha] at qe898; exact qe898
          refine lv_iinc (v := zi895) (lv' := [(3, .int zi895), (0, .ref qa900), (1, .ref qa901), (2, .int zi902)]) hx hb dX2_minutes_71 hl (k := 3) rfl ea896.symm (by decide) rfl (fun ls hl => ?_)
          refine lv_goto (tgt := 12) hx hb dX2_minutes_74 (by decide) ?_
          exact ih749 hp891 zi895 _ _ ls (by have := hm751; have := qe899; omega) ok893 (Fr.tr (Fr.tr (Fr.rf) F587 (by decide)) F892 (by decide)) (b_wid2 bd897 (by decide) (by decide)) (lv_sub hl [1, 2, 3, 0] rfl) hw hS
        refine lv_if_lt (tgt := 42) hx hb dX2_minutes_30 (by decide) (fun cn861 => ?_) (fun cn861 => ?_)
        · skip
          have bd900 : (-2147483648 : Int) ≤ zi860.toInt ∧ zi860.toInt ≤ -1 := r_lt_x cn861 (b_all zi860) bc_0 (by decide) (by decide)
          refine lv_iload hx hb dX2_minutes_42 (lv_at hl 0 rfl) ?_
          refine lv_bipush (v := (-100)) hx hb dX2_minutes_44 (by decide) ?_
          refine lv_icmp_le (tgt := 59) hx hb dX2_minutes_46 (by decide) (fun cn901 => ?_) (fun cn901 => ?_)
          · skip
            have bd902 : (-2147483648 : Int) ≤ zi860.toInt ∧ zi860.toInt ≤ -100 := r_le_x cn901 bd900 bc_m100 (by decide) (by decide)
            refine lv_aload_n hx hb dX2_minutes_59 rfl (lv_at hl 1 rfl) ?_
            refine lv_aload_n hx hb dX2_minutes_60 rfl (lv_at hl 2 rfl) ?_
            refine lv_iload hx hb dX2_minutes_61 (lv_at hl 0 rfl) ?_
            refine lv_ineg hx hb dX2_minutes_63 (lv_topi (fun zi903 ea904 => ?_))
            refine lv_iload_n hx hb dX2_minutes_64 rfl (lv_at hl 3 rfl) ?_
            refine kq_i hw hS hA (va_runV (As := [.int zi903, .int zi902]) (rest := [.ref qa900]) ⟨hx, hb, hml, hown, hT⟩ (cX7_valueOf_0 l G cy ev K ln Ls hW _ hp586 ok588 qa901 zi903 zi902 kd901) (cwV 2 hT (good_V tb_1086 tb_1083 tb_1084 tb_1085 tb_115) rfl rfl rfl (by decide +kernel) ⟨Nat.le_of_ble_eq_true rfl, Nat.le_of_ble_eq_true rfl⟩) (pool_preV (ci := 7) hK hE hS hA hw hW kd901 (by decide) rfl) rfl rfl hl.1 rfl (lv_room (Nat.le_of_ble_eq_true rfl)) dX2_minutes_65 ⟨Nat.le_of_ble_eq_true rfl, Nat.le_of_ble_eq_true rfl⟩) (fun zi909 hp905 H locs hq908 hw hS => ?_)
            obtain ⟨ok906, F907⟩ := hq908
            obtain rfl : hp586 = hp905 := (Fr.nil F907).symm
            have hw : PW G cy K ln Ls A hp586 H := hw
            refine kq_v hw hS hA (va_runV (As := [.int zi909]) (rest := []) ⟨hx, hb, hml, hown, hT⟩ (cX2_push_0 l G cy ev K ln Ls hW _ hp586 ok588 qa900 zi909 kd900) (cwV 1 hT (good_V tb_1078 tb_1075 tb_1077 tb_29 tb_108) rfl rfl rfl (by decide +kernel) ⟨Nat.le_of_ble_eq_true rfl, Nat.le_of_ble_eq_true rfl⟩) (pool_preV (ci := 2) hK hE hS hA hw hW kd900 (by decide) rfl) rfl rfl hl.1 rfl (lv_room (Nat.le_of_ble_eq_true rfl)) dX2_minutes_68 ⟨Nat.le_of_ble_eq_true rfl, Nat.le_of_ble_eq_true rfl⟩) (fun hp910 H locs hq913 hw hS => ?_)
            obtain ⟨ok911, F912⟩ := hq913
            have hw : PW G cy K ln Ls A hp910 H := hw
            exact jn894 hp910 _ _ ls ok911 (Fr.tr (Fr.rf) F912 (by decide)) (lv_sub hl [1, 2, 3, 4] rfl) hw hS
          · skip
            have bd915 : (-99 : Int) ≤ zi860.toInt ∧ zi860.toInt ≤ -1 := r_lt_y (Int32.not_le.mp cn901) bc_m100 bd900 (by decide) (by decide)
            refine lv_aload_n hx hb dX2_minutes_49 rfl (lv_at hl 1 rfl) ?_
            refine lv_iload hx hb dX2_minutes_50 (lv_at hl 0 rfl) ?_
            refine lv_ineg hx hb dX2_minutes_52 (lv_topi (fun zi916 ea917 => ?_))
            refine kq_v hw hS hA (va_runV (As := [.int zi916]) (rest := []) ⟨hx, hb, hml, hown, hT⟩ (cX2_operate_0 l G cy ev K ln Ls hW _ hp586 ok588 qa900 zi916 kd900) (cwV 1 hT (good_V tb_1082 tb_1079 tb_1081 tb_30 tb_108) rfl rfl rfl (by decide +kernel) ⟨Nat.le_of_ble_eq_true rfl, Nat.le_of_ble_eq_true rfl⟩) (pool_preV (ci := 2) hK hE hS hA hw hW kd900 (by decide) rfl) rfl rfl hl.1 rfl (lv_room (Nat.le_of_ble_eq_true rfl)) dX2_minutes_53 ⟨Nat.le_of_ble_eq_true rfl, Nat.le_of_ble_eq_true rfl⟩) (fun hp918 H locs hq921 hw hS => ?_)
            obtain ⟨ok919, F920⟩ := hq921
            have hw : PW G cy K ln Ls A hp918 H := hw
            refine lv_goto (tgt := 71) hx hb dX2_minutes_56 (by decide) ?_
            exact jn894 hp918 _ _ ls ok919 (Fr.tr (Fr.rf) F920 (by decide)) (lv_sub hl [1, 2, 3, 4] rfl) hw hS
        · skip
          have bd923 : (0 : Int) ≤ zi860.toInt ∧ zi860.toInt ≤ 2147483647 := r_le_y (Int32.not_lt.mp cn861) bc_0 (b_all zi860) (by decide) (by decide)
          refine lv_aload_n hx hb dX2_minutes_33 rfl (lv_at hl 1 rfl) ?_
          refine lv_iload hx hb dX2_minutes_34 (lv_at hl 0 rfl) ?_
          refine kq_v hw hS hA (va_runV (As := [.int zi860]) (rest := []) ⟨hx, hb, hml, hown, hT⟩ (cX2_push_0 l G cy ev K ln Ls hW _ hp586 ok588 qa900 zi860 kd900) (cwV 1 hT (good_V tb_1078 tb_1075 tb_1077 tb_29 tb_108) rfl rfl rfl (by decide +kernel) ⟨Nat.le_of_ble_eq_true rfl, Nat.le_of_ble_eq_true rfl⟩) (pool_preV (ci := 2) hK hE hS hA hw hW kd900 (by decide) rfl) rfl rfl hl.1 rfl (lv_room (Nat.le_of_ble_eq_true rfl)) dX2_minutes_36 ⟨Nat.le_of_ble_eq_true rfl, Nat.le_of_ble_eq_true rfl⟩) (fun hp924 H locs hq927 hw hS => ?_)
          obtain ⟨ok925, F926⟩ := hq927
          have hw : PW G cy K ln Ls A hp924 H := hw
          refine lv_goto (tgt := 71) hx hb dX2_minutes_39 (by decide) ?_
          exact jn894 hp924 _ _ ls ok925 (Fr.tr (Fr.rf) F926 (by decide)) (lv_sub hl [1, 2, 3, 4] rfl) hw hS
  exact lp750 _ hp4 0 _ _ ls (lp_in _) ok6 (Fr.rf) (b_wid2 bc_0 (by decide) (by decide)) (lv_sub hl [1, 2, 3, 0] rfl) hw hS

set_option maxRecDepth 100000 in
set_option maxHeartbeats 4000000 in
theorem cX10_clear_0 (l : Launch) (G : va_G) (cy : Nat → ClassId) (ev : Ew) (K ln : Nat → Nat) (Ls : List Nat) (hW : SW K ln Ls) (sz : Nat) (hp0 : Nat → Nat → Value) (ok0 : Ok K hp0) (qa900 : Nat) (kd900 : K qa900 = 11) : Met l yX10_clear (WS yX10_clear cX10_clear 1 none) { frames := 1, cells := 0, slots := 0, locals := 20 } (PB2 [.ref qa900] sz G cy ev (va_pl Ls (cellOf cy K ln hp0))) (QBv (S := (Nat → Nat → Value)) (fun u : (Nat → Nat → Value) => Ok K u ∧ Fr [3002, 11000, 11001, 11002, 11003, 11004, 11005, 11006, 11007, 11008] K hp0 u) G (fun u => va_pl Ls (cellOf cy K ln u)) (va_A (va_pl Ls (cellOf cy K ln hp0)) sz)) 0 0 (va_A (va_pl Ls (cellOf cy K ln hp0)) sz) := by
  refine met_of2 (y := yX10_clear) (L := 1) (av := [.ref qa900]) (Qc := fun A => QBv (S := (Nat → Nat → Value)) (fun u : (Nat → Nat → Value) => Ok K u ∧ Fr [3002, 11000, 11001, 11002, 11003, 11004, 11005, 11006, 11007, 11008] K hp0 u) G (fun u => va_pl Ls (cellOf cy K ln u)) A) (plainFor_of_name (by decide)) (Nat.le_of_ble_eq_true rfl) ?_
  intro p e s m below meth c hsz hx hb hr hml hown hT hlocks hin hK A hA hE hw hS ls hl
  have hw : PW G cy K ln Ls A hp0 s.heap := hw
  have hown : s.vm.findClass "LieClock$Told" = some m.cls := hown
  have hl : lv_has ls 1 [(0, .ref qa900)] := hl
  obtain ⟨Q, hQ⟩ : ∃ Q : State → Prop, Q = MQ below (QBv (S := (Nat → Nat → Value)) (fun u : (Nat → Nat → Value) => Ok K u ∧ Fr [3002, 11000, 11001, 11002, 11003, 11004, 11005, 11006, 11007, 11008] K hp0 u) G (fun u => va_pl Ls (cellOf cy K ln u)) A) ([.ref qa900] : List Value).toArray s 0 0 A := ⟨_, rfl⟩
  rw [← hQ]
  refine lv_aload_n hx hb dX10_clear_0 rfl (lv_at hl 0 rfl) ?_
  refine lv_iconst (v := 0) hx hb dX10_clear_1 (by decide) ?_
  refine p_put (ci := 10) (v := .int 0) (ty := .int) (C := RX10) (T := TX10) (N := 20) hx hb hT iw_X10 tyX10 tyX10_ok nmX10 hown hK hw hS hW kd900 (by decide) rfl rfl 0 (by decide) (hT _ tb_183) (fun _ h9 => h9) rfl (by decide +kernel) rfl rfl dX10_clear_2 (fun hp1 eh2 H locs hw hS => ?_)
  have ok3 := wr_11000 bc_0 (by decide) (by decide) ok0 kd900 eh2
  refine lv_aload_n hx hb dX10_clear_5 rfl (lv_at hl 0 rfl) ?_
  refine lv_iconst (v := 0) hx hb dX10_clear_6 (by decide) ?_
  refine p_put (ci := 10) (v := .int 0) (ty := .int) (C := RX10) (T := TX10) (N := 20) hx hb hT iw_X10 tyX10 tyX10_ok nmX10 hown hK hw hS hW kd900 (by decide) rfl rfl 1 (by decide) (hT _ tb_188) (fun _ h9 => h9) rfl (by decide +kernel) rfl rfl dX10_clear_7 (fun hp4 eh5 H locs hw hS => ?_)
  have ok6 := wr_11001 ok3 kd900 eh5
  refine lv_aload_n hx hb dX10_clear_10 rfl (lv_at hl 0 rfl) ?_
  refine lv_iconst (v := 0) hx hb dX10_clear_11 (by decide) ?_
  refine p_put (ci := 10) (v := .int 0) (ty := .int) (C := RX10) (T := TX10) (N := 20) hx hb hT iw_X10 tyX10 tyX10_ok nmX10 hown hK hw hS hW kd900 (by decide) rfl rfl 2 (by decide) (hT _ tb_190) (fun _ h9 => h9) rfl (by decide +kernel) rfl rfl dX10_clear_12 (fun hp7 eh8 H locs hw hS => ?_)
  have ok9 := wr_11002 ok6 kd900 eh8
  refine lv_aload_n hx hb dX10_clear_15 rfl (lv_at hl 0 rfl) ?_
  refine lv_iconst (v := 0) hx hb dX10_clear_16 (by decide) ?_
  refine p_put (ci := 10) (v := .int 0) (ty := .int) (C := RX10) (T := TX10) (N := 20) hx hb hT iw_X10 tyX10 tyX10_ok nmX10 hown hK hw hS hW kd900 (by decide) rfl rfl 3 (by decide) (hT _ tb_192) (fun _ h9 => h9) rfl (by decide +kernel) rfl rfl dX10_clear_17 (fun hp10 eh11 H locs hw hS => ?_)
  have ok12 := wr_11003 bc_0 (by decide) (by decide) ok9 kd900 eh11
  refine lv_aload_n hx hb dX10_clear_20 rfl (lv_at hl 0 rfl) ?_
  refine lv_iconst (v := 0) hx hb dX10_clear_21 (by decide) ?_
  refine p_put (ci := 10) (v := .int 0) (ty := .int) (C := RX10) (T := TX10) (N := 20) hx hb hT iw_X10 tyX10 tyX10_ok nmX10 hown hK hw hS hW kd900 (by decide) rfl rfl 4 (by decide) (hT _ tb_198) (fun _ h9 => h9) rfl (by decide +kernel) rfl rfl dX10_clear_22 (fun hp13 eh14 H locs hw hS => ?_)
  have ok15 := wr_11004 bc_0 (by decide) (by decide) ok12 kd900 eh14
  refine lv_aload_n hx hb dX10_clear_25 rfl (lv_at hl 0 rfl) ?_
  refine lv_iconst (v := 0) hx hb dX10_clear_26 (by decide) ?_
  refine p_put (ci := 10) (v := .int 0) (ty := .int) (C := RX10) (T := TX10) (N := 20) hx hb hT iw_X10 tyX10 tyX10_ok nmX10 hown hK hw hS hW kd900 (by decide) rfl rfl 5 (by decide) (hT _ tb_205) (fun _ h9 => h9) rfl (by decide +kernel) rfl rfl dX10_clear_27 (fun hp16 eh17 H locs hw hS => ?_)
  have ok18 := wr_11005 ok15 kd900 eh17
  refine lv_aload_n hx hb dX10_clear_30 rfl (lv_at hl 0 rfl) ?_
  refine lv_iconst (v := 0) hx hb dX10_clear_31 (by decide) ?_
  refine p_put (ci := 10) (v := .int 0) (ty := .int) (C := RX10) (T := TX10) (N := 20) hx hb hT iw_X10 tyX10 tyX10_ok nmX10 hown hK hw hS hW kd900 (by decide) rfl rfl 6 (by decide) (hT _ tb_208) (fun _ h9 => h9) rfl (by decide +kernel) rfl rfl dX10_clear_32 (fun hp19 eh20 H locs hw hS => ?_)
  have ok21 := wr_11006 ok18 kd900 eh20
  refine lv_aload_n hx hb dX10_clear_35 rfl (lv_at hl 0 rfl) ?_
  refine lv_iconst (v := 0) hx hb dX10_clear_36 (by decide) ?_
  refine p_put (ci := 10) (v := .int 0) (ty := .int) (C := RX10) (T := TX10) (N := 20) hx hb hT iw_X10 tyX10 tyX10_ok nmX10 hown hK hw hS hW kd900 (by decide) rfl rfl 7 (by decide) (hT _ tb_212) (fun _ h9 => h9) rfl (by decide +kernel) rfl rfl dX10_clear_37 (fun hp22 eh23 H locs hw hS => ?_)
  have ok24 := wr_11007 bc_0 (by decide) (by decide) ok21 kd900 eh23
  refine lv_aload_n hx hb dX10_clear_40 rfl (lv_at hl 0 rfl) ?_
  refine lv_iconst (v := 0) hx hb dX10_clear_41 (by decide) ?_
  refine p_put (ci := 10) (v := .int 0) (ty := .int) (C := RX10) (T := TX10) (N := 20) hx hb hT iw_X10 tyX10 tyX10_ok nmX10 hown hK hw hS hW kd900 (by decide) rfl rfl 8 (by decide) (hT _ tb_217) (fun _ h9 => h9) rfl (by decide +kernel) rfl rfl dX10_clear_42 (fun hp25 eh26 H locs hw hS => ?_)
  have ok27 := wr_11008 ok24 kd900 eh26
  refine lv_aload_n hx hb dX10_clear_45 rfl (lv_at hl 0 rfl) ?_
  obtain ⟨qa29, eq28, kd30⟩ := rd_11018 ok27 kd900
  refine p_get (ci := 10) (v := .ref qa29) (C := RX10) (T := TX10) (N := 20) hx hb hT iw_X10 hown hK hw hW kd900 (by decide) rfl rfl 18 (by decide) eq28 (hT _ tb_241) (fun _ h9 => h9) dX10_clear_46 ?_
  refine kq_v hw hS hA (va_runV (As := []) (rest := []) ⟨hx, hb, hml, hown, hT⟩ (cX2_clear_0 l G cy ev K ln Ls hW _ hp25 ok27 qa29 kd30) (cwV 0 hT (good_V tb_838 tb_835 tb_836 tb_837 tb_108) rfl rfl rfl (by decide +kernel) ⟨Nat.le_of_ble_eq_true rfl, Nat.le_of_ble_eq_true rfl⟩) (pool_preV (ci := 2) hK hE hS hA hw hW kd30 (by decide) rfl) rfl rfl hl.1 rfl (lv_room (Nat.le_of_ble_eq_true rfl)) dX10_clear_49 ⟨Nat.le_of_ble_eq_true rfl, Nat.le_of_ble_eq_true rfl⟩) (fun hp31 H locs hq34 hw hS => ?_)
  obtain ⟨ok32, F33⟩ := hq34
  have hw : PW G cy K ln Ls A hp31 H := hw
  refine lv_aload_n hx hb dX10_clear_52 rfl (lv_at hl 0 rfl) ?_
  obtain ⟨qa37, eq36, kd38⟩ := rd_11019 ok32 kd900
  refine p_get (ci := 10) (v := .ref qa37) (C := RX10) (T := TX10) (N := 20) hx hb hT iw_X10 hown hK hw hW kd900 (by decide) rfl rfl 19 (by decide) eq36 (hT _ tb_244) (fun _ h9 => h9) dX10_clear_53 ?_
  refine kq_v hw hS hA (va_runV (As := []) (rest := []) ⟨hx, hb, hml, hown, hT⟩ (cX2_clear_0 l G cy ev K ln Ls hW _ hp31 ok32 qa37 kd38) (cwV 0 hT (good_V tb_838 tb_835 tb_836 tb_837 tb_108) rfl rfl rfl (by decide +kernel) ⟨Nat.le_of_ble_eq_true rfl, Nat.le_of_ble_eq_true rfl⟩) (pool_preV (ci := 2) hK hE hS hA hw hW kd38 (by decide) rfl) rfl rfl hl.1 rfl (lv_room (Nat.le_of_ble_eq_true rfl)) dX10_clear_56 ⟨Nat.le_of_ble_eq_true rfl, Nat.le_of_ble_eq_true rfl⟩) (fun hp39 H locs hq42 hw hS => ?_)
  obtain ⟨ok40, F41⟩ := hq42
  have hw : PW G cy K ln Ls A hp39 H := hw
  rw [hQ]
  exact kz_v hx hb hr hlocks hS hp39 hw ⟨ok40, (Fr.tr (Fr.tr (Fr.put (cq := 11008) (Fr.put (cq := 11007) (Fr.put (cq := 11006) (Fr.put (cq := 11005) (Fr.put (cq := 11004) (Fr.put (cq := 11003) (Fr.put (cq := 11002) (Fr.put (cq := 11001) (Fr.put (cq := 11000) (Fr.rf) eh2 kd900 (cd_o (by decide)) (by decide)) eh5 kd900 (cd_o (by decide)) (by decide)) eh8 kd900 (cd_o (by decide)) (by decide)) eh11 kd900 (cd_o (by decide)) (by decide)) eh14 kd900 (cd_o (by decide)) (by decide)) eh17 kd900 (cd_o (by decide)) (by decide)) eh20 kd900 (cd_o (by decide)) (by decide)) eh23 kd900 (cd_o (by decide)) (by decide)) eh26 kd900 (cd_o (by decide)) (by decide)) F33 (by decide)) F41 (by decide))⟩ (Nat.le_of_ble_eq_true rfl) (Nat.le_of_ble_eq_true rfl) dX10_clear_59

set_option maxRecDepth 100000 in
set_option maxHeartbeats 4000000 in
theorem cX10_tellOnce_0 (l : Launch) (G : va_G) (cy : Nat → ClassId) (ev : Ew) (K ln : Nat → Nat) (Ls : List Nat) (hW : SW K ln Ls) (sz : Nat) (hp0 : Nat → Nat → Value) (ok0 : Ok K hp0) (qa900 : Nat) (kd900 : K qa900 = 3) : Met l yX10_tellOnce (WS yX10_tellOnce cX10_tellOnce 1 none) { frames := 1, cells := 0, slots := 0, locals := 21 } (PB2 [.ref qa900] sz G cy ev (va_pl Ls (cellOf cy K ln hp0))) (QBv (S := (Nat → Nat → Value)) (fun u : (Nat → Nat → Value) => Ok K u ∧ Fr [3002, 26000] K hp0 u) G (fun u => va_pl Ls (cellOf cy K ln u)) (va_A (va_pl Ls (cellOf cy K ln hp0)) sz)) 0 0 (va_A (va_pl Ls (cellOf cy K ln hp0)) sz) := by
  refine met_of2 (y := yX10_tellOnce) (L := 1) (av := [.ref qa900]) (Qc := fun A => QBv (S := (Nat → Nat → Value)) (fun u : (Nat → Nat → Value) => Ok K u ∧ Fr [3002, 26000] K hp0 u) G (fun u => va_pl Ls (cellOf cy K ln u)) A) (plainFor_of_name (by decide)) (Nat.le_of_ble_eq_true rfl) ?_
  intro p e s m below meth c hsz hx hb hr hml hown hT hlocks hin hK A hA hE hw hS ls hl
  have hw : PW G cy K ln Ls A hp0 s.heap := hw
  have hown : s.vm.findClass "LieClock$Told" = some m.cls := hown
  have hl : lv_has ls 1 [(0, .ref qa900)] := hl
  obtain ⟨Q, hQ⟩ : ∃ Q : State → Prop, Q = MQ below (QBv (S := (Nat → Nat → Value)) (fun u : (Nat → Nat → Value) => Ok K u ∧ Fr [3002, 26000] K hp0 u) G (fun u => va_pl Ls (cellOf cy K ln u)) A) ([.ref qa900] : List Value).toArray s 0 0 A := ⟨_, rfl⟩
  rw [← hQ]
  refine lv_aload_n hx hb dX10_tellOnce_0 rfl (lv_at hl 0 rfl) ?_
  obtain ⟨zi2, eq1, bd3⟩ := rd_3002 ok0 kd900
  refine p_getN (ci := 2) (v := .int zi2) (C := RX2) (T := TX2) (N := 5) hx hb hT iw_X2 hown hK hw hW kd900 (by decide) rfl rfl 2 (by decide) eq1 (hK.fl nw_63) (fun _ h9 => h9) dX10_tellOnce_1 ?_
  refine lv_if_ne (tgt := 12) hx hb dX10_tellOnce_4 (by decide) (fun cn4 => ?_) (fun cn4 => ?_)
  · skip
    have bd5 : (1 : Int) ≤ zi2.toInt ∧ zi2.toInt ≤ 400 := r_ne_lo cn4 bd3 (toi bc_0) (by decide) (by decide)
    rw [hQ]
    exact kz_v hx hb hr hlocks hS hp0 hw ⟨ok0, (Fr.rf)⟩ (Nat.le_of_ble_eq_true rfl) (Nat.le_of_ble_eq_true rfl) dX10_tellOnce_12
  · skip
    have bd6 : (0 : Int) ≤ zi2.toInt ∧ zi2.toInt ≤ 0 := r_eq_x cn4 bd3 bc_0 (by decide) (by decide)
    refine lv_aload_n hx hb dX10_tellOnce_7 rfl (lv_at hl 0 rfl) ?_
    refine lv_iconst (v := 1) hx hb dX10_tellOnce_8 (by decide) ?_
    refine kq_v hw hS hA (va_runV (As := [.int 1]) (rest := []) ⟨hx, hb, hml, hown, hT⟩ (cX2_add_0 l G cy ev K ln Ls hW _ hp0 ok0 qa900 1 kd900) (cwV 1 hT (good_V tb_404 tb_401 tb_402 tb_403 tb_108) rfl rfl rfl (by decide +kernel) ⟨Nat.le_of_ble_eq_true rfl, Nat.le_of_ble_eq_true rfl⟩) (pool_preV (ci := 2) hK hE hS hA hw hW kd900 (by decide) rfl) rfl rfl hl.1 rfl (lv_room (Nat.le_of_ble_eq_true rfl)) dX10_tellOnce_9 ⟨Nat.le_of_ble_eq_true rfl, Nat.le_of_ble_eq_true rfl⟩) (fun hp7 H locs hq10 hw hS => ?_)
    obtain ⟨ok8, F9⟩ := hq10
    have hw : PW G cy K ln Ls A hp7 H := hw
    rw [hQ]
    exact kz_v hx hb hr hlocks hS hp7 hw ⟨ok8, (Fr.tr (Fr.rf) F9 (by decide))⟩ (Nat.le_of_ble_eq_true rfl) (Nat.le_of_ble_eq_true rfl) dX10_tellOnce_12

set_option maxRecDepth 100000 in
set_option maxHeartbeats 4000000 in
theorem cX10_finish_0 (l : Launch) (G : va_G) (cy : Nat → ClassId) (ev : Ew) (K ln : Nat → Nat) (Ls : List Nat) (hW : SW K ln Ls) (sz : Nat) (hp0 : Nat → Nat → Value) (ok0 : Ok K hp0) (qa900 : Nat) (kd900 : K qa900 = 11) : Met l yX10_finish (WS yX10_finish cX10_finish 2 none) { frames := 2, cells := 0, slots := 0, locals := 41 } (PB2 [.ref qa900] sz G cy ev (va_pl Ls (cellOf cy K ln hp0))) (QBv (S := (Nat → Nat → Value)) (fun u : (Nat → Nat → Value) => Ok K u ∧ Fr [3002, 11006, 11009, 26000] K hp0 u) G (fun u => va_pl Ls (cellOf cy K ln u)) (va_A (va_pl Ls (cellOf cy K ln hp0)) sz)) 0 0 (va_A (va_pl Ls (cellOf cy K ln hp0)) sz) := by
  refine met_of2 (y := yX10_finish) (L := 2) (av := [.ref qa900]) (Qc := fun A => QBv (S := (Nat → Nat → Value)) (fun u : (Nat → Nat → Value) => Ok K u ∧ Fr [3002, 11006, 11009, 26000] K hp0 u) G (fun u => va_pl Ls (cellOf cy K ln u)) A) (plainFor_of_name (by decide)) (Nat.le_of_ble_eq_true rfl) ?_
  intro p e s m below meth c hsz hx hb hr hml hown hT hlocks hin hK A hA hE hw hS ls hl
  have hw : PW G cy K ln Ls A hp0 s.heap := hw
  have hown : s.vm.findClass "LieClock$Told" = some m.cls := hown
  have hl : lv_has ls 2 [(0, .ref qa900)] := hl
  obtain ⟨Q, hQ⟩ : ∃ Q : State → Prop, Q = MQ below (QBv (S := (Nat → Nat → Value)) (fun u : (Nat → Nat → Value) => Ok K u ∧ Fr [3002, 11006, 11009, 26000] K hp0 u) G (fun u => va_pl Ls (cellOf cy K ln u)) A) ([.ref qa900] : List Value).toArray s 0 0 A := ⟨_, rfl⟩
  rw [← hQ]
  refine lv_aload_n hx hb dX10_finish_0 rfl (lv_at hl 0 rfl) ?_
  refine lv_aload_n hx hb dX10_finish_1 rfl (lv_at hl 0 rfl) ?_
  obtain ⟨zi2, eq1, bd3⟩ := rd_11000 ok0 kd900
  refine p_get (ci := 10) (v := .int zi2) (C := RX10) (T := TX10) (N := 20) hx hb hT iw_X10 hown hK hw hW kd900 (by decide) rfl rfl 0 (by decide) eq1 (hT _ tb_183) (fun _ h9 => h9) dX10_finish_2 ?_
  refine lv_bipush (v := 6) hx hb dX10_finish_5 (by decide) ?_
  have jn13 : ∀ (wl12 : Int64) (H : Heap) (locs : List Loc) (ls : Array Slot), lv_has ls 2 [(0, .ref qa900)] → PW G cy K ln Ls A hp0 H → va_S A s.heap H locs → W p l e ({ frames := 2, cells := 0, slots := 0, locals := 41 } : Room) s m ([.ref qa900] : List Value).toArray below meth c H locs 0 0 Q (F0 m 26 ls [.long wl12, .ref qa900]) := by
    intro wl12 H locs ls hl hw hS
    refine p_put (ci := 10) (v := .long wl12) (ty := .long) (C := RX10) (T := TX10) (N := 20) hx hb hT iw_X10 tyX10 tyX10_ok nmX10 hown hK hw hS hW kd900 (by decide) rfl rfl 9 (by decide) (hT _ tb_220) (fun _ h9 => h9) rfl (by decide +kernel) rfl rfl dX10_finish_26 (fun hp14 eh15 H locs hw hS => ?_)
    have ok16 := wr_11009 ok0 kd900 eh15
    refine lv_iconst (v := 0) hx hb dX10_finish_29 (by decide) ?_
    refine lv_istore_n (lv' := [(1, .int 0), (0, .ref qa900)]) hx hb dX10_finish_30 rfl hl (by decide) rfl (fun ls hl => ?_)
    have lp256 : ∀ (n254 : Nat) (hp188 : Nat → Nat → Value) (zi187 : Int32) (H : Heap) (locs : List Loc) (ls : Array Slot), 16 - zi187.toInt < (n254 : Int) → Ok K hp188 → Fr [11006] K hp14 hp188 → ((0 : Int) ≤ zi187.toInt ∧ zi187.toInt ≤ 16) → lv_has ls 2 [(0, .ref qa900), (1, .int zi187)] → PW G cy K ln Ls A hp188 H → va_S A s.heap H locs → W p l e ({ frames := 2, cells := 0, slots := 0, locals := 41 } : Room) s m ([.ref qa900] : List Value).toArray below meth c H locs 0 0 Q (F0 m 31 ls []) := by
      intro n254
      induction n254 with
      | zero =>
        intro hp188 zi187 H locs ls hm257 ok190 F189 bd191 hl hw hS
        exact absurd hm257 (by have := bd191; omega)
      | succ n254 ih255 =>
        intro hp188 zi187 H locs ls hm257 ok190 F189 bd191 hl hw hS
        refine lv_iload_n hx hb dX10_finish_31 rfl (lv_at hl 1 rfl) ?_
        refine lv_aload_n hx hb dX10_finish_32 rfl (lv_at hl 0 rfl) ?_
        obtain ⟨zi259, eq258, bd260⟩ := rd_11004 ok190 kd900
        refine p_get (ci := 10) (v := .int zi259) (C := RX10) (T := TX10) (N := 20) hx hb hT iw_X10 hown hK hw hW kd900 (by decide) rfl rfl 4 (by decide) eq258 (hT _ tb_198) (fun _ h9 => h9) dX10_finish_33 ?_
        refine lv_icmp_ge (tgt := 70) hx hb dX10_finish_36 (by decide) (fun cn261 => ?_) (fun cn261 => ?_)
        · skip
          refine lv_aload_n hx hb dX10_finish_70 rfl (lv_at hl 0 rfl) ?_
          obtain ⟨qa290, eq289, kd291⟩ := rd_11018 ok190 kd900
          refine p_get (ci := 10) (v := .ref qa290) (C := RX10) (T := TX10) (N := 20) hx hb hT iw_X10 hown hK hw hW kd900 (by decide) rfl rfl 18 (by decide) eq289 (hT _ tb_241) (fun _ h9 => h9) dX10_finish_71 ?_
          refine kq_v hw hS hA (va_runS (As := [.ref qa290]) (rest := []) ⟨hx, hb, hml, hown, hT⟩ (cX10_tellOnce_0 l G cy ev K ln Ls hW _ hp188 ok190 qa290 kd291) (va_cwS 1 hT (good_S tb_400 tb_398 tb_399 tb_107) rfl rfl rfl (by decide +kernel) ⟨Nat.le_of_ble_eq_true rfl, Nat.le_of_ble_eq_true rfl⟩) (PB2.preS hK hE hS hA hw) rfl rfl hl.1 rfl (lv_room (Nat.le_of_ble_eq_true rfl)) dX10_finish_74 ⟨Nat.le_of_ble_eq_true rfl, Nat.le_of_ble_eq_true rfl⟩) (fun hp292 H locs hq295 hw hS => ?_)
          obtain ⟨ok293, F294⟩ := hq295
          have hw : PW G cy K ln Ls A hp292 H := hw
          refine lv_aload_n hx hb dX10_finish_77 rfl (lv_at hl 0 rfl) ?_
          obtain ⟨qa298, eq297, kd299⟩ := rd_11019 ok293 kd900
          refine p_get (ci := 10) (v := .ref qa298) (C := RX10) (T := TX10) (N := 20) hx hb hT iw_X10 hown hK hw hW kd900 (by decide) rfl rfl 19 (by decide) eq297 (hT _ tb_244) (fun _ h9 => h9) dX10_finish_78 ?_
          refine kq_v hw hS hA (va_runS (As := [.ref qa298]) (rest := []) ⟨hx, hb, hml, hown, hT⟩ (cX10_tellOnce_0 l G cy ev K ln Ls hW _ hp292 ok293 qa298 kd299) (va_cwS 1 hT (good_S tb_400 tb_398 tb_399 tb_107) rfl rfl rfl (by decide +kernel) ⟨Nat.le_of_ble_eq_true rfl, Nat.le_of_ble_eq_true rfl⟩) (PB2.preS hK hE hS hA hw) rfl rfl hl.1 rfl (lv_room (Nat.le_of_ble_eq_true rfl)) dX10_finish_81 ⟨Nat.le_of_ble_eq_true rfl, Nat.le_of_ble_eq_true rfl⟩) (fun hp300 H locs hq303 hw hS => ?_)
          obtain ⟨ok301, F302⟩ := hq303
          have hw : PW G cy K ln Ls A hp300 H := hw
          rw [hQ]
          exact kz_v hx hb hr hlocks hS hp300 hw ⟨ok301, (Fr.tr (Fr.tr (Fr.tr (Fr.put (cq := 11009) (Fr.rf) eh15 kd900 (cd_o (by decide)) (by decide)) F189 (by decide)) F294 (by decide)) F302 (by decide))⟩ (Nat.le_of_ble_eq_true rfl) (Nat.le_of_ble_eq_true rfl) dX10_finish_84
        · skip
          have bd305 : (0 : Int) ≤ zi187.toInt ∧ zi187.toInt ≤ 15 := r_lt_x (Int32.not_le.mp cn261) bd191 bd260 (by decide) (by decide)
          have bd306 : (1 : Int) ≤ zi259.toInt ∧ zi259.toInt ≤ 16 := r_lt_y (Int32.not_le.mp cn261) bd191 bd260 (by decide) (by decide)
          refine lv_aload_n hx hb dX10_finish_39 rfl (lv_at hl 0 rfl) ?_
          refine lv_dup hx hb dX10_finish_40 rfl ?_
          obtain ⟨zi308, eq307⟩ := rd_11006 ok190 kd900
          refine p_get (ci := 10) (v := .int zi308) (C := RX10) (T := TX10) (N := 20) hx hb hT iw_X10 hown hK hw hW kd900 (by decide) rfl rfl 6 (by decide) eq307 (hT _ tb_208) (fun _ h9 => h9) dX10_finish_41 ?_
          refine lv_aload_n hx hb dX10_finish_44 rfl (lv_at hl 0 rfl) ?_
          obtain ⟨qa310, eq309, kd311⟩ := rd_11014 ok190 kd900
          refine p_get (ci := 10) (v := .ref qa310) (C := RX10) (T := TX10) (N := 20) hx hb hT iw_X10 hown hK hw hW kd900 (by decide) rfl rfl 14 (by decide) eq309 (hT _ tb_230) (fun _ h9 => h9) dX10_finish_45 ?_
          refine lv_iload_n hx hb dX10_finish_48 rfl (lv_at hl 1 rfl) ?_
          obtain ⟨wl313, eq312⟩ := rd_52000 ok190 kd311 ((zi187 : Int32).toNatClampNeg)
          refine p_lald (v := wl313) hx hb hK hw hW kd311 (by decide) rfl (hW.len kd311 (n := 16) rfl (by decide)) (vp_b bd305 (by decide) (by decide)) eq312 dX10_finish_49 ?_
          refine lv_aload_n hx hb dX10_finish_50 rfl (lv_at hl 0 rfl) ?_
          obtain ⟨zi315, eq314⟩ := rd_11001 ok190 kd900
          refine p_get (ci := 10) (v := .int zi315) (C := RX10) (T := TX10) (N := 20) hx hb hT iw_X10 hown hK hw hW kd900 (by decide) rfl rfl 1 (by decide) eq314 (hT _ tb_188) (fun _ h9 => h9) dX10_finish_51 ?_
          refine lv_lushr hx hb dX10_finish_54 rfl (lv_topl (fun wl316 _ => ?_))
          refine lv_lconst (v := 1) hx hb dX10_finish_55 (by decide) ?_
          refine lv_land hx hb dX10_finish_56 (lv_topl (fun wl317 _ => ?_))
          refine lv_l2i hx hb dX10_finish_57 rfl (lv_topi (fun zi318 ea319 => ?_))
          refine lv_iload_n hx hb dX10_finish_58 rfl (lv_at hl 1 rfl) ?_
          refine lv_ishl hx hb dX10_finish_59 (lv_topi (fun zi320 ea321 => ?_))
          refine lv_ior hx hb dX10_finish_60 (lv_topi (fun zi322 ea323 => ?_))
          refine p_put (ci := 10) (v := .int zi322) (ty := .int) (C := RX10) (T := TX10) (N := 20) hx hb hT iw_X10 tyX10 tyX10_ok nmX10 hown hK hw hS hW kd900 (by decide) rfl rfl 6 (by decide) (hT _ tb_208) (fun _ h9 => h9) rfl (by decide +kernel) rfl rfl dX10_finish_61 (fun hp324 eh325 H locs hw hS => ?_)
          have ok326 := wr_11006 ok190 kd900 eh325
          obtain ⟨zi327, ea328⟩ : ∃ z : Int32, z = zi187 + 1 := ⟨_, rfl⟩
          have bd329 : (1 : Int) ≤ zi327.toInt ∧ zi327.toInt ≤ 16 := b_iadd ea328 bd305 bc_1 (by decide) (by decide) (by decide) (by decide)
          have qe330 : zi327.toInt = (zi187 : Int32).toInt + (1 : Int32).toInt := e_iadd ea328 bd305 bc_1 (by decide) (by decide)
          have qe331 : zi327.toInt = zi187.toInt + 1 := by have ha : (1 : Int32).toInt = 1 := (by decide); rw [ha] at qe330; exact qe330
          refine lv_iinc (v := zi327) (lv' := [(1, .int zi327), (0, .ref qa900)]) hx hb dX10_finish_64 hl (k := 1) rfl ea328.symm (by decide) rfl (fun ls hl => ?_)
          refine lv_goto (tgt := 31) hx hb dX10_finish_67 (by decide) ?_
          exact ih255 hp324 zi327 _ _ ls (by have := hm257; have := qe331; omega) ok326 (Fr.put (cq := 11006) (Fr.tr (Fr.rf) F189 (by decide)) eh325 kd900 (cd_o (by decide)) (by decide)) (b_wid2 bd329 (by decide) (by decide)) (lv_sub hl [1, 0] rfl) hw hS
    exact lp256 _ hp14 0 _ _ ls (lp_in _) ok16 (Fr.rf) (b_wid2 bc_0 (by decide) (by decide)) (lv_sub hl [1, 0] rfl) hw hS
  refine lv_icmp_ge (tgt := 23) hx hb dX10_finish_7 (by decide) (fun cn4 => ?_) (fun cn4 => ?_)
  · skip
    have bd332 : (6 : Int) ≤ zi2.toInt ∧ zi2.toInt ≤ 6 := r_le_y cn4 bc_6 bd3 (by decide) (by decide)
    refine lv_ldc2 (v := (-1)) hx hb hown (hT _ tb_397) dX10_finish_23 ?_
    exact jn13 ((-1)) _ _ ls (lv_sub hl [0] rfl) hw hS
  · skip
    have bd333 : (0 : Int) ≤ zi2.toInt ∧ zi2.toInt ≤ 5 := r_lt_x (Int32.not_le.mp cn4) bd3 bc_6 (by decide) (by decide)
    refine lv_lconst (v := 1) hx hb dX10_finish_10 (by decide) ?_
    refine lv_iconst (v := 1) hx hb dX10_finish_11 (by decide) ?_
    refine lv_aload_n hx hb dX10_finish_12 rfl (lv_at hl 0 rfl) ?_
    refine p_get (ci := 10) (v := .int zi2) (C := RX10) (T := TX10) (N := 20) hx hb hT iw_X10 hown hK hw hW kd900 (by decide) rfl rfl 0 (by decide) eq1 (hT _ tb_183) (fun _ h9 => h9) dX10_finish_13 ?_
    refine lv_ishl hx hb dX10_finish_16 (lv_topi (fun zi334 ea335 => ?_))
    have bd336 : (1 : Int) ≤ zi334.toInt ∧ zi334.toInt ≤ 32 := b_shl1 5 ea335 bd333 (by decide) (by decide) (by decide) (by decide) (by decide)
    refine lv_lshl hx hb dX10_finish_17 rfl (lv_topl (fun wl337 _ => ?_))
    refine lv_lconst (v := 1) hx hb dX10_finish_18 (by decide) ?_
    refine lv_lsub hx hb dX10_finish_19 (lv_topl (fun wl338 _ => ?_))
    refine lv_goto (tgt := 26) hx hb dX10_finish_20 (by decide) ?_
    exact jn13 wl338 _ _ ls (lv_sub hl [0] rfl) hw hS

set_option maxRecDepth 100000 in
set_option maxHeartbeats 4000000 in
theorem cX10_addFact_0 (l : Launch) (G : va_G) (cy : Nat → ClassId) (ev : Ew) (K ln : Nat → Nat) (Ls : List Nat) (hW : SW K ln Ls) (sz : Nat) (hp0 : Nat → Nat → Value) (ok0 : Ok K hp0) (qa900 : Nat) (wl901 : Int64) (zi902 : Int32) (zi903 : Int32) (kd900 : K qa900 = 11) (bd902 : ((0 : Int) ≤ zi902.toInt ∧ zi902.toInt ≤ 1)) (bd903 : ((0 : Int) ≤ zi903.toInt ∧ zi903.toInt ≤ 1)) : Met l yX10_addFact (WS yX10_addFact cX10_addFact 5 none) { frames := 0, cells := 0, slots := 0, locals := 0 } (PB2 [.ref qa900, .long wl901, .int zi902, .int zi903] sz G cy ev (va_pl Ls (cellOf cy K ln hp0))) (QBv (S := (Nat → Nat → Value)) (fun u : (Nat → Nat → Value) => Ok K u ∧ Fr [11000, 11001, 11002, 48000] K hp0 u) G (fun u => va_pl Ls (cellOf cy K ln u)) (va_A (va_pl Ls (cellOf cy K ln hp0)) sz)) 0 0 (va_A (va_pl Ls (cellOf cy K ln hp0)) sz) := by
  refine met_of2 (y := yX10_addFact) (L := 5) (av := [.ref qa900, .long wl901, .int zi902, .int zi903]) (Qc := fun A => QBv (S := (Nat → Nat → Value)) (fun u : (Nat → Nat → Value) => Ok K u ∧ Fr [11000, 11001, 11002, 48000] K hp0 u) G (fun u => va_pl Ls (cellOf cy K ln u)) A) (plainFor_of_name (by decide)) (Nat.le_of_ble_eq_true rfl) ?_
  intro p e s m below meth c hsz hx hb hr hml hown hT hlocks hin hK A hA hE hw hS ls hl
  have hw : PW G cy K ln Ls A hp0 s.heap := hw
  have hown : s.vm.findClass "LieClock$Told" = some m.cls := hown
  have hl : lv_has ls 5 [(0, .ref qa900), (1, .long wl901), (3, .int zi902), (4, .int zi903)] := hl
  obtain ⟨Q, hQ⟩ : ∃ Q : State → Prop, Q = MQ below (QBv (S := (Nat → Nat → Value)) (fun u : (Nat → Nat → Value) => Ok K u ∧ Fr [11000, 11001, 11002, 48000] K hp0 u) G (fun u => va_pl Ls (cellOf cy K ln u)) A) ([.ref qa900, .long wl901, .int zi902, .int zi903] : List Value).toArray s 0 0 A := ⟨_, rfl⟩
  rw [← hQ]
  refine lv_aload_n hx hb dX10_addFact_0 rfl (lv_at hl 0 rfl) ?_
  obtain ⟨zi2, eq1, bd3⟩ := rd_11000 ok0 kd900
  refine p_get (ci := 10) (v := .int zi2) (C := RX10) (T := TX10) (N := 20) hx hb hT iw_X10 hown hK hw hW kd900 (by decide) rfl rfl 0 (by decide) eq1 (hT _ tb_183) (fun _ h9 => h9) dX10_addFact_1 ?_
  refine lv_bipush (v := 6) hx hb dX10_addFact_4 (by decide) ?_
  refine lv_icmp_ge (tgt := 76) hx hb dX10_addFact_6 (by decide) (fun cn4 => ?_) (fun cn4 => ?_)
  · skip
    have bd5 : (6 : Int) ≤ zi2.toInt ∧ zi2.toInt ≤ 6 := r_le_y cn4 bc_6 bd3 (by decide) (by decide)
    rw [hQ]
    exact kz_v hx hb hr hlocks hS hp0 hw ⟨ok0, (Fr.rf)⟩ (Nat.le_of_ble_eq_true rfl) (Nat.le_of_ble_eq_true rfl) dX10_addFact_76
  · skip
    have bd6 : (0 : Int) ≤ zi2.toInt ∧ zi2.toInt ≤ 5 := r_lt_x (Int32.not_le.mp cn4) bd3 bc_6 (by decide) (by decide)
    refine lv_aload_n hx hb dX10_addFact_9 rfl (lv_at hl 0 rfl) ?_
    obtain ⟨qa8, eq7, kd9⟩ := rd_11010 ok0 kd900
    refine p_get (ci := 10) (v := .ref qa8) (C := RX10) (T := TX10) (N := 20) hx hb hT iw_X10 hown hK hw hW kd900 (by decide) rfl rfl 10 (by decide) eq7 (hT _ tb_222) (fun _ h9 => h9) dX10_addFact_10 ?_
    refine lv_aload_n hx hb dX10_addFact_13 rfl (lv_at hl 0 rfl) ?_
    refine p_get (ci := 10) (v := .int zi2) (C := RX10) (T := TX10) (N := 20) hx hb hT iw_X10 hown hK hw hW kd900 (by decide) rfl rfl 0 (by decide) eq1 (hT _ tb_183) (fun _ h9 => h9) dX10_addFact_14 ?_
    refine lv_lload_n hx hb dX10_addFact_17 rfl (lv_at hl 1 rfl) ?_
    refine p_last (x := wl901) hx hb hK hw hS hW kd9 (by decide) rfl (hW.len kd9 (n := 6) rfl (by decide)) (vp_b bd6 (by decide) (by decide)) dX10_addFact_18 (fun hp10 eh11 H locs hw hS => ?_)
    have ok12 := wr_48000 ok0 kd9 eh11
    refine lv_aload_n hx hb dX10_addFact_19 rfl (lv_at hl 0 rfl) ?_
    refine lv_dup hx hb dX10_addFact_20 rfl ?_
    obtain ⟨zi14, eq13⟩ := rd_11001 ok12 kd900
    refine p_get (ci := 10) (v := .int zi14) (C := RX10) (T := TX10) (N := 20) hx hb hT iw_X10 hown hK hw hW kd900 (by decide) rfl rfl 1 (by decide) eq13 (hT _ tb_188) (fun _ h9 => h9) dX10_addFact_21 ?_
    refine lv_iload_n hx hb dX10_addFact_24 rfl (lv_at hl 2 rfl) ?_
    have jn24 : ∀ (zi22 : Int32) (H : Heap) (locs : List Loc) (ls : Array Slot), ((0 : Int) ≤ zi22.toInt ∧ zi22.toInt ≤ 32) → lv_has ls 5 [(0, .ref qa900), (4, .int zi903)] → PW G cy K ln Ls A hp10 H → va_S A s.heap H locs → W p l e ({ frames := 0, cells := 0, slots := 0, locals := 0 } : Room) s m ([.ref qa900, .long wl901, .int zi902, .int zi903] : List Value).toArray below meth c H locs 0 0 Q (F0 m 38 ls [.int zi22, .int zi14, .ref qa900]) := by
      intro zi22 H locs ls bd23 hl hw hS
      refine lv_ior hx hb dX10_addFact_38 (lv_topi (fun zi25 ea26 => ?_))
      refine p_put (ci := 10) (v := .int zi25) (ty := .int) (C := RX10) (T := TX10) (N := 20) hx hb hT iw_X10 tyX10 tyX10_ok nmX10 hown hK hw hS hW kd900 (by decide) rfl rfl 1 (by decide) (hT _ tb_188) (fun _ h9 => h9) rfl (by decide +kernel) rfl rfl dX10_addFact_39 (fun hp27 eh28 H locs hw hS => ?_)
      have ok29 := wr_11001 ok12 kd900 eh28
      refine lv_aload_n hx hb dX10_addFact_42 rfl (lv_at hl 0 rfl) ?_
      refine lv_dup hx hb dX10_addFact_43 rfl ?_
      obtain ⟨zi31, eq30⟩ := rd_11002 ok29 kd900
      refine p_get (ci := 10) (v := .int zi31) (C := RX10) (T := TX10) (N := 20) hx hb hT iw_X10 hown hK hw hW kd900 (by decide) rfl rfl 2 (by decide) eq30 (hT _ tb_190) (fun _ h9 => h9) dX10_addFact_44 ?_
      refine lv_iload hx hb dX10_addFact_47 (lv_at hl 1 rfl) ?_
      have jn41 : ∀ (zi39 : Int32) (H : Heap) (locs : List Loc) (ls : Array Slot), ((0 : Int) ≤ zi39.toInt ∧ zi39.toInt ≤ 32) → lv_has ls 5 [(0, .ref qa900)] → PW G cy K ln Ls A hp27 H → va_S A s.heap H locs → W p l e ({ frames := 0, cells := 0, slots := 0, locals := 0 } : Room) s m ([.ref qa900, .long wl901, .int zi902, .int zi903] : List Value).toArray below meth c H locs 0 0 Q (F0 m 62 ls [.int zi39, .int zi31, .ref qa900]) := by
        intro zi39 H locs ls bd40 hl hw hS
        refine lv_ior hx hb dX10_addFact_62 (lv_topi (fun zi42 ea43 => ?_))
        refine p_put (ci := 10) (v := .int zi42) (ty := .int) (C := RX10) (T := TX10) (N := 20) hx hb hT iw_X10 tyX10 tyX10_ok nmX10 hown hK hw hS hW kd900 (by decide) rfl rfl 2 (by decide) (hT _ tb_190) (fun _ h9 => h9) rfl (by decide +kernel) rfl rfl dX10_addFact_63 (fun hp44 eh45 H locs hw hS => ?_)
        have ok46 := wr_11002 ok29 kd900 eh45
        refine lv_aload_n hx hb dX10_addFact_66 rfl (lv_at hl 0 rfl) ?_
        refine lv_dup hx hb dX10_addFact_67 rfl ?_
        have eq47 : hp44 qa900 0 = .int zi2 := Eq.trans (up_at eh45 (Or.inr (by decide))) (Eq.trans (up_at eh28 (Or.inr (by decide))) (Eq.trans (up_at eh11 (Or.inl (kd_ne kd900 kd9 (by decide)))) eq1))
        refine p_get (ci := 10) (v := .int zi2) (C := RX10) (T := TX10) (N := 20) hx hb hT iw_X10 hown hK hw hW kd900 (by decide) rfl rfl 0 (by decide) eq47 (hT _ tb_183) (fun _ h9 => h9) dX10_addFact_68 ?_
        refine lv_iconst (v := 1) hx hb dX10_addFact_71 (by decide) ?_
        refine lv_iadd hx hb dX10_addFact_72 (lv_topi (fun zi48 ea49 => ?_))
        have bd50 : (1 : Int) ≤ zi48.toInt ∧ zi48.toInt ≤ 6 := b_iadd ea49 bd6 bc_1 (by decide) (by decide) (by decide) (by decide)
        have qe51 : zi48.toInt = (zi2 : Int32).toInt + (1 : Int32).toInt := e_iadd ea49 bd6 bc_1 (by decide) (by decide)
        have qe52 : zi48.toInt = zi2.toInt + 1 := by have ha : (1 : Int32).toInt = 1 := (by decide); rw [ha] at qe51; exact qe51
        refine p_put (ci := 10) (v := .int zi48) (ty := .int) (C := RX10) (T := TX10) (N := 20) hx hb hT iw_X10 tyX10 tyX10_ok nmX10 hown hK hw hS hW kd900 (by decide) rfl rfl 0 (by decide) (hT _ tb_183) (fun _ h9 => h9) rfl (by decide +kernel) rfl rfl dX10_addFact_73 (fun hp53 eh54 H locs hw hS => ?_)
        have ok55 := wr_11000 bd50 (by decide) (by decide) ok46 kd900 eh54
        rw [hQ]
        exact kz_v hx hb hr hlocks hS hp53 hw ⟨ok55, (Fr.put (cq := 11000) (Fr.put (cq := 11002) (Fr.put (cq := 11001) (Fr.put (cq := 48000) (Fr.rf) eh11 kd9 (cd_a (by decide)) (by decide)) eh28 kd900 (cd_o (by decide)) (by decide)) eh45 kd900 (cd_o (by decide)) (by decide)) eh54 kd900 (cd_o (by decide)) (by decide))⟩ (Nat.le_of_ble_eq_true rfl) (Nat.le_of_ble_eq_true rfl) dX10_addFact_76
      refine lv_if_eq (tgt := 61) hx hb dX10_addFact_49 (by decide) (fun cn32 => ?_) (fun cn32 => ?_)
      · skip
        have bd56 : (0 : Int) ≤ zi903.toInt ∧ zi903.toInt ≤ 0 := r_eq_x cn32 bd903 bc_0 (by decide) (by decide)
        refine lv_iconst (v := 0) hx hb dX10_addFact_61 (by decide) ?_
        exact jn41 0 _ _ ls (b_wid2 bc_0 (by decide) (by decide)) (lv_sub hl [0] rfl) hw hS
      · skip
        have bd57 : (1 : Int) ≤ zi903.toInt ∧ zi903.toInt ≤ 1 := r_ne_lo cn32 bd903 (toi bc_0) (by decide) (by decide)
        refine lv_iconst (v := 1) hx hb dX10_addFact_52 (by decide) ?_
        refine lv_aload_n hx hb dX10_addFact_53 rfl (lv_at hl 0 rfl) ?_
        have eq58 : hp27 qa900 0 = .int zi2 := Eq.trans (up_at eh28 (Or.inr (by decide))) (Eq.trans (up_at eh11 (Or.inl (kd_ne kd900 kd9 (by decide)))) eq1)
        refine p_get (ci := 10) (v := .int zi2) (C := RX10) (T := TX10) (N := 20) hx hb hT iw_X10 hown hK hw hW kd900 (by decide) rfl rfl 0 (by decide) eq58 (hT _ tb_183) (fun _ h9 => h9) dX10_addFact_54 ?_
        refine lv_ishl hx hb dX10_addFact_57 (lv_topi (fun zi59 ea60 => ?_))
        have bd61 : (1 : Int) ≤ zi59.toInt ∧ zi59.toInt ≤ 32 := b_shl1 5 ea60 bd6 (by decide) (by decide) (by decide) (by decide) (by decide)
        refine lv_goto (tgt := 62) hx hb dX10_addFact_58 (by decide) ?_
        exact jn41 zi59 _ _ ls (b_wid2 bd61 (by decide) (by decide)) (lv_sub hl [0] rfl) hw hS
    refine lv_if_eq (tgt := 37) hx hb dX10_addFact_25 (by decide) (fun cn15 => ?_) (fun cn15 => ?_)
    · skip
      have bd62 : (0 : Int) ≤ zi902.toInt ∧ zi902.toInt ≤ 0 := r_eq_x cn15 bd902 bc_0 (by decide) (by decide)
      refine lv_iconst (v := 0) hx hb dX10_addFact_37 (by decide) ?_
      exact jn24 0 _ _ ls (b_wid2 bc_0 (by decide) (by decide)) (lv_sub hl [0, 3] rfl) hw hS
    · skip
      have bd63 : (1 : Int) ≤ zi902.toInt ∧ zi902.toInt ≤ 1 := r_ne_lo cn15 bd902 (toi bc_0) (by decide) (by decide)
      refine lv_iconst (v := 1) hx hb dX10_addFact_28 (by decide) ?_
      refine lv_aload_n hx hb dX10_addFact_29 rfl (lv_at hl 0 rfl) ?_
      have eq64 : hp10 qa900 0 = .int zi2 := Eq.trans (up_at eh11 (Or.inl (kd_ne kd900 kd9 (by decide)))) eq1
      refine p_get (ci := 10) (v := .int zi2) (C := RX10) (T := TX10) (N := 20) hx hb hT iw_X10 hown hK hw hW kd900 (by decide) rfl rfl 0 (by decide) eq64 (hT _ tb_183) (fun _ h9 => h9) dX10_addFact_30 ?_
      refine lv_ishl hx hb dX10_addFact_33 (lv_topi (fun zi65 ea66 => ?_))
      have bd67 : (1 : Int) ≤ zi65.toInt ∧ zi65.toInt ≤ 32 := b_shl1 5 ea66 bd6 (by decide) (by decide) (by decide) (by decide) (by decide)
      refine lv_goto (tgt := 38) hx hb dX10_addFact_34 (by decide) ?_
      exact jn24 zi65 _ _ ls (b_wid2 bd67 (by decide) (by decide)) (lv_sub hl [0, 3] rfl) hw hS

set_option maxRecDepth 100000 in
set_option maxHeartbeats 4000000 in
theorem cX10_addWitness_0 (l : Launch) (G : va_G) (cy : Nat → ClassId) (ev : Ew) (K ln : Nat → Nat) (Ls : List Nat) (hW : SW K ln Ls) (sz : Nat) (hp0 : Nat → Nat → Value) (ok0 : Ok K hp0) (qa900 : Nat) (wl901 : Int64) (kd900 : K qa900 = 11) : Met l yX10_addWitness (WS yX10_addWitness cX10_addWitness 3 none) { frames := 0, cells := 0, slots := 0, locals := 0 } (PB2 [.ref qa900, .long wl901] sz G cy ev (va_pl Ls (cellOf cy K ln hp0))) (QBv (S := (Nat → Nat → Value)) (fun u : (Nat → Nat → Value) => Ok K u ∧ Fr [11003, 49000, 50000] K hp0 u) G (fun u => va_pl Ls (cellOf cy K ln u)) (va_A (va_pl Ls (cellOf cy K ln hp0)) sz)) 0 0 (va_A (va_pl Ls (cellOf cy K ln hp0)) sz) := by
  refine met_of2 (y := yX10_addWitness) (L := 3) (av := [.ref qa900, .long wl901]) (Qc := fun A => QBv (S := (Nat → Nat → Value)) (fun u : (Nat → Nat → Value) => Ok K u ∧ Fr [11003, 49000, 50000] K hp0 u) G (fun u => va_pl Ls (cellOf cy K ln u)) A) (plainFor_of_name (by decide)) (Nat.le_of_ble_eq_true rfl) ?_
  intro p e s m below meth c hsz hx hb hr hml hown hT hlocks hin hK A hA hE hw hS ls hl
  have hw : PW G cy K ln Ls A hp0 s.heap := hw
  have hown : s.vm.findClass "LieClock$Told" = some m.cls := hown
  have hl : lv_has ls 3 [(0, .ref qa900), (1, .long wl901)] := hl
  obtain ⟨Q, hQ⟩ : ∃ Q : State → Prop, Q = MQ below (QBv (S := (Nat → Nat → Value)) (fun u : (Nat → Nat → Value) => Ok K u ∧ Fr [11003, 49000, 50000] K hp0 u) G (fun u => va_pl Ls (cellOf cy K ln u)) A) ([.ref qa900, .long wl901] : List Value).toArray s 0 0 A := ⟨_, rfl⟩
  rw [← hQ]
  refine lv_aload_n hx hb dX10_addWitness_0 rfl (lv_at hl 0 rfl) ?_
  obtain ⟨zi2, eq1, bd3⟩ := rd_11003 ok0 kd900
  refine p_get (ci := 10) (v := .int zi2) (C := RX10) (T := TX10) (N := 20) hx hb hT iw_X10 hown hK hw hW kd900 (by decide) rfl rfl 3 (by decide) eq1 (hT _ tb_192) (fun _ h9 => h9) dX10_addWitness_1 ?_
  refine lv_bipush (v := 6) hx hb dX10_addWitness_4 (by decide) ?_
  refine lv_icmp_ge (tgt := 39) hx hb dX10_addWitness_6 (by decide) (fun cn4 => ?_) (fun cn4 => ?_)
  · skip
    have bd5 : (6 : Int) ≤ zi2.toInt ∧ zi2.toInt ≤ 6 := r_le_y cn4 bc_6 bd3 (by decide) (by decide)
    rw [hQ]
    exact kz_v hx hb hr hlocks hS hp0 hw ⟨ok0, (Fr.rf)⟩ (Nat.le_of_ble_eq_true rfl) (Nat.le_of_ble_eq_true rfl) dX10_addWitness_39
  · skip
    have bd6 : (0 : Int) ≤ zi2.toInt ∧ zi2.toInt ≤ 5 := r_lt_x (Int32.not_le.mp cn4) bd3 bc_6 (by decide) (by decide)
    refine lv_aload_n hx hb dX10_addWitness_9 rfl (lv_at hl 0 rfl) ?_
    obtain ⟨qa8, eq7, kd9⟩ := rd_11011 ok0 kd900
    refine p_get (ci := 10) (v := .ref qa8) (C := RX10) (T := TX10) (N := 20) hx hb hT iw_X10 hown hK hw hW kd900 (by decide) rfl rfl 11 (by decide) eq7 (hT _ tb_223) (fun _ h9 => h9) dX10_addWitness_10 ?_
    refine lv_aload_n hx hb dX10_addWitness_13 rfl (lv_at hl 0 rfl) ?_
    refine p_get (ci := 10) (v := .int zi2) (C := RX10) (T := TX10) (N := 20) hx hb hT iw_X10 hown hK hw hW kd900 (by decide) rfl rfl 3 (by decide) eq1 (hT _ tb_192) (fun _ h9 => h9) dX10_addWitness_14 ?_
    refine lv_lload_n hx hb dX10_addWitness_17 rfl (lv_at hl 1 rfl) ?_
    refine p_last (x := wl901) hx hb hK hw hS hW kd9 (by decide) rfl (hW.len kd9 (n := 6) rfl (by decide)) (vp_b bd6 (by decide) (by decide)) dX10_addWitness_18 (fun hp10 eh11 H locs hw hS => ?_)
    have ok12 := wr_49000 ok0 kd9 eh11
    refine lv_aload_n hx hb dX10_addWitness_19 rfl (lv_at hl 0 rfl) ?_
    obtain ⟨qa14, eq13, kd15⟩ := rd_11012 ok12 kd900
    refine p_get (ci := 10) (v := .ref qa14) (C := RX10) (T := TX10) (N := 20) hx hb hT iw_X10 hown hK hw hW kd900 (by decide) rfl rfl 12 (by decide) eq13 (hT _ tb_224) (fun _ h9 => h9) dX10_addWitness_20 ?_
    refine lv_aload_n hx hb dX10_addWitness_23 rfl (lv_at hl 0 rfl) ?_
    have eq16 : hp10 qa900 3 = .int zi2 := Eq.trans (up_at eh11 (Or.inl (kd_ne kd900 kd9 (by decide)))) eq1
    refine p_get (ci := 10) (v := .int zi2) (C := RX10) (T := TX10) (N := 20) hx hb hT iw_X10 hown hK hw hW kd900 (by decide) rfl rfl 3 (by decide) eq16 (hT _ tb_192) (fun _ h9 => h9) dX10_addWitness_24 ?_
    refine lv_iconst (v := 0) hx hb dX10_addWitness_27 (by decide) ?_
    refine p_iast (x := 0) hx hb hK hw hS hW kd15 (by decide) rfl (hW.len kd15 (n := 6) rfl (by decide)) (vp_b bd6 (by decide) (by decide)) dX10_addWitness_28 (fun hp17 eh18 H locs hw hS => ?_)
    have ok19 := wr_50000 ok12 kd15 eh18
    refine lv_aload_n hx hb dX10_addWitness_29 rfl (lv_at hl 0 rfl) ?_
    refine lv_dup hx hb dX10_addWitness_30 rfl ?_
    have eq20 : hp17 qa900 3 = .int zi2 := Eq.trans (up_at eh18 (Or.inl (kd_ne kd900 kd15 (by decide)))) eq16
    refine p_get (ci := 10) (v := .int zi2) (C := RX10) (T := TX10) (N := 20) hx hb hT iw_X10 hown hK hw hW kd900 (by decide) rfl rfl 3 (by decide) eq20 (hT _ tb_192) (fun _ h9 => h9) dX10_addWitness_31 ?_
    refine lv_iconst (v := 1) hx hb dX10_addWitness_34 (by decide) ?_
    refine lv_iadd hx hb dX10_addWitness_35 (lv_topi (fun zi21 ea22 => ?_))
    have bd23 : (1 : Int) ≤ zi21.toInt ∧ zi21.toInt ≤ 6 := b_iadd ea22 bd6 bc_1 (by decide) (by decide) (by decide) (by decide)
    have qe24 : zi21.toInt = (zi2 : Int32).toInt + (1 : Int32).toInt := e_iadd ea22 bd6 bc_1 (by decide) (by decide)
    have qe25 : zi21.toInt = zi2.toInt + 1 := by have ha : (1 : Int32).toInt = 1 := (by decide); rw [ha] at qe24; exact qe24
    refine p_put (ci := 10) (v := .int zi21) (ty := .int) (C := RX10) (T := TX10) (N := 20) hx hb hT iw_X10 tyX10 tyX10_ok nmX10 hown hK hw hS hW kd900 (by decide) rfl rfl 3 (by decide) (hT _ tb_192) (fun _ h9 => h9) rfl (by decide +kernel) rfl rfl dX10_addWitness_36 (fun hp26 eh27 H locs hw hS => ?_)
    have ok28 := wr_11003 bd23 (by decide) (by decide) ok19 kd900 eh27
    rw [hQ]
    exact kz_v hx hb hr hlocks hS hp26 hw ⟨ok28, (Fr.put (cq := 11003) (Fr.put (cq := 50000) (Fr.put (cq := 49000) (Fr.rf) eh11 kd9 (cd_a (by decide)) (by decide)) eh18 kd15 (cd_a (by decide)) (by decide)) eh27 kd900 (cd_o (by decide)) (by decide))⟩ (Nat.le_of_ble_eq_true rfl) (Nat.le_of_ble_eq_true rfl) dX10_addWitness_39

set_option maxRecDepth 100000 in
set_option maxHeartbeats 4000000 in
theorem cX10_addWord_0 (l : Launch) (G : va_G) (cy : Nat → ClassId) (ev : Ew) (K ln : Nat → Nat) (Ls : List Nat) (hW : SW K ln Ls) (sz : Nat) (hp0 : Nat → Nat → Value) (ok0 : Ok K hp0) (qa900 : Nat) (zi901 : Int32) (zi902 : Int32) (wl903 : Int64) (kd900 : K qa900 = 11) (bd902 : ((0 : Int) ≤ zi902.toInt ∧ zi902.toInt ≤ 1)) : Met l yX10_addWord (WS yX10_addWord cX10_addWord 5 none) { frames := 1, cells := 0, slots := 0, locals := 24 } (PB2 [.ref qa900, .int zi901, .int zi902, .long wl903] sz G cy ev (va_pl Ls (cellOf cy K ln hp0))) (QBv (S := (Nat → Nat → Value)) (fun u : (Nat → Nat → Value) => Ok K u ∧ Fr [11004, 11005, 50000, 51000, 52000] K hp0 u) G (fun u => va_pl Ls (cellOf cy K ln u)) (va_A (va_pl Ls (cellOf cy K ln hp0)) sz)) 0 0 (va_A (va_pl Ls (cellOf cy K ln hp0)) sz) := by
  refine met_of2 (y := yX10_addWord) (L := 5) (av := [.ref qa900, .int zi901, .int zi902, .long wl903]) (Qc := fun A => QBv (S := (Nat → Nat → Value)) (fun u : (Nat → Nat → Value) => Ok K u ∧ Fr [11004, 11005, 50000, 51000, 52000] K hp0 u) G (fun u => va_pl Ls (cellOf cy K ln u)) A) (plainFor_of_name (by decide)) (Nat.le_of_ble_eq_true rfl) ?_
  intro p e s m below meth c hsz hx hb hr hml hown hT hlocks hin hK A hA hE hw hS ls hl
  have hw : PW G cy K ln Ls A hp0 s.heap := hw
  have hown : s.vm.findClass "LieClock$Told" = some m.cls := hown
  have hl : lv_has ls 5 [(0, .ref qa900), (1, .int zi901), (2, .int zi902), (3, .long wl903)] := hl
  obtain ⟨Q, hQ⟩ : ∃ Q : State → Prop, Q = MQ below (QBv (S := (Nat → Nat → Value)) (fun u : (Nat → Nat → Value) => Ok K u ∧ Fr [11004, 11005, 50000, 51000, 52000] K hp0 u) G (fun u => va_pl Ls (cellOf cy K ln u)) A) ([.ref qa900, .int zi901, .int zi902, .long wl903] : List Value).toArray s 0 0 A := ⟨_, rfl⟩
  rw [← hQ]
  refine lv_aload_n hx hb dX10_addWord_0 rfl (lv_at hl 0 rfl) ?_
  obtain ⟨zi2, eq1, bd3⟩ := rd_11004 ok0 kd900
  refine p_get (ci := 10) (v := .int zi2) (C := RX10) (T := TX10) (N := 20) hx hb hT iw_X10 hown hK hw hW kd900 (by decide) rfl rfl 4 (by decide) eq1 (hT _ tb_198) (fun _ h9 => h9) dX10_addWord_1 ?_
  refine lv_bipush (v := 16) hx hb dX10_addWord_4 (by decide) ?_
  have jn66 : ∀ (hp63 : Nat → Nat → Value)  (H : Heap) (locs : List Loc) (ls : Array Slot), Ok K hp63 → Fr [11005, 50000, 51000, 52000] K hp0 hp63 → lv_has ls 5 [(0, .ref qa900)] → PW G cy K ln Ls A hp63 H → va_S A s.heap H locs → W p l e ({ frames := 1, cells := 0, slots := 0, locals := 24 } : Room) s m ([.ref qa900, .int zi901, .int zi902, .long wl903] : List Value).toArray below meth c H locs 0 0 Q (F0 m 77 ls []) := by
    intro hp63 H locs ls ok65 F64 hl hw hS
    refine lv_aload_n hx hb dX10_addWord_77 rfl (lv_at hl 0 rfl) ?_
    refine lv_aload_n hx hb dX10_addWord_78 rfl (lv_at hl 0 rfl) ?_
    have eq67 : hp63 qa900 4 = .int zi2 := Eq.trans (Fr.at (cq := 11004) F64 kd900 (cd_o (by decide)) (by decide)) eq1
    refine p_get (ci := 10) (v := .int zi2) (C := RX10) (T := TX10) (N := 20) hx hb hT iw_X10 hown hK hw hW kd900 (by decide) rfl rfl 4 (by decide) eq67 (hT _ tb_198) (fun _ h9 => h9) dX10_addWord_79 ?_
    refine lv_iconst (v := 1) hx hb dX10_addWord_82 (by decide) ?_
    refine lv_iadd hx hb dX10_addWord_83 (lv_topi (fun zi68 ea69 => ?_))
    have bd70 : (1 : Int) ≤ zi68.toInt ∧ zi68.toInt ≤ 17 := b_iadd ea69 bd3 bc_1 (by decide) (by decide) (by decide) (by decide)
    have qe71 : zi68.toInt = (zi2 : Int32).toInt + (1 : Int32).toInt := e_iadd ea69 bd3 bc_1 (by decide) (by decide)
    have qe72 : zi68.toInt = zi2.toInt + 1 := by have ha : (1 : Int32).toInt = 1 := (by decide); rw [ha] at qe71; exact qe71
    refine lv_bipush (v := 16) hx hb dX10_addWord_84 (by decide) ?_
    refine va_mmin hx hb (hml.trans hl.1.symm) hown (hT _ tb_930) (hT _ tb_791) (hT _ tb_123) (hT _ tb_792) (Nat.le_of_ble_eq_true rfl) (Nat.le_of_ble_eq_true rfl) (Nat.le_of_ble_eq_true rfl) (Nat.le_of_ble_eq_true rfl) dX10_addWord_86 (lv_topi (fun zi73 ea74 => ?_))
    have bd75 : (1 : Int) ≤ zi73.toInt ∧ zi73.toInt ≤ 16 := b_min ea74 bd70 bc_16 (by decide) (by decide) (by decide)
    refine p_put (ci := 10) (v := .int zi73) (ty := .int) (C := RX10) (T := TX10) (N := 20) hx hb hT iw_X10 tyX10 tyX10_ok nmX10 hown hK hw hS hW kd900 (by decide) rfl rfl 4 (by decide) (hT _ tb_198) (fun _ h9 => h9) rfl (by decide +kernel) rfl rfl dX10_addWord_89 (fun hp76 eh77 H locs hw hS => ?_)
    have ok78 := wr_11004 bd75 (by decide) (by decide) ok65 kd900 eh77
    rw [hQ]
    exact kz_v hx hb hr hlocks hS hp76 hw ⟨ok78, (Fr.put (cq := 11004) (Fr.tr (Fr.rf) F64 (by decide)) eh77 kd900 (cd_o (by decide)) (by decide))⟩ (Nat.le_of_ble_eq_true rfl) (Nat.le_of_ble_eq_true rfl) dX10_addWord_92
  refine lv_icmp_ge (tgt := 77) hx hb dX10_addWord_6 (by decide) (fun cn4 => ?_) (fun cn4 => ?_)
  · skip
    have bd79 : (16 : Int) ≤ zi2.toInt ∧ zi2.toInt ≤ 16 := r_le_y cn4 bc_16 bd3 (by decide) (by decide)
    exact jn66 hp0 _ _ ls ok0 (Fr.rf) (lv_sub hl [0] rfl) hw hS
  · skip
    have bd80 : (0 : Int) ≤ zi2.toInt ∧ zi2.toInt ≤ 15 := r_lt_x (Int32.not_le.mp cn4) bd3 bc_16 (by decide) (by decide)
    refine lv_iload_n hx hb dX10_addWord_9 rfl (lv_at hl 1 rfl) ?_
    refine lv_if_lt (tgt := 77) hx hb dX10_addWord_10 (by decide) (fun cn81 => ?_) (fun cn81 => ?_)
    · skip
      have bd82 : (-2147483648 : Int) ≤ zi901.toInt ∧ zi901.toInt ≤ -1 := r_lt_x cn81 (b_all zi901) bc_0 (by decide) (by decide)
      exact jn66 hp0 _ _ ls ok0 (Fr.rf) (lv_sub hl [0] rfl) hw hS
    · skip
      have bd83 : (0 : Int) ≤ zi901.toInt ∧ zi901.toInt ≤ 2147483647 := r_le_y (Int32.not_lt.mp cn81) bc_0 (b_all zi901) (by decide) (by decide)
      refine lv_iload_n hx hb dX10_addWord_13 rfl (lv_at hl 1 rfl) ?_
      refine lv_bipush (v := 6) hx hb dX10_addWord_14 (by decide) ?_
      refine lv_icmp_ge (tgt := 77) hx hb dX10_addWord_16 (by decide) (fun cn84 => ?_) (fun cn84 => ?_)
      · skip
        have bd85 : (6 : Int) ≤ zi901.toInt ∧ zi901.toInt ≤ 2147483647 := r_le_y cn84 bc_6 bd83 (by decide) (by decide)
        exact jn66 hp0 _ _ ls ok0 (Fr.rf) (lv_sub hl [0] rfl) hw hS
      · skip
        have bd86 : (0 : Int) ≤ zi901.toInt ∧ zi901.toInt ≤ 5 := r_lt_x (Int32.not_le.mp cn84) bd83 bc_6 (by decide) (by decide)
        refine lv_aload_n hx hb dX10_addWord_19 rfl (lv_at hl 0 rfl) ?_
        obtain ⟨qa88, eq87, kd89⟩ := rd_11013 ok0 kd900
        refine p_get (ci := 10) (v := .ref qa88) (C := RX10) (T := TX10) (N := 20) hx hb hT iw_X10 hown hK hw hW kd900 (by decide) rfl rfl 13 (by decide) eq87 (hT _ tb_227) (fun _ h9 => h9) dX10_addWord_20 ?_
        refine lv_aload_n hx hb dX10_addWord_23 rfl (lv_at hl 0 rfl) ?_
        refine p_get (ci := 10) (v := .int zi2) (C := RX10) (T := TX10) (N := 20) hx hb hT iw_X10 hown hK hw hW kd900 (by decide) rfl rfl 4 (by decide) eq1 (hT _ tb_198) (fun _ h9 => h9) dX10_addWord_24 ?_
        refine lv_iload_n hx hb dX10_addWord_27 rfl (lv_at hl 1 rfl) ?_
        refine p_iast (x := zi901) hx hb hK hw hS hW kd89 (by decide) rfl (hW.len kd89 (n := 16) rfl (by decide)) (vp_b bd80 (by decide) (by decide)) dX10_addWord_28 (fun hp90 eh91 H locs hw hS => ?_)
        have ok92 := wr_51000 bd86 (by decide) (by decide) ok0 kd89 eh91
        refine lv_aload_n hx hb dX10_addWord_29 rfl (lv_at hl 0 rfl) ?_
        obtain ⟨qa94, eq93, kd95⟩ := rd_11012 ok92 kd900
        refine p_get (ci := 10) (v := .ref qa94) (C := RX10) (T := TX10) (N := 20) hx hb hT iw_X10 hown hK hw hW kd900 (by decide) rfl rfl 12 (by decide) eq93 (hT _ tb_224) (fun _ h9 => h9) dX10_addWord_30 ?_
        refine lv_iload_n hx hb dX10_addWord_33 rfl (lv_at hl 1 rfl) ?_
        refine lv_dup2_11 hx hb dX10_addWord_34 rfl rfl ?_
        obtain ⟨zi97, eq96⟩ := rd_50000 ok92 kd95 ((zi901 : Int32).toNatClampNeg)
        refine p_iald (v := zi97) hx hb hK hw hW kd95 (by decide) rfl (hW.len kd95 (n := 6) rfl (by decide)) (vp_b bd86 (by decide) (by decide)) eq96 dX10_addWord_35 ?_
        refine lv_iconst (v := 1) hx hb dX10_addWord_36 (by decide) ?_
        refine lv_aload_n hx hb dX10_addWord_37 rfl (lv_at hl 0 rfl) ?_
        have eq98 : hp90 qa900 4 = .int zi2 := Eq.trans (up_at eh91 (Or.inl (kd_ne kd900 kd89 (by decide)))) eq1
        refine p_get (ci := 10) (v := .int zi2) (C := RX10) (T := TX10) (N := 20) hx hb hT iw_X10 hown hK hw hW kd900 (by decide) rfl rfl 4 (by decide) eq98 (hT _ tb_198) (fun _ h9 => h9) dX10_addWord_38 ?_
        refine lv_ishl hx hb dX10_addWord_41 (lv_topi (fun zi99 ea100 => ?_))
        have bd101 : (1 : Int) ≤ zi99.toInt ∧ zi99.toInt ≤ 32768 := b_shl1 15 ea100 bd80 (by decide) (by decide) (by decide) (by decide) (by decide)
        refine lv_ior hx hb dX10_addWord_42 (lv_topi (fun zi102 ea103 => ?_))
        refine p_iast (x := zi102) hx hb hK hw hS hW kd95 (by decide) rfl (hW.len kd95 (n := 6) rfl (by decide)) (vp_b bd86 (by decide) (by decide)) dX10_addWord_43 (fun hp104 eh105 H locs hw hS => ?_)
        have ok106 := wr_50000 ok92 kd95 eh105
        refine lv_aload_n hx hb dX10_addWord_44 rfl (lv_at hl 0 rfl) ?_
        refine lv_dup hx hb dX10_addWord_45 rfl ?_
        obtain ⟨zi108, eq107⟩ := rd_11005 ok106 kd900
        refine p_get (ci := 10) (v := .int zi108) (C := RX10) (T := TX10) (N := 20) hx hb hT iw_X10 hown hK hw hW kd900 (by decide) rfl rfl 5 (by decide) eq107 (hT _ tb_205) (fun _ h9 => h9) dX10_addWord_46 ?_
        refine lv_iload_n hx hb dX10_addWord_49 rfl (lv_at hl 2 rfl) ?_
        have jn118 : ∀ (zi116 : Int32) (H : Heap) (locs : List Loc) (ls : Array Slot), ((0 : Int) ≤ zi116.toInt ∧ zi116.toInt ≤ 32768) → lv_has ls 5 [(0, .ref qa900), (3, .long wl903)] → PW G cy K ln Ls A hp104 H → va_S A s.heap H locs → W p l e ({ frames := 1, cells := 0, slots := 0, locals := 24 } : Room) s m ([.ref qa900, .int zi901, .int zi902, .long wl903] : List Value).toArray below meth c H locs 0 0 Q (F0 m 63 ls [.int zi116, .int zi108, .ref qa900]) := by
          intro zi116 H locs ls bd117 hl hw hS
          refine lv_ior hx hb dX10_addWord_63 (lv_topi (fun zi119 ea120 => ?_))
          refine p_put (ci := 10) (v := .int zi119) (ty := .int) (C := RX10) (T := TX10) (N := 20) hx hb hT iw_X10 tyX10 tyX10_ok nmX10 hown hK hw hS hW kd900 (by decide) rfl rfl 5 (by decide) (hT _ tb_205) (fun _ h9 => h9) rfl (by decide +kernel) rfl rfl dX10_addWord_64 (fun hp121 eh122 H locs hw hS => ?_)
          have ok123 := wr_11005 ok106 kd900 eh122
          refine lv_aload_n hx hb dX10_addWord_67 rfl (lv_at hl 0 rfl) ?_
          obtain ⟨qa125, eq124, kd126⟩ := rd_11014 ok123 kd900
          refine p_get (ci := 10) (v := .ref qa125) (C := RX10) (T := TX10) (N := 20) hx hb hT iw_X10 hown hK hw hW kd900 (by decide) rfl rfl 14 (by decide) eq124 (hT _ tb_230) (fun _ h9 => h9) dX10_addWord_68 ?_
          refine lv_aload_n hx hb dX10_addWord_71 rfl (lv_at hl 0 rfl) ?_
          have eq127 : hp121 qa900 4 = .int zi2 := Eq.trans (up_at eh122 (Or.inr (by decide))) (Eq.trans (up_at eh105 (Or.inl (kd_ne kd900 kd95 (by decide)))) eq98)
          refine p_get (ci := 10) (v := .int zi2) (C := RX10) (T := TX10) (N := 20) hx hb hT iw_X10 hown hK hw hW kd900 (by decide) rfl rfl 4 (by decide) eq127 (hT _ tb_198) (fun _ h9 => h9) dX10_addWord_72 ?_
          refine lv_lload_n hx hb dX10_addWord_75 rfl (lv_at hl 1 rfl) ?_
          refine p_last (x := wl903) hx hb hK hw hS hW kd126 (by decide) rfl (hW.len kd126 (n := 16) rfl (by decide)) (vp_b bd80 (by decide) (by decide)) dX10_addWord_76 (fun hp128 eh129 H locs hw hS => ?_)
          have ok130 := wr_52000 ok123 kd126 eh129
          exact jn66 hp128 _ _ ls ok130 (Fr.put (cq := 52000) (Fr.put (cq := 11005) (Fr.put (cq := 50000) (Fr.put (cq := 51000) (Fr.rf) eh91 kd89 (cd_a (by decide)) (by decide)) eh105 kd95 (cd_a (by decide)) (by decide)) eh122 kd900 (cd_o (by decide)) (by decide)) eh129 kd126 (cd_a (by decide)) (by decide)) (lv_sub hl [0] rfl) hw hS
        refine lv_if_eq (tgt := 62) hx hb dX10_addWord_50 (by decide) (fun cn109 => ?_) (fun cn109 => ?_)
        · skip
          have bd131 : (0 : Int) ≤ zi902.toInt ∧ zi902.toInt ≤ 0 := r_eq_x cn109 bd902 bc_0 (by decide) (by decide)
          refine lv_iconst (v := 0) hx hb dX10_addWord_62 (by decide) ?_
          exact jn118 0 _ _ ls (b_wid2 bc_0 (by decide) (by decide)) (lv_sub hl [0, 3] rfl) hw hS
        · skip
          have bd132 : (1 : Int) ≤ zi902.toInt ∧ zi902.toInt ≤ 1 := r_ne_lo cn109 bd902 (toi bc_0) (by decide) (by decide)
          refine lv_iconst (v := 1) hx hb dX10_addWord_53 (by decide) ?_
          refine lv_aload_n hx hb dX10_addWord_54 rfl (lv_at hl 0 rfl) ?_
          have eq133 : hp104 qa900 4 = .int zi2 := Eq.trans (up_at eh105 (Or.inl (kd_ne kd900 kd95 (by decide)))) eq98
          refine p_get (ci := 10) (v := .int zi2) (C := RX10) (T := TX10) (N := 20) hx hb hT iw_X10 hown hK hw hW kd900 (by decide) rfl rfl 4 (by decide) eq133 (hT _ tb_198) (fun _ h9 => h9) dX10_addWord_55 ?_
          refine lv_ishl hx hb dX10_addWord_58 (lv_topi (fun zi134 ea135 => ?_))
          have bd136 : (1 : Int) ≤ zi134.toInt ∧ zi134.toInt ≤ 32768 := b_shl1 15 ea135 bd80 (by decide) (by decide) (by decide) (by decide) (by decide)
          refine lv_goto (tgt := 63) hx hb dX10_addWord_59 (by decide) ?_
          exact jn118 zi134 _ _ ls (b_wid2 bd136 (by decide) (by decide)) (lv_sub hl [0, 3] rfl) hw hS

set_option maxRecDepth 100000 in
set_option maxHeartbeats 4000000 in
theorem cX10_addCase_0 (l : Launch) (G : va_G) (cy : Nat → ClassId) (ev : Ew) (K ln : Nat → Nat) (Ls : List Nat) (hW : SW K ln Ls) (sz : Nat) (hp0 : Nat → Nat → Value) (ok0 : Ok K hp0) (qa900 : Nat) (wl901 : Int64) (zi902 : Int32) (wl903 : Int64) (kd900 : K qa900 = 11) : Met l yX10_addCase (WS yX10_addCase cX10_addCase 6 none) { frames := 0, cells := 0, slots := 0, locals := 0 } (PB2 [.ref qa900, .long wl901, .int zi902, .long wl903] sz G cy ev (va_pl Ls (cellOf cy K ln hp0))) (QBv (S := (Nat → Nat → Value)) (fun u : (Nat → Nat → Value) => Ok K u ∧ Fr [11007, 53000, 54000, 55000] K hp0 u) G (fun u => va_pl Ls (cellOf cy K ln u)) (va_A (va_pl Ls (cellOf cy K ln hp0)) sz)) 0 0 (va_A (va_pl Ls (cellOf cy K ln hp0)) sz) := by
  refine met_of2 (y := yX10_addCase) (L := 6) (av := [.ref qa900, .long wl901, .int zi902, .long wl903]) (Qc := fun A => QBv (S := (Nat → Nat → Value)) (fun u : (Nat → Nat → Value) => Ok K u ∧ Fr [11007, 53000, 54000, 55000] K hp0 u) G (fun u => va_pl Ls (cellOf cy K ln u)) A) (plainFor_of_name (by decide)) (Nat.le_of_ble_eq_true rfl) ?_
  intro p e s m below meth c hsz hx hb hr hml hown hT hlocks hin hK A hA hE hw hS ls hl
  have hw : PW G cy K ln Ls A hp0 s.heap := hw
  have hown : s.vm.findClass "LieClock$Told" = some m.cls := hown
  have hl : lv_has ls 6 [(0, .ref qa900), (1, .long wl901), (3, .int zi902), (4, .long wl903)] := hl
  obtain ⟨Q, hQ⟩ : ∃ Q : State → Prop, Q = MQ below (QBv (S := (Nat → Nat → Value)) (fun u : (Nat → Nat → Value) => Ok K u ∧ Fr [11007, 53000, 54000, 55000] K hp0 u) G (fun u => va_pl Ls (cellOf cy K ln u)) A) ([.ref qa900, .long wl901, .int zi902, .long wl903] : List Value).toArray s 0 0 A := ⟨_, rfl⟩
  rw [← hQ]
  refine lv_aload_n hx hb dX10_addCase_0 rfl (lv_at hl 0 rfl) ?_
  obtain ⟨zi2, eq1, bd3⟩ := rd_11007 ok0 kd900
  refine p_get (ci := 10) (v := .int zi2) (C := RX10) (T := TX10) (N := 20) hx hb hT iw_X10 hown hK hw hW kd900 (by decide) rfl rfl 7 (by decide) eq1 (hT _ tb_212) (fun _ h9 => h9) dX10_addCase_1 ?_
  refine lv_bipush (v := 8) hx hb dX10_addCase_4 (by decide) ?_
  refine lv_icmp_ge (tgt := 50) hx hb dX10_addCase_6 (by decide) (fun cn4 => ?_) (fun cn4 => ?_)
  · skip
    have bd5 : (8 : Int) ≤ zi2.toInt ∧ zi2.toInt ≤ 8 := r_le_y cn4 bc_8 bd3 (by decide) (by decide)
    rw [hQ]
    exact kz_v hx hb hr hlocks hS hp0 hw ⟨ok0, (Fr.rf)⟩ (Nat.le_of_ble_eq_true rfl) (Nat.le_of_ble_eq_true rfl) dX10_addCase_50
  · skip
    have bd6 : (0 : Int) ≤ zi2.toInt ∧ zi2.toInt ≤ 7 := r_lt_x (Int32.not_le.mp cn4) bd3 bc_8 (by decide) (by decide)
    refine lv_aload_n hx hb dX10_addCase_9 rfl (lv_at hl 0 rfl) ?_
    obtain ⟨qa8, eq7, kd9⟩ := rd_11015 ok0 kd900
    refine p_get (ci := 10) (v := .ref qa8) (C := RX10) (T := TX10) (N := 20) hx hb hT iw_X10 hown hK hw hW kd900 (by decide) rfl rfl 15 (by decide) eq7 (hT _ tb_233) (fun _ h9 => h9) dX10_addCase_10 ?_
    refine lv_aload_n hx hb dX10_addCase_13 rfl (lv_at hl 0 rfl) ?_
    refine p_get (ci := 10) (v := .int zi2) (C := RX10) (T := TX10) (N := 20) hx hb hT iw_X10 hown hK hw hW kd900 (by decide) rfl rfl 7 (by decide) eq1 (hT _ tb_212) (fun _ h9 => h9) dX10_addCase_14 ?_
    refine lv_lload_n hx hb dX10_addCase_17 rfl (lv_at hl 1 rfl) ?_
    refine p_last (x := wl901) hx hb hK hw hS hW kd9 (by decide) rfl (hW.len kd9 (n := 8) rfl (by decide)) (vp_b bd6 (by decide) (by decide)) dX10_addCase_18 (fun hp10 eh11 H locs hw hS => ?_)
    have ok12 := wr_53000 ok0 kd9 eh11
    refine lv_aload_n hx hb dX10_addCase_19 rfl (lv_at hl 0 rfl) ?_
    obtain ⟨qa14, eq13, kd15⟩ := rd_11016 ok12 kd900
    refine p_get (ci := 10) (v := .ref qa14) (C := RX10) (T := TX10) (N := 20) hx hb hT iw_X10 hown hK hw hW kd900 (by decide) rfl rfl 16 (by decide) eq13 (hT _ tb_234) (fun _ h9 => h9) dX10_addCase_20 ?_
    refine lv_aload_n hx hb dX10_addCase_23 rfl (lv_at hl 0 rfl) ?_
    have eq16 : hp10 qa900 7 = .int zi2 := Eq.trans (up_at eh11 (Or.inl (kd_ne kd900 kd9 (by decide)))) eq1
    refine p_get (ci := 10) (v := .int zi2) (C := RX10) (T := TX10) (N := 20) hx hb hT iw_X10 hown hK hw hW kd900 (by decide) rfl rfl 7 (by decide) eq16 (hT _ tb_212) (fun _ h9 => h9) dX10_addCase_24 ?_
    refine lv_iload_n hx hb dX10_addCase_27 rfl (lv_at hl 2 rfl) ?_
    refine p_iast (x := zi902) hx hb hK hw hS hW kd15 (by decide) rfl (hW.len kd15 (n := 8) rfl (by decide)) (vp_b bd6 (by decide) (by decide)) dX10_addCase_28 (fun hp17 eh18 H locs hw hS => ?_)
    have ok19 := wr_54000 ok12 kd15 eh18
    refine lv_aload_n hx hb dX10_addCase_29 rfl (lv_at hl 0 rfl) ?_
    obtain ⟨qa21, eq20, kd22⟩ := rd_11017 ok19 kd900
    refine p_get (ci := 10) (v := .ref qa21) (C := RX10) (T := TX10) (N := 20) hx hb hT iw_X10 hown hK hw hW kd900 (by decide) rfl rfl 17 (by decide) eq20 (hT _ tb_238) (fun _ h9 => h9) dX10_addCase_30 ?_
    refine lv_aload_n hx hb dX10_addCase_33 rfl (lv_at hl 0 rfl) ?_
    have eq23 : hp17 qa900 7 = .int zi2 := Eq.trans (up_at eh18 (Or.inl (kd_ne kd900 kd15 (by decide)))) eq16
    refine p_get (ci := 10) (v := .int zi2) (C := RX10) (T := TX10) (N := 20) hx hb hT iw_X10 hown hK hw hW kd900 (by decide) rfl rfl 7 (by decide) eq23 (hT _ tb_212) (fun _ h9 => h9) dX10_addCase_34 ?_
    refine lv_lload hx hb dX10_addCase_37 (lv_at hl 3 rfl) ?_
    refine p_last (x := wl903) hx hb hK hw hS hW kd22 (by decide) rfl (hW.len kd22 (n := 8) rfl (by decide)) (vp_b bd6 (by decide) (by decide)) dX10_addCase_39 (fun hp24 eh25 H locs hw hS => ?_)
    have ok26 := wr_55000 ok19 kd22 eh25
    refine lv_aload_n hx hb dX10_addCase_40 rfl (lv_at hl 0 rfl) ?_
    refine lv_dup hx hb dX10_addCase_41 rfl ?_
    have eq27 : hp24 qa900 7 = .int zi2 := Eq.trans (up_at eh25 (Or.inl (kd_ne kd900 kd22 (by decide)))) eq23
    refine p_get (ci := 10) (v := .int zi2) (C := RX10) (T := TX10) (N := 20) hx hb hT iw_X10 hown hK hw hW kd900 (by decide) rfl rfl 7 (by decide) eq27 (hT _ tb_212) (fun _ h9 => h9) dX10_addCase_42 ?_
    refine lv_iconst (v := 1) hx hb dX10_addCase_45 (by decide) ?_
    refine lv_iadd hx hb dX10_addCase_46 (lv_topi (fun zi28 ea29 => ?_))
    have bd30 : (1 : Int) ≤ zi28.toInt ∧ zi28.toInt ≤ 8 := b_iadd ea29 bd6 bc_1 (by decide) (by decide) (by decide) (by decide)
    have qe31 : zi28.toInt = (zi2 : Int32).toInt + (1 : Int32).toInt := e_iadd ea29 bd6 bc_1 (by decide) (by decide)
    have qe32 : zi28.toInt = zi2.toInt + 1 := by have ha : (1 : Int32).toInt = 1 := (by decide); rw [ha] at qe31; exact qe31
    refine p_put (ci := 10) (v := .int zi28) (ty := .int) (C := RX10) (T := TX10) (N := 20) hx hb hT iw_X10 tyX10 tyX10_ok nmX10 hown hK hw hS hW kd900 (by decide) rfl rfl 7 (by decide) (hT _ tb_212) (fun _ h9 => h9) rfl (by decide +kernel) rfl rfl dX10_addCase_47 (fun hp33 eh34 H locs hw hS => ?_)
    have ok35 := wr_11007 bd30 (by decide) (by decide) ok26 kd900 eh34
    rw [hQ]
    exact kz_v hx hb hr hlocks hS hp33 hw ⟨ok35, (Fr.put (cq := 11007) (Fr.put (cq := 55000) (Fr.put (cq := 54000) (Fr.put (cq := 53000) (Fr.rf) eh11 kd9 (cd_a (by decide)) (by decide)) eh18 kd15 (cd_a (by decide)) (by decide)) eh25 kd22 (cd_a (by decide)) (by decide)) eh34 kd900 (cd_o (by decide)) (by decide))⟩ (Nat.le_of_ble_eq_true rfl) (Nat.le_of_ble_eq_true rfl) dX10_addCase_50

set_option maxRecDepth 100000 in
set_option maxHeartbeats 4000000 in
theorem cX10_indexOf_0 (l : Launch) (G : va_G) (cy : Nat → ClassId) (ev : Ew) (K ln : Nat → Nat) (Ls : List Nat) (hW : SW K ln Ls) (sz : Nat) (hp0 : Nat → Nat → Value) (ok0 : Ok K hp0) (qa900 : Nat) (zi901 : Int32) (wl902 : Int64) (kd900 : K qa900 = 48) : Met l yX10_indexOf (WS yX10_indexOf cX10_indexOf 5 (some .int)) { frames := 0, cells := 0, slots := 0, locals := 0 } (PB2 [.ref qa900, .int zi901, .long wl902] sz G cy ev (va_pl Ls (cellOf cy K ln hp0))) (QBi (S := (Nat → Nat → Value)) (fun (r : Int32) (u : (Nat → Nat → Value)) => Ok K u ∧ Fr [] K hp0 u ∧ ((-1 : Int) ≤ r.toInt ∧ r.toInt ≤ 5)) G (fun u => va_pl Ls (cellOf cy K ln u)) (va_A (va_pl Ls (cellOf cy K ln hp0)) sz)) 0 0 (va_A (va_pl Ls (cellOf cy K ln hp0)) sz) := by
  refine met_of2 (y := yX10_indexOf) (L := 5) (av := [.ref qa900, .int zi901, .long wl902]) (Qc := fun A => QBi (S := (Nat → Nat → Value)) (fun (r : Int32) (u : (Nat → Nat → Value)) => Ok K u ∧ Fr [] K hp0 u ∧ ((-1 : Int) ≤ r.toInt ∧ r.toInt ≤ 5)) G (fun u => va_pl Ls (cellOf cy K ln u)) A) (plainFor_of_name (by decide)) (Nat.le_of_ble_eq_true rfl) ?_
  intro p e s m below meth c hsz hx hb hr hml hown hT hlocks hin hK A hA hE hw hS ls hl
  have hw : PW G cy K ln Ls A hp0 s.heap := hw
  have hown : s.vm.findClass "LieClock$Told" = some m.cls := hown
  have hl : lv_has ls 5 [(0, .ref qa900), (1, .int zi901), (2, .long wl902)] := hl
  obtain ⟨Q, hQ⟩ : ∃ Q : State → Prop, Q = MQ below (QBi (S := (Nat → Nat → Value)) (fun (r : Int32) (u : (Nat → Nat → Value)) => Ok K u ∧ Fr [] K hp0 u ∧ ((-1 : Int) ≤ r.toInt ∧ r.toInt ≤ 5)) G (fun u => va_pl Ls (cellOf cy K ln u)) A) ([.ref qa900, .int zi901, .long wl902] : List Value).toArray s 0 0 A := ⟨_, rfl⟩
  rw [← hQ]
  refine lv_iconst (v := 0) hx hb dX10_indexOf_0 (by decide) ?_
  refine lv_istore (lv' := [(4, .int 0), (0, .ref qa900), (1, .int zi901), (2, .long wl902)]) hx hb dX10_indexOf_1 hl (by decide) rfl (fun ls hl => ?_)
  have lp118 : ∀ (n116 : Nat) (zi80 : Int32) (H : Heap) (locs : List Loc) (ls : Array Slot), 6 - zi80.toInt < (n116 : Int) → ((0 : Int) ≤ zi80.toInt ∧ zi80.toInt ≤ 6) → lv_has ls 5 [(0, .ref qa900), (1, .int zi901), (2, .long wl902), (4, .int zi80)] → PW G cy K ln Ls A hp0 H → va_S A s.heap H locs → W p l e ({ frames := 0, cells := 0, slots := 0, locals := 0 } : Room) s m ([.ref qa900, .int zi901, .long wl902] : List Value).toArray below meth c H locs 0 0 Q (F0 m 3 ls []) := by
    intro n116
    induction n116 with
    | zero =>
      intro zi80 H locs ls hm119 bd81 hl hw hS
      exact absurd hm119 (by have := bd81; omega)
    | succ n116 ih117 =>
      intro zi80 H locs ls hm119 bd81 hl hw hS
      refine lv_iload hx hb dX10_indexOf_3 (lv_at hl 3 rfl) ?_
      refine lv_iload_n hx hb dX10_indexOf_5 rfl (lv_at hl 1 rfl) ?_
      refine lv_icmp_ge (tgt := 34) hx hb dX10_indexOf_6 (by decide) (fun cn120 => ?_) (fun cn120 => ?_)
      · skip
        have bd121 : (-2147483648 : Int) ≤ zi901.toInt ∧ zi901.toInt ≤ 6 := r_le_x cn120 (b_all zi901) bd81 (by decide) (by decide)
        refine lv_iconst (v := (-1)) hx hb dX10_indexOf_34 (by decide) ?_
        rw [hQ]
        exact kz_i hx hb hr hlocks hS rfl hp0 hw ⟨ok0, (Fr.rf), (b_wid2 bc_m1 (by decide) (by decide))⟩ (Nat.le_of_ble_eq_true rfl) (Nat.le_of_ble_eq_true rfl) dX10_indexOf_35
      · skip
        have bd122 : (1 : Int) ≤ zi901.toInt ∧ zi901.toInt ≤ 2147483647 := r_lt_y (Int32.not_le.mp cn120) bd81 (b_all zi901) (by decide) (by decide)
        refine lv_iload hx hb dX10_indexOf_9 (lv_at hl 3 rfl) ?_
        refine lv_aload_n hx hb dX10_indexOf_11 rfl (lv_at hl 0 rfl) ?_
        refine p_alen (v := 6) hx hb hK hw hW kd900 (by decide) rfl rfl (by rw [hW.len kd900 (n := 6) rfl (by decide)]; decide) dX10_indexOf_12 ?_
        refine lv_icmp_ge (tgt := 34) hx hb dX10_indexOf_13 (by decide) (fun cn123 => ?_) (fun cn123 => ?_)
        · skip
          have bd124 : (6 : Int) ≤ zi80.toInt ∧ zi80.toInt ≤ 6 := r_le_y cn123 bc_6 bd81 (by decide) (by decide)
          refine lv_iconst (v := (-1)) hx hb dX10_indexOf_34 (by decide) ?_
          rw [hQ]
          exact kz_i hx hb hr hlocks hS rfl hp0 hw ⟨ok0, (Fr.rf), (b_wid2 bc_m1 (by decide) (by decide))⟩ (Nat.le_of_ble_eq_true rfl) (Nat.le_of_ble_eq_true rfl) dX10_indexOf_35
        · skip
          have bd125 : (0 : Int) ≤ zi80.toInt ∧ zi80.toInt ≤ 5 := r_lt_x (Int32.not_le.mp cn123) bd81 bc_6 (by decide) (by decide)
          refine lv_aload_n hx hb dX10_indexOf_16 rfl (lv_at hl 0 rfl) ?_
          refine lv_iload hx hb dX10_indexOf_17 (lv_at hl 3 rfl) ?_
          obtain ⟨wl127, eq126⟩ := rd_48000 ok0 kd900 ((zi80 : Int32).toNatClampNeg)
          refine p_lald (v := wl127) hx hb hK hw hW kd900 (by decide) rfl (hW.len kd900 (n := 6) rfl (by decide)) (vp_b bd125 (by decide) (by decide)) eq126 dX10_indexOf_19 ?_
          refine lv_lload_n hx hb dX10_indexOf_20 rfl (lv_at hl 2 rfl) ?_
          refine W.lcmp hx hb dX10_indexOf_21 (lv_topi (fun zi128 ea129 => ?_))
          refine lv_if_ne (tgt := 28) hx hb dX10_indexOf_22 (by decide) (fun cn130 => ?_) (fun cn130 => ?_)
          · skip
            obtain ⟨zi131, ea132⟩ : ∃ z : Int32, z = zi80 + 1 := ⟨_, rfl⟩
            have bd133 : (1 : Int) ≤ zi131.toInt ∧ zi131.toInt ≤ 6 := b_iadd ea132 bd125 bc_1 (by decide) (by decide) (by decide) (by decide)
            have qe134 : zi131.toInt = (zi80 : Int32).toInt + (1 : Int32).toInt := e_iadd ea132 bd125 bc_1 (by decide) (by decide)
            have qe135 : zi131.toInt = zi80.toInt + 1 := by have ha : (1 : Int32).toInt = 1 := (by decide); rw [ha] at qe134; exact qe134
            refine lv_iinc (v := zi131) (lv' := [(4, .int zi131), (0, .ref qa900), (1, .int zi901), (2, .long wl902)]) hx hb dX10_indexOf_28 hl (k := 3) rfl ea132.symm (by decide) rfl (fun ls hl => ?_)
            refine lv_goto (tgt := 3) hx hb dX10_indexOf_31 (by decide) ?_
            exact ih117 zi131 _ _ ls (by have := hm119; have := qe135; omega) (b_wid2 bd133 (by decide) (by decide)) (lv_sub hl [1, 2, 3, 0] rfl) hw hS
          · skip
            have bd136 : (0 : Int) ≤ zi128.toInt ∧ zi128.toInt ≤ 0 := r_eq_x cn130 (b_all zi128) bc_0 (by decide) (by decide)
            refine lv_iload hx hb dX10_indexOf_25 (lv_at hl 3 rfl) ?_
            rw [hQ]
            exact kz_i hx hb hr hlocks hS rfl hp0 hw ⟨ok0, (Fr.rf), (b_wid2 bd125 (by decide) (by decide))⟩ (Nat.le_of_ble_eq_true rfl) (Nat.le_of_ble_eq_true rfl) dX10_indexOf_27
  exact lp118 _ 0 _ _ ls (lp_in _) (b_wid2 bc_0 (by decide) (by decide)) (lv_sub hl [1, 2, 3, 0] rfl) hw hS

set_option maxRecDepth 100000 in
set_option maxHeartbeats 4000000 in
theorem cX10_factNamed_0 (l : Launch) (G : va_G) (cy : Nat → ClassId) (ev : Ew) (K ln : Nat → Nat) (Ls : List Nat) (hW : SW K ln Ls) (sz : Nat) (hp0 : Nat → Nat → Value) (ok0 : Ok K hp0) (qa900 : Nat) (wl901 : Int64) (kd900 : K qa900 = 11) : Met l yX10_factNamed (WS yX10_factNamed cX10_factNamed 3 (some .int)) { frames := 1, cells := 0, slots := 0, locals := 24 } (PB2 [.ref qa900, .long wl901] sz G cy ev (va_pl Ls (cellOf cy K ln hp0))) (QBi (S := (Nat → Nat → Value)) (fun (r : Int32) (u : (Nat → Nat → Value)) => Ok K u ∧ Fr [] K hp0 u ∧ ((-1 : Int) ≤ r.toInt ∧ r.toInt ≤ 5)) G (fun u => va_pl Ls (cellOf cy K ln u)) (va_A (va_pl Ls (cellOf cy K ln hp0)) sz)) 0 0 (va_A (va_pl Ls (cellOf cy K ln hp0)) sz) := by
  refine met_of2 (y := yX10_factNamed) (L := 3) (av := [.ref qa900, .long wl901]) (Qc := fun A => QBi (S := (Nat → Nat → Value)) (fun (r : Int32) (u : (Nat → Nat → Value)) => Ok K u ∧ Fr [] K hp0 u ∧ ((-1 : Int) ≤ r.toInt ∧ r.toInt ≤ 5)) G (fun u => va_pl Ls (cellOf cy K ln u)) A) (plainFor_of_name (by decide)) (Nat.le_of_ble_eq_true rfl) ?_
  intro p e s m below meth c hsz hx hb hr hml hown hT hlocks hin hK A hA hE hw hS ls hl
  have hw : PW G cy K ln Ls A hp0 s.heap := hw
  have hown : s.vm.findClass "LieClock$Told" = some m.cls := hown
  have hl : lv_has ls 3 [(0, .ref qa900), (1, .long wl901)] := hl
  obtain ⟨Q, hQ⟩ : ∃ Q : State → Prop, Q = MQ below (QBi (S := (Nat → Nat → Value)) (fun (r : Int32) (u : (Nat → Nat → Value)) => Ok K u ∧ Fr [] K hp0 u ∧ ((-1 : Int) ≤ r.toInt ∧ r.toInt ≤ 5)) G (fun u => va_pl Ls (cellOf cy K ln u)) A) ([.ref qa900, .long wl901] : List Value).toArray s 0 0 A := ⟨_, rfl⟩
  rw [← hQ]
  refine lv_aload_n hx hb dX10_factNamed_0 rfl (lv_at hl 0 rfl) ?_
  obtain ⟨qa2, eq1, kd3⟩ := rd_11010 ok0 kd900
  refine p_get (ci := 10) (v := .ref qa2) (C := RX10) (T := TX10) (N := 20) hx hb hT iw_X10 hown hK hw hW kd900 (by decide) rfl rfl 10 (by decide) eq1 (hT _ tb_222) (fun _ h9 => h9) dX10_factNamed_1 ?_
  refine lv_aload_n hx hb dX10_factNamed_4 rfl (lv_at hl 0 rfl) ?_
  obtain ⟨zi5, eq4, bd6⟩ := rd_11000 ok0 kd900
  refine p_get (ci := 10) (v := .int zi5) (C := RX10) (T := TX10) (N := 20) hx hb hT iw_X10 hown hK hw hW kd900 (by decide) rfl rfl 0 (by decide) eq4 (hT _ tb_183) (fun _ h9 => h9) dX10_factNamed_5 ?_
  refine lv_lload_n hx hb dX10_factNamed_8 rfl (lv_at hl 1 rfl) ?_
  refine kq_i hw hS hA (va_runS (As := [.ref qa2, .int zi5, .long wl901]) (rest := []) ⟨hx, hb, hml, hown, hT⟩ (cX10_indexOf_0 l G cy ev K ln Ls hW _ hp0 ok0 qa2 zi5 wl901 kd3) (va_cwS 3 hT (good_S tb_873 tb_871 tb_872 tb_107) rfl rfl rfl (by decide +kernel) ⟨Nat.le_of_ble_eq_true rfl, Nat.le_of_ble_eq_true rfl⟩) (PB2.preS hK hE hS hA hw) rfl rfl hl.1 rfl (lv_room (Nat.le_of_ble_eq_true rfl)) dX10_factNamed_9 ⟨Nat.le_of_ble_eq_true rfl, Nat.le_of_ble_eq_true rfl⟩) (fun zi11 hp7 H locs hq10 hw hS => ?_)
  obtain ⟨ok8, F9, bd12⟩ := hq10
  obtain rfl : hp0 = hp7 := (Fr.nil F9).symm
  have hw : PW G cy K ln Ls A hp0 H := hw
  rw [hQ]
  exact kz_i hx hb hr hlocks hS rfl hp0 hw ⟨ok0, (Fr.rf), (b_wid2 bd12 (by decide) (by decide))⟩ (Nat.le_of_ble_eq_true rfl) (Nat.le_of_ble_eq_true rfl) dX10_factNamed_12

set_option maxRecDepth 100000 in
set_option maxHeartbeats 4000000 in
theorem cX10_indexOf_1 (l : Launch) (G : va_G) (cy : Nat → ClassId) (ev : Ew) (K ln : Nat → Nat) (Ls : List Nat) (hW : SW K ln Ls) (sz : Nat) (hp0 : Nat → Nat → Value) (ok0 : Ok K hp0) (qa900 : Nat) (zi901 : Int32) (wl902 : Int64) (kd900 : K qa900 = 49) : Met l yX10_indexOf (WS yX10_indexOf cX10_indexOf 5 (some .int)) { frames := 0, cells := 0, slots := 0, locals := 0 } (PB2 [.ref qa900, .int zi901, .long wl902] sz G cy ev (va_pl Ls (cellOf cy K ln hp0))) (QBi (S := (Nat → Nat → Value)) (fun (r : Int32) (u : (Nat → Nat → Value)) => Ok K u ∧ Fr [] K hp0 u ∧ ((-1 : Int) ≤ r.toInt ∧ r.toInt ≤ 5)) G (fun u => va_pl Ls (cellOf cy K ln u)) (va_A (va_pl Ls (cellOf cy K ln hp0)) sz)) 0 0 (va_A (va_pl Ls (cellOf cy K ln hp0)) sz) := by
  refine met_of2 (y := yX10_indexOf) (L := 5) (av := [.ref qa900, .int zi901, .long wl902]) (Qc := fun A => QBi (S := (Nat → Nat → Value)) (fun (r : Int32) (u : (Nat → Nat → Value)) => Ok K u ∧ Fr [] K hp0 u ∧ ((-1 : Int) ≤ r.toInt ∧ r.toInt ≤ 5)) G (fun u => va_pl Ls (cellOf cy K ln u)) A) (plainFor_of_name (by decide)) (Nat.le_of_ble_eq_true rfl) ?_
  intro p e s m below meth c hsz hx hb hr hml hown hT hlocks hin hK A hA hE hw hS ls hl
  have hw : PW G cy K ln Ls A hp0 s.heap := hw
  have hown : s.vm.findClass "LieClock$Told" = some m.cls := hown
  have hl : lv_has ls 5 [(0, .ref qa900), (1, .int zi901), (2, .long wl902)] := hl
  obtain ⟨Q, hQ⟩ : ∃ Q : State → Prop, Q = MQ below (QBi (S := (Nat → Nat → Value)) (fun (r : Int32) (u : (Nat → Nat → Value)) => Ok K u ∧ Fr [] K hp0 u ∧ ((-1 : Int) ≤ r.toInt ∧ r.toInt ≤ 5)) G (fun u => va_pl Ls (cellOf cy K ln u)) A) ([.ref qa900, .int zi901, .long wl902] : List Value).toArray s 0 0 A := ⟨_, rfl⟩
  rw [← hQ]
  refine lv_iconst (v := 0) hx hb dX10_indexOf_0 (by decide) ?_
  refine lv_istore (lv' := [(4, .int 0), (0, .ref qa900), (1, .int zi901), (2, .long wl902)]) hx hb dX10_indexOf_1 hl (by decide) rfl (fun ls hl => ?_)
  have lp118 : ∀ (n116 : Nat) (zi80 : Int32) (H : Heap) (locs : List Loc) (ls : Array Slot), 6 - zi80.toInt < (n116 : Int) → ((0 : Int) ≤ zi80.toInt ∧ zi80.toInt ≤ 6) → lv_has ls 5 [(0, .ref qa900), (1, .int zi901), (2, .long wl902), (4, .int zi80)] → PW G cy K ln Ls A hp0 H → va_S A s.heap H locs → W p l e ({ frames := 0, cells := 0, slots := 0, locals := 0 } : Room) s m ([.ref qa900, .int zi901, .long wl902] : List Value).toArray below meth c H locs 0 0 Q (F0 m 3 ls []) := by
    intro n116
    induction n116 with
    | zero =>
      intro zi80 H locs ls hm119 bd81 hl hw hS
      exact absurd hm119 (by have := bd81; omega)
    | succ n116 ih117 =>
      intro zi80 H locs ls hm119 bd81 hl hw hS
      refine lv_iload hx hb dX10_indexOf_3 (lv_at hl 3 rfl) ?_
      refine lv_iload_n hx hb dX10_indexOf_5 rfl (lv_at hl 1 rfl) ?_
      refine lv_icmp_ge (tgt := 34) hx hb dX10_indexOf_6 (by decide) (fun cn120 => ?_) (fun cn120 => ?_)
      · skip
        have bd121 : (-2147483648 : Int) ≤ zi901.toInt ∧ zi901.toInt ≤ 6 := r_le_x cn120 (b_all zi901) bd81 (by decide) (by decide)
        refine lv_iconst (v := (-1)) hx hb dX10_indexOf_34 (by decide) ?_
        rw [hQ]
        exact kz_i hx hb hr hlocks hS rfl hp0 hw ⟨ok0, (Fr.rf), (b_wid2 bc_m1 (by decide) (by decide))⟩ (Nat.le_of_ble_eq_true rfl) (Nat.le_of_ble_eq_true rfl) dX10_indexOf_35
      · skip
        have bd122 : (1 : Int) ≤ zi901.toInt ∧ zi901.toInt ≤ 2147483647 := r_lt_y (Int32.not_le.mp cn120) bd81 (b_all zi901) (by decide) (by decide)
        refine lv_iload hx hb dX10_indexOf_9 (lv_at hl 3 rfl) ?_
        refine lv_aload_n hx hb dX10_indexOf_11 rfl (lv_at hl 0 rfl) ?_
        refine p_alen (v := 6) hx hb hK hw hW kd900 (by decide) rfl rfl (by rw [hW.len kd900 (n := 6) rfl (by decide)]; decide) dX10_indexOf_12 ?_
        refine lv_icmp_ge (tgt := 34) hx hb dX10_indexOf_13 (by decide) (fun cn123 => ?_) (fun cn123 => ?_)
        · skip
          have bd124 : (6 : Int) ≤ zi80.toInt ∧ zi80.toInt ≤ 6 := r_le_y cn123 bc_6 bd81 (by decide) (by decide)
          refine lv_iconst (v := (-1)) hx hb dX10_indexOf_34 (by decide) ?_
          rw [hQ]
          exact kz_i hx hb hr hlocks hS rfl hp0 hw ⟨ok0, (Fr.rf), (b_wid2 bc_m1 (by decide) (by decide))⟩ (Nat.le_of_ble_eq_true rfl) (Nat.le_of_ble_eq_true rfl) dX10_indexOf_35
        · skip
          have bd125 : (0 : Int) ≤ zi80.toInt ∧ zi80.toInt ≤ 5 := r_lt_x (Int32.not_le.mp cn123) bd81 bc_6 (by decide) (by decide)
          refine lv_aload_n hx hb dX10_indexOf_16 rfl (lv_at hl 0 rfl) ?_
          refine lv_iload hx hb dX10_indexOf_17 (lv_at hl 3 rfl) ?_
          obtain ⟨wl127, eq126⟩ := rd_49000 ok0 kd900 ((zi80 : Int32).toNatClampNeg)
          refine p_lald (v := wl127) hx hb hK hw hW kd900 (by decide) rfl (hW.len kd900 (n := 6) rfl (by decide)) (vp_b bd125 (by decide) (by decide)) eq126 dX10_indexOf_19 ?_
          refine lv_lload_n hx hb dX10_indexOf_20 rfl (lv_at hl 2 rfl) ?_
          refine W.lcmp hx hb dX10_indexOf_21 (lv_topi (fun zi128 ea129 => ?_))
          refine lv_if_ne (tgt := 28) hx hb dX10_indexOf_22 (by decide) (fun cn130 => ?_) (fun cn130 => ?_)
          · skip
            obtain ⟨zi131, ea132⟩ : ∃ z : Int32, z = zi80 + 1 := ⟨_, rfl⟩
            have bd133 : (1 : Int) ≤ zi131.toInt ∧ zi131.toInt ≤ 6 := b_iadd ea132 bd125 bc_1 (by decide) (by decide) (by decide) (by decide)
            have qe134 : zi131.toInt = (zi80 : Int32).toInt + (1 : Int32).toInt := e_iadd ea132 bd125 bc_1 (by decide) (by decide)
            have qe135 : zi131.toInt = zi80.toInt + 1 := by have ha : (1 : Int32).toInt = 1 := (by decide); rw [ha] at qe134; exact qe134
            refine lv_iinc (v := zi131) (lv' := [(4, .int zi131), (0, .ref qa900), (1, .int zi901), (2, .long wl902)]) hx hb dX10_indexOf_28 hl (k := 3) rfl ea132.symm (by decide) rfl (fun ls hl => ?_)
            refine lv_goto (tgt := 3) hx hb dX10_indexOf_31 (by decide) ?_
            exact ih117 zi131 _ _ ls (by have := hm119; have := qe135; omega) (b_wid2 bd133 (by decide) (by decide)) (lv_sub hl [1, 2, 3, 0] rfl) hw hS
          · skip
            have bd136 : (0 : Int) ≤ zi128.toInt ∧ zi128.toInt ≤ 0 := r_eq_x cn130 (b_all zi128) bc_0 (by decide) (by decide)
            refine lv_iload hx hb dX10_indexOf_25 (lv_at hl 3 rfl) ?_
            rw [hQ]
            exact kz_i hx hb hr hlocks hS rfl hp0 hw ⟨ok0, (Fr.rf), (b_wid2 bd125 (by decide) (by decide))⟩ (Nat.le_of_ble_eq_true rfl) (Nat.le_of_ble_eq_true rfl) dX10_indexOf_27
  exact lp118 _ 0 _ _ ls (lp_in _) (b_wid2 bc_0 (by decide) (by decide)) (lv_sub hl [1, 2, 3, 0] rfl) hw hS
