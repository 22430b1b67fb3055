set_option maxRecDepth 100000 in
set_option maxHeartbeats 4000000 in
theorem cX12_put_0 (l : Launch) (G : va_G) (cy : Nat → ClassId) (ev : Ew) (K ln : Nat → Nat) (Ls : List Nat) (hW : SW K ln Ls) (sz : Nat) (hp0 : Nat → Nat → Value) (ok0 : Ok K hp0) (qa900 : Nat) (zi901 : Int32) (zi952 : Int32) (kd900 : K qa900 = 13) (eq952 : hp0 qa900 2 = .int zi952) (bd952 : ((0 : Int) ≤ zi952.toInt ∧ zi952.toInt ≤ 1980)) : Met l yX12_put (WS yX12_put cX12_put 3 none) { frames := 0, cells := 0, slots := 0, locals := 0 } (PB2 [.ref qa900, .int zi901] sz G cy ev (va_pl Ls (cellOf cy K ln hp0))) (QBv (S := (Nat → Nat → Value)) (fun u : (Nat → Nat → Value) => Ok K u ∧ Fr [13002, 60000] K hp0 u ∧ (∃ z : Int32, u qa900 2 = .int z ∧ ((4 : Int) ≤ z.toInt ∧ z.toInt ≤ 1984))) G (fun u => va_pl Ls (cellOf cy K ln u)) (va_A (va_pl Ls (cellOf cy K ln hp0)) sz)) 0 0 (va_A (va_pl Ls (cellOf cy K ln hp0)) sz) := by
  refine met_of2 (y := yX12_put) (L := 3) (av := [.ref qa900, .int zi901]) (Qc := fun A => QBv (S := (Nat → Nat → Value)) (fun u : (Nat → Nat → Value) => Ok K u ∧ Fr [13002, 60000] K hp0 u ∧ (∃ z : Int32, u qa900 2 = .int z ∧ ((4 : Int) ≤ z.toInt ∧ z.toInt ≤ 1984))) G (fun u => va_pl Ls (cellOf cy K ln u)) A) (plainFor_of_name (by decide)) (Nat.le_of_ble_eq_true rfl) ?_
  intro p e s m below meth c hsz hx hb hr hml hown hT hlocks hin hK A hA hE hw hS ls hl
  have hw : PW G cy K ln Ls A hp0 s.heap := hw
  have hown : s.vm.findClass "LieClockModel" = some m.cls := hown
  have hl : lv_has ls 3 [(0, .ref qa900), (1, .int zi901)] := hl
  obtain ⟨Q, hQ⟩ : ∃ Q : State → Prop, Q = MQ below (QBv (S := (Nat → Nat → Value)) (fun u : (Nat → Nat → Value) => Ok K u ∧ Fr [13002, 60000] K hp0 u ∧ (∃ z : Int32, u qa900 2 = .int z ∧ ((4 : Int) ≤ z.toInt ∧ z.toInt ≤ 1984))) G (fun u => va_pl Ls (cellOf cy K ln u)) A) ([.ref qa900, .int zi901] : List Value).toArray s 0 0 A := ⟨_, rfl⟩
  rw [← hQ]
  refine lv_bipush (v := 24) hx hb dX12_put_0 (by decide) ?_
  refine lv_istore_n (lv' := [(2, .int 24), (0, .ref qa900), (1, .int zi901)]) hx hb dX12_put_2 rfl hl (by decide) rfl (fun ls hl => ?_)
  refine lv_iload_n hx hb dX12_put_3 rfl (lv_at hl 0 rfl) ?_
  refine lv_if_lt (tgt := 36) hx hb dX12_put_4 (by decide) (fun c => absurd c (d_nlt bc_24 bc_0 (by decide))) (fun _ => ?_)
  refine lv_aload_n hx hb dX12_put_7 rfl (lv_at hl 1 rfl) ?_
  obtain ⟨qa2, eq1, kd3⟩ := rd_13001 ok0 kd900
  refine p_get (ci := 12) (v := .ref qa2) (C := RX12) (T := TX12) (N := 69) hx hb hT iw_X12 hown hK hw hW kd900 (by decide) rfl rfl 1 (by decide) eq1 (hT _ tb_1375) (fun _ h9 => h9) dX12_put_8 ?_
  refine lv_aload_n hx hb dX12_put_11 rfl (lv_at hl 1 rfl) ?_
  refine p_get (ci := 12) (v := .int zi952) (C := RX12) (T := TX12) (N := 69) hx hb hT iw_X12 hown hK hw hW kd900 (by decide) rfl rfl 2 (by decide) eq952 (hT _ tb_1376) (fun _ h9 => h9) dX12_put_12 ?_
  refine lv_iload_n hx hb dX12_put_15 rfl (lv_at hl 2 rfl) ?_
  refine lv_iload_n hx hb dX12_put_16 rfl (lv_at hl 0 rfl) ?_
  refine lv_ishr hx hb dX12_put_17 (lv_topi (fun zi4 ea5 => ?_))
  refine lv_i2b hx hb dX12_put_18 rfl (lv_topi (fun zi6 ea7 => ?_))
  refine p_bast (x := zi6) hx hb hK hw hS hW kd3 (by decide) rfl (hW.len kd3 (n := 2000) rfl (by decide)) (vp_b bd952 (by decide) (by decide)) dX12_put_19 (fun hp8 eh9 H locs hw hS => ?_)
  have ok10 := wr_60000 (nar_b zi6) (by decide) (by decide) ok0 kd3 eh9
  refine lv_aload_n hx hb dX12_put_20 rfl (lv_at hl 1 rfl) ?_
  refine lv_dup hx hb dX12_put_21 rfl ?_
  have eq11 : hp8 qa900 2 = .int zi952 := Eq.trans (up_at eh9 (Or.inl (kd_ne kd900 kd3 (by decide)))) eq952
  refine p_get (ci := 12) (v := .int zi952) (C := RX12) (T := TX12) (N := 69) hx hb hT iw_X12 hown hK hw hW kd900 (by decide) rfl rfl 2 (by decide) eq11 (hT _ tb_1376) (fun _ h9 => h9) dX12_put_22 ?_
  refine lv_iconst (v := 1) hx hb dX12_put_25 (by decide) ?_
  refine lv_iadd hx hb dX12_put_26 (lv_topi (fun zi12 ea13 => ?_))
  have bd14 : (1 : Int) ≤ zi12.toInt ∧ zi12.toInt ≤ 1981 := b_iadd ea13 bd952 bc_1 (by decide) (by decide) (by decide) (by decide)
  have qe15 : zi12.toInt = (zi952 : Int32).toInt + (1 : Int32).toInt := e_iadd ea13 bd952 bc_1 (by decide) (by decide)
  have qe16 : zi12.toInt = zi952.toInt + 1 := by have ha : (1 : Int32).toInt = 1 := (by decide); rw [ha] at qe15; exact qe15
  refine p_put (ci := 12) (v := .int zi12) (ty := .int) (C := RX12) (T := TX12) (N := 69) hx hb hT iw_X12 tyX12 tyX12_ok nmX12 hown hK hw hS hW kd900 (by decide) rfl rfl 2 (by decide) (hT _ tb_1376) (fun _ h9 => h9) rfl (by decide +kernel) rfl rfl dX12_put_27 (fun hp17 eh18 H locs hw hS => ?_)
  have ok19 := wr_13002 bd14 (by decide) (by decide) ok10 kd900 eh18
  refine lv_iinc (v := 16) (lv' := [(2, .int 16), (0, .ref qa900), (1, .int zi901)]) hx hb dX12_put_30 hl (k := 0) rfl (by decide) (by decide) rfl (fun ls hl => ?_)
  refine lv_goto (tgt := 3) hx hb dX12_put_33 (by decide) ?_
  refine lv_iload_n hx hb dX12_put_3 rfl (lv_at hl 0 rfl) ?_
  refine lv_if_lt (tgt := 36) hx hb dX12_put_4 (by decide) (fun c => absurd c (d_nlt bc_16 bc_0 (by decide))) (fun _ => ?_)
  refine lv_aload_n hx hb dX12_put_7 rfl (lv_at hl 1 rfl) ?_
  have eq20 : hp17 qa900 1 = .ref qa2 := Eq.trans (up_at eh18 (Or.inr (by decide))) (Eq.trans (up_at eh9 (Or.inl (kd_ne kd900 kd3 (by decide)))) eq1)
  refine p_get (ci := 12) (v := .ref qa2) (C := RX12) (T := TX12) (N := 69) hx hb hT iw_X12 hown hK hw hW kd900 (by decide) rfl rfl 1 (by decide) eq20 (hT _ tb_1375) (fun _ h9 => h9) dX12_put_8 ?_
  refine lv_aload_n hx hb dX12_put_11 rfl (lv_at hl 1 rfl) ?_
  refine p_get (ci := 12) (v := .int zi12) (C := RX12) (T := TX12) (N := 69) hx hb hT iw_X12 hown hK hw hW kd900 (by decide) rfl rfl 2 (by decide) (hp_self eh18) (hT _ tb_1376) (fun _ h9 => h9) dX12_put_12 ?_
  refine lv_iload_n hx hb dX12_put_15 rfl (lv_at hl 2 rfl) ?_
  refine lv_iload_n hx hb dX12_put_16 rfl (lv_at hl 0 rfl) ?_
  refine lv_ishr hx hb dX12_put_17 (lv_topi (fun zi21 ea22 => ?_))
  refine lv_i2b hx hb dX12_put_18 rfl (lv_topi (fun zi23 ea24 => ?_))
  refine p_bast (x := zi23) hx hb hK hw hS hW kd3 (by decide) rfl (hW.len kd3 (n := 2000) rfl (by decide)) (vp_b bd14 (by decide) (by decide)) dX12_put_19 (fun hp25 eh26 H locs hw hS => ?_)
  have ok27 := wr_60000 (nar_b zi23) (by decide) (by decide) ok19 kd3 eh26
  refine lv_aload_n hx hb dX12_put_20 rfl (lv_at hl 1 rfl) ?_
  refine lv_dup hx hb dX12_put_21 rfl ?_
  have eq28 : hp25 qa900 2 = .int zi12 := Eq.trans (up_at eh26 (Or.inl (kd_ne kd900 kd3 (by decide)))) (hp_self eh18)
  refine p_get (ci := 12) (v := .int zi12) (C := RX12) (T := TX12) (N := 69) hx hb hT iw_X12 hown hK hw hW kd900 (by decide) rfl rfl 2 (by decide) eq28 (hT _ tb_1376) (fun _ h9 => h9) dX12_put_22 ?_
  refine lv_iconst (v := 1) hx hb dX12_put_25 (by decide) ?_
  refine lv_iadd hx hb dX12_put_26 (lv_topi (fun zi29 ea30 => ?_))
  have bd31 : (2 : Int) ≤ zi29.toInt ∧ zi29.toInt ≤ 1982 := b_iadd ea30 bd14 bc_1 (by decide) (by decide) (by decide) (by decide)
  have qe32 : zi29.toInt = (zi12 : Int32).toInt + (1 : Int32).toInt := e_iadd ea30 bd14 bc_1 (by decide) (by decide)
  have qe33 : zi29.toInt = zi12.toInt + 1 := by have ha : (1 : Int32).toInt = 1 := (by decide); rw [ha] at qe32; exact qe32
  refine p_put (ci := 12) (v := .int zi29) (ty := .int) (C := RX12) (T := TX12) (N := 69) hx hb hT iw_X12 tyX12 tyX12_ok nmX12 hown hK hw hS hW kd900 (by decide) rfl rfl 2 (by decide) (hT _ tb_1376) (fun _ h9 => h9) rfl (by decide +kernel) rfl rfl dX12_put_27 (fun hp34 eh35 H locs hw hS => ?_)
  have ok36 := wr_13002 bd31 (by decide) (by decide) ok27 kd900 eh35
  refine lv_iinc (v := 8) (lv' := [(2, .int 8), (0, .ref qa900), (1, .int zi901)]) hx hb dX12_put_30 hl (k := 0) rfl (by decide) (by decide) rfl (fun ls hl => ?_)
  refine lv_goto (tgt := 3) hx hb dX12_put_33 (by decide) ?_
  refine lv_iload_n hx hb dX12_put_3 rfl (lv_at hl 0 rfl) ?_
  refine lv_if_lt (tgt := 36) hx hb dX12_put_4 (by decide) (fun c => absurd c (d_nlt bc_8 bc_0 (by decide))) (fun _ => ?_)
  refine lv_aload_n hx hb dX12_put_7 rfl (lv_at hl 1 rfl) ?_
  have eq37 : hp34 qa900 1 = .ref qa2 := Eq.trans (up_at eh35 (Or.inr (by decide))) (Eq.trans (up_at eh26 (Or.inl (kd_ne kd900 kd3 (by decide)))) eq20)
  refine p_get (ci := 12) (v := .ref qa2) (C := RX12) (T := TX12) (N := 69) hx hb hT iw_X12 hown hK hw hW kd900 (by decide) rfl rfl 1 (by decide) eq37 (hT _ tb_1375) (fun _ h9 => h9) dX12_put_8 ?_
  refine lv_aload_n hx hb dX12_put_11 rfl (lv_at hl 1 rfl) ?_
  refine p_get (ci := 12) (v := .int zi29) (C := RX12) (T := TX12) (N := 69) hx hb hT iw_X12 hown hK hw hW kd900 (by decide) rfl rfl 2 (by decide) (hp_self eh35) (hT _ tb_1376) (fun _ h9 => h9) dX12_put_12 ?_
  refine lv_iload_n hx hb dX12_put_15 rfl (lv_at hl 2 rfl) ?_
  refine lv_iload_n hx hb dX12_put_16 rfl (lv_at hl 0 rfl) ?_
  refine lv_ishr hx hb dX12_put_17 (lv_topi (fun zi38 ea39 => ?_))
  refine lv_i2b hx hb dX12_put_18 rfl (lv_topi (fun zi40 ea41 => ?_))
  refine p_bast (x := zi40) hx hb hK hw hS hW kd3 (by decide) rfl (hW.len kd3 (n := 2000) rfl (by decide)) (vp_b bd31 (by decide) (by decide)) dX12_put_19 (fun hp42 eh43 H locs hw hS => ?_)
  have ok44 := wr_60000 (nar_b zi40) (by decide) (by decide) ok36 kd3 eh43
  refine lv_aload_n hx hb dX12_put_20 rfl (lv_at hl 1 rfl) ?_
  refine lv_dup hx hb dX12_put_21 rfl ?_
  have eq45 : hp42 qa900 2 = .int zi29 := Eq.trans (up_at eh43 (Or.inl (kd_ne kd900 kd3 (by decide)))) (hp_self eh35)
  refine p_get (ci := 12) (v := .int zi29) (C := RX12) (T := TX12) (N := 69) hx hb hT iw_X12 hown hK hw hW kd900 (by decide) rfl rfl 2 (by decide) eq45 (hT _ tb_1376) (fun _ h9 => h9) dX12_put_22 ?_
  refine lv_iconst (v := 1) hx hb dX12_put_25 (by decide) ?_
  refine lv_iadd hx hb dX12_put_26 (lv_topi (fun zi46 ea47 => ?_))
  have bd48 : (3 : Int) ≤ zi46.toInt ∧ zi46.toInt ≤ 1983 := b_iadd ea47 bd31 bc_1 (by decide) (by decide) (by decide) (by decide)
  have qe49 : zi46.toInt = (zi29 : Int32).toInt + (1 : Int32).toInt := e_iadd ea47 bd31 bc_1 (by decide) (by decide)
  have qe50 : zi46.toInt = zi29.toInt + 1 := by have ha : (1 : Int32).toInt = 1 := (by decide); rw [ha] at qe49; exact qe49
  refine p_put (ci := 12) (v := .int zi46) (ty := .int) (C := RX12) (T := TX12) (N := 69) hx hb hT iw_X12 tyX12 tyX12_ok nmX12 hown hK hw hS hW kd900 (by decide) rfl rfl 2 (by decide) (hT _ tb_1376) (fun _ h9 => h9) rfl (by decide +kernel) rfl rfl dX12_put_27 (fun hp51 eh52 H locs hw hS => ?_)
  have ok53 := wr_13002 bd48 (by decide) (by decide) ok44 kd900 eh52
  refine lv_iinc (v := 0) (lv' := [(2, .int 0), (0, .ref qa900), (1, .int zi901)]) hx hb dX12_put_30 hl (k := 0) rfl (by decide) (by decide) rfl (fun ls hl => ?_)
  refine lv_goto (tgt := 3) hx hb dX12_put_33 (by decide) ?_
  refine lv_iload_n hx hb dX12_put_3 rfl (lv_at hl 0 rfl) ?_
  refine lv_if_lt (tgt := 36) hx hb dX12_put_4 (by decide) (fun c => absurd c (d_nlt bc_0 bc_0 (by decide))) (fun _ => ?_)
  refine lv_aload_n hx hb dX12_put_7 rfl (lv_at hl 1 rfl) ?_
  have eq54 : hp51 qa900 1 = .ref qa2 := Eq.trans (up_at eh52 (Or.inr (by decide))) (Eq.trans (up_at eh43 (Or.inl (kd_ne kd900 kd3 (by decide)))) eq37)
  refine p_get (ci := 12) (v := .ref qa2) (C := RX12) (T := TX12) (N := 69) hx hb hT iw_X12 hown hK hw hW kd900 (by decide) rfl rfl 1 (by decide) eq54 (hT _ tb_1375) (fun _ h9 => h9) dX12_put_8 ?_
  refine lv_aload_n hx hb dX12_put_11 rfl (lv_at hl 1 rfl) ?_
  refine p_get (ci := 12) (v := .int zi46) (C := RX12) (T := TX12) (N := 69) hx hb hT iw_X12 hown hK hw hW kd900 (by decide) rfl rfl 2 (by decide) (hp_self eh52) (hT _ tb_1376) (fun _ h9 => h9) dX12_put_12 ?_
  refine lv_iload_n hx hb dX12_put_15 rfl (lv_at hl 2 rfl) ?_
  refine lv_iload_n hx hb dX12_put_16 rfl (lv_at hl 0 rfl) ?_
  refine lv_ishr hx hb dX12_put_17 (lv_topi (fun zi55 ea56 => ?_))
  refine lv_i2b hx hb dX12_put_18 rfl (lv_topi (fun zi57 ea58 => ?_))
  refine p_bast (x := zi57) hx hb hK hw hS hW kd3 (by decide) rfl (hW.len kd3 (n := 2000) rfl (by decide)) (vp_b bd48 (by decide) (by decide)) dX12_put_19 (fun hp59 eh60 H locs hw hS => ?_)
  have ok61 := wr_60000 (nar_b zi57) (by decide) (by decide) ok53 kd3 eh60
  refine lv_aload_n hx hb dX12_put_20 rfl (lv_at hl 1 rfl) ?_
  refine lv_dup hx hb dX12_put_21 rfl ?_
  have eq62 : hp59 qa900 2 = .int zi46 := Eq.trans (up_at eh60 (Or.inl (kd_ne kd900 kd3 (by decide)))) (hp_self eh52)
  refine p_get (ci := 12) (v := .int zi46) (C := RX12) (T := TX12) (N := 69) hx hb hT iw_X12 hown hK hw hW kd900 (by decide) rfl rfl 2 (by decide) eq62 (hT _ tb_1376) (fun _ h9 => h9) dX12_put_22 ?_
  refine lv_iconst (v := 1) hx hb dX12_put_25 (by decide) ?_
  refine lv_iadd hx hb dX12_put_26 (lv_topi (fun zi63 ea64 => ?_))
  have bd65 : (4 : Int) ≤ zi63.toInt ∧ zi63.toInt ≤ 1984 := b_iadd ea64 bd48 bc_1 (by decide) (by decide) (by decide) (by decide)
  have qe66 : zi63.toInt = (zi46 : Int32).toInt + (1 : Int32).toInt := e_iadd ea64 bd48 bc_1 (by decide) (by decide)
  have qe67 : zi63.toInt = zi46.toInt + 1 := by have ha : (1 : Int32).toInt = 1 := (by decide); rw [ha] at qe66; exact qe66
  refine p_put (ci := 12) (v := .int zi63) (ty := .int) (C := RX12) (T := TX12) (N := 69) hx hb hT iw_X12 tyX12 tyX12_ok nmX12 hown hK hw hS hW kd900 (by decide) rfl rfl 2 (by decide) (hT _ tb_1376) (fun _ h9 => h9) rfl (by decide +kernel) rfl rfl dX12_put_27 (fun hp68 eh69 H locs hw hS => ?_)
  have ok70 := wr_13002 bd65 (by decide) (by decide) ok61 kd900 eh69
  refine lv_iinc (v := (-8)) (lv' := [(2, .int (-8)), (0, .ref qa900), (1, .int zi901)]) hx hb dX12_put_30 hl (k := 0) rfl (by decide) (by decide) rfl (fun ls hl => ?_)
  refine lv_goto (tgt := 3) hx hb dX12_put_33 (by decide) ?_
  refine lv_iload_n hx hb dX12_put_3 rfl (lv_at hl 0 rfl) ?_
  refine lv_if_lt (tgt := 36) hx hb dX12_put_4 (by decide) (fun _ => ?_) (fun c => absurd (d_lt bc_m8 bc_0 (by decide)) c)
  rw [hQ]
  exact kz_v hx hb hr hlocks hS hp68 hw ⟨ok70, (Fr.put (cq := 13002) (Fr.put (cq := 60000) (Fr.put (cq := 13002) (Fr.put (cq := 60000) (Fr.put (cq := 13002) (Fr.put (cq := 60000) (Fr.put (cq := 13002) (Fr.put (cq := 60000) (Fr.rf) eh9 kd3 (cd_a (by decide)) (by decide)) eh18 kd900 (cd_o (by decide)) (by decide)) eh26 kd3 (cd_a (by decide)) (by decide)) eh35 kd900 (cd_o (by decide)) (by decide)) eh43 kd3 (cd_a (by decide)) (by decide)) eh52 kd900 (cd_o (by decide)) (by decide)) eh60 kd3 (cd_a (by decide)) (by decide)) eh69 kd900 (cd_o (by decide)) (by decide)), ⟨_, (hp_self eh69), b_wid2 bd65 (by decide) (by decide)⟩⟩ (Nat.le_of_ble_eq_true rfl) (Nat.le_of_ble_eq_true rfl) dX12_put_36

set_option maxRecDepth 100000 in
set_option maxHeartbeats 4000000 in
theorem cX12_put_1 (l : Launch) (G : va_G) (cy : Nat → ClassId) (ev : Ew) (K ln : Nat → Nat) (Ls : List Nat) (hW : SW K ln Ls) (sz : Nat) (hp0 : Nat → Nat → Value) (ok0 : Ok K hp0) (qa900 : Nat) (zi901 : Int32) (zi952 : Int32) (kd900 : K qa900 = 13) (eq952 : hp0 qa900 2 = .int zi952) (bd952 : ((4 : Int) ≤ zi952.toInt ∧ zi952.toInt ≤ 1984)) : Met l yX12_put (WS yX12_put cX12_put 3 none) { frames := 0, cells := 0, slots := 0, locals := 0 } (PB2 [.ref qa900, .int zi901] sz G cy ev (va_pl Ls (cellOf cy K ln hp0))) (QBv (S := (Nat → Nat → Value)) (fun u : (Nat → Nat → Value) => Ok K u ∧ Fr [13002, 60000] K hp0 u ∧ (∃ z : Int32, u qa900 2 = .int z ∧ ((8 : Int) ≤ z.toInt ∧ z.toInt ≤ 1988))) G (fun u => va_pl Ls (cellOf cy K ln u)) (va_A (va_pl Ls (cellOf cy K ln hp0)) sz)) 0 0 (va_A (va_pl Ls (cellOf cy K ln hp0)) sz) := by
  refine met_of2 (y := yX12_put) (L := 3) (av := [.ref qa900, .int zi901]) (Qc := fun A => QBv (S := (Nat → Nat → Value)) (fun u : (Nat → Nat → Value) => Ok K u ∧ Fr [13002, 60000] K hp0 u ∧ (∃ z : Int32, u qa900 2 = .int z ∧ ((8 : Int) ≤ z.toInt ∧ z.toInt ≤ 1988))) G (fun u => va_pl Ls (cellOf cy K ln u)) A) (plainFor_of_name (by decide)) (Nat.le_of_ble_eq_true rfl) ?_
  intro p e s m below meth c hsz hx hb hr hml hown hT hlocks hin hK A hA hE hw hS ls hl
  have hw : PW G cy K ln Ls A hp0 s.heap := hw
  have hown : s.vm.findClass "LieClockModel" = some m.cls := hown
  have hl : lv_has ls 3 [(0, .ref qa900), (1, .int zi901)] := hl
  obtain ⟨Q, hQ⟩ : ∃ Q : State → Prop, Q = MQ below (QBv (S := (Nat → Nat → Value)) (fun u : (Nat → Nat → Value) => Ok K u ∧ Fr [13002, 60000] K hp0 u ∧ (∃ z : Int32, u qa900 2 = .int z ∧ ((8 : Int) ≤ z.toInt ∧ z.toInt ≤ 1988))) G (fun u => va_pl Ls (cellOf cy K ln u)) A) ([.ref qa900, .int zi901] : List Value).toArray s 0 0 A := ⟨_, rfl⟩
  rw [← hQ]
  refine lv_bipush (v := 24) hx hb dX12_put_0 (by decide) ?_
  refine lv_istore_n (lv' := [(2, .int 24), (0, .ref qa900), (1, .int zi901)]) hx hb dX12_put_2 rfl hl (by decide) rfl (fun ls hl => ?_)
  refine lv_iload_n hx hb dX12_put_3 rfl (lv_at hl 0 rfl) ?_
  refine lv_if_lt (tgt := 36) hx hb dX12_put_4 (by decide) (fun c => absurd c (d_nlt bc_24 bc_0 (by decide))) (fun _ => ?_)
  refine lv_aload_n hx hb dX12_put_7 rfl (lv_at hl 1 rfl) ?_
  obtain ⟨qa2, eq1, kd3⟩ := rd_13001 ok0 kd900
  refine p_get (ci := 12) (v := .ref qa2) (C := RX12) (T := TX12) (N := 69) hx hb hT iw_X12 hown hK hw hW kd900 (by decide) rfl rfl 1 (by decide) eq1 (hT _ tb_1375) (fun _ h9 => h9) dX12_put_8 ?_
  refine lv_aload_n hx hb dX12_put_11 rfl (lv_at hl 1 rfl) ?_
  refine p_get (ci := 12) (v := .int zi952) (C := RX12) (T := TX12) (N := 69) hx hb hT iw_X12 hown hK hw hW kd900 (by decide) rfl rfl 2 (by decide) eq952 (hT _ tb_1376) (fun _ h9 => h9) dX12_put_12 ?_
  refine lv_iload_n hx hb dX12_put_15 rfl (lv_at hl 2 rfl) ?_
  refine lv_iload_n hx hb dX12_put_16 rfl (lv_at hl 0 rfl) ?_
  refine lv_ishr hx hb dX12_put_17 (lv_topi (fun zi4 ea5 => ?_))
  refine lv_i2b hx hb dX12_put_18 rfl (lv_topi (fun zi6 ea7 => ?_))
  refine p_bast (x := zi6) hx hb hK hw hS hW kd3 (by decide) rfl (hW.len kd3 (n := 2000) rfl (by decide)) (vp_b bd952 (by decide) (by decide)) dX12_put_19 (fun hp8 eh9 H locs hw hS => ?_)
  have ok10 := wr_60000 (nar_b zi6) (by decide) (by decide) ok0 kd3 eh9
  refine lv_aload_n hx hb dX12_put_20 rfl (lv_at hl 1 rfl) ?_
  refine lv_dup hx hb dX12_put_21 rfl ?_
  have eq11 : hp8 qa900 2 = .int zi952 := Eq.trans (up_at eh9 (Or.inl (kd_ne kd900 kd3 (by decide)))) eq952
  refine p_get (ci := 12) (v := .int zi952) (C := RX12) (T := TX12) (N := 69) hx hb hT iw_X12 hown hK hw hW kd900 (by decide) rfl rfl 2 (by decide) eq11 (hT _ tb_1376) (fun _ h9 => h9) dX12_put_22 ?_
  refine lv_iconst (v := 1) hx hb dX12_put_25 (by decide) ?_
  refine lv_iadd hx hb dX12_put_26 (lv_topi (fun zi12 ea13 => ?_))
  have bd14 : (5 : Int) ≤ zi12.toInt ∧ zi12.toInt ≤ 1985 := b_iadd ea13 bd952 bc_1 (by decide) (by decide) (by decide) (by decide)
  have qe15 : zi12.toInt = (zi952 : Int32).toInt + (1 : Int32).toInt := e_iadd ea13 bd952 bc_1 (by decide) (by decide)
  have qe16 : zi12.toInt = zi952.toInt + 1 := by have ha : (1 : Int32).toInt = 1 := (by decide); rw [ha] at qe15; exact qe15
  refine p_put (ci := 12) (v := .int zi12) (ty := .int) (C := RX12) (T := TX12) (N := 69) hx hb hT iw_X12 tyX12 tyX12_ok nmX12 hown hK hw hS hW kd900 (by decide) rfl rfl 2 (by decide) (hT _ tb_1376) (fun _ h9 => h9) rfl (by decide +kernel) rfl rfl dX12_put_27 (fun hp17 eh18 H locs hw hS => ?_)
  have ok19 := wr_13002 bd14 (by decide) (by decide) ok10 kd900 eh18
  refine lv_iinc (v := 16) (lv' := [(2, .int 16), (0, .ref qa900), (1, .int zi901)]) hx hb dX12_put_30 hl (k := 0) rfl (by decide) (by decide) rfl (fun ls hl => ?_)
  refine lv_goto (tgt := 3) hx hb dX12_put_33 (by decide) ?_
  refine lv_iload_n hx hb dX12_put_3 rfl (lv_at hl 0 rfl) ?_
  refine lv_if_lt (tgt := 36) hx hb dX12_put_4 (by decide) (fun c => absurd c (d_nlt bc_16 bc_0 (by decide))) (fun _ => ?_)
  refine lv_aload_n hx hb dX12_put_7 rfl (lv_at hl 1 rfl) ?_
  have eq20 : hp17 qa900 1 = .ref qa2 := Eq.trans (up_at eh18 (Or.inr (by decide))) (Eq.trans (up_at eh9 (Or.inl (kd_ne kd900 kd3 (by decide)))) eq1)
  refine p_get (ci := 12) (v := .ref qa2) (C := RX12) (T := TX12) (N := 69) hx hb hT iw_X12 hown hK hw hW kd900 (by decide) rfl rfl 1 (by decide) eq20 (hT _ tb_1375) (fun _ h9 => h9) dX12_put_8 ?_
  refine lv_aload_n hx hb dX12_put_11 rfl (lv_at hl 1 rfl) ?_
  refine p_get (ci := 12) (v := .int zi12) (C := RX12) (T := TX12) (N := 69) hx hb hT iw_X12 hown hK hw hW kd900 (by decide) rfl rfl 2 (by decide) (hp_self eh18) (hT _ tb_1376) (fun _ h9 => h9) dX12_put_12 ?_
  refine lv_iload_n hx hb dX12_put_15 rfl (lv_at hl 2 rfl) ?_
  refine lv_iload_n hx hb dX12_put_16 rfl (lv_at hl 0 rfl) ?_
  refine lv_ishr hx hb dX12_put_17 (lv_topi (fun zi21 ea22 => ?_))
  refine lv_i2b hx hb dX12_put_18 rfl (lv_topi (fun zi23 ea24 => ?_))
  refine p_bast (x := zi23) hx hb hK hw hS hW kd3 (by decide) rfl (hW.len kd3 (n := 2000) rfl (by decide)) (vp_b bd14 (by decide) (by decide)) dX12_put_19 (fun hp25 eh26 H locs hw hS => ?_)
  have ok27 := wr_60000 (nar_b zi23) (by decide) (by decide) ok19 kd3 eh26
  refine lv_aload_n hx hb dX12_put_20 rfl (lv_at hl 1 rfl) ?_
  refine lv_dup hx hb dX12_put_21 rfl ?_
  have eq28 : hp25 qa900 2 = .int zi12 := Eq.trans (up_at eh26 (Or.inl (kd_ne kd900 kd3 (by decide)))) (hp_self eh18)
  refine p_get (ci := 12) (v := .int zi12) (C := RX12) (T := TX12) (N := 69) hx hb hT iw_X12 hown hK hw hW kd900 (by decide) rfl rfl 2 (by decide) eq28 (hT _ tb_1376) (fun _ h9 => h9) dX12_put_22 ?_
  refine lv_iconst (v := 1) hx hb dX12_put_25 (by decide) ?_
  refine lv_iadd hx hb dX12_put_26 (lv_topi (fun zi29 ea30 => ?_))
  have bd31 : (6 : Int) ≤ zi29.toInt ∧ zi29.toInt ≤ 1986 := b_iadd ea30 bd14 bc_1 (by decide) (by decide) (by decide) (by decide)
  have qe32 : zi29.toInt = (zi12 : Int32).toInt + (1 : Int32).toInt := e_iadd ea30 bd14 bc_1 (by decide) (by decide)
  have qe33 : zi29.toInt = zi12.toInt + 1 := by have ha : (1 : Int32).toInt = 1 := (by decide); rw [ha] at qe32; exact qe32
  refine p_put (ci := 12) (v := .int zi29) (ty := .int) (C := RX12) (T := TX12) (N := 69) hx hb hT iw_X12 tyX12 tyX12_ok nmX12 hown hK hw hS hW kd900 (by decide) rfl rfl 2 (by decide) (hT _ tb_1376) (fun _ h9 => h9) rfl (by decide +kernel) rfl rfl dX12_put_27 (fun hp34 eh35 H locs hw hS => ?_)
  have ok36 := wr_13002 bd31 (by decide) (by decide) ok27 kd900 eh35
  refine lv_iinc (v := 8) (lv' := [(2, .int 8), (0, .ref qa900), (1, .int zi901)]) hx hb dX12_put_30 hl (k := 0) rfl (by decide) (by decide) rfl (fun ls hl => ?_)
  refine lv_goto (tgt := 3) hx hb dX12_put_33 (by decide) ?_
  refine lv_iload_n hx hb dX12_put_3 rfl (lv_at hl 0 rfl) ?_
  refine lv_if_lt (tgt := 36) hx hb dX12_put_4 (by decide) (fun c => absurd c (d_nlt bc_8 bc_0 (by decide))) (fun _ => ?_)
  refine lv_aload_n hx hb dX12_put_7 rfl (lv_at hl 1 rfl) ?_
  have eq37 : hp34 qa900 1 = .ref qa2 := Eq.trans (up_at eh35 (Or.inr (by decide))) (Eq.trans (up_at eh26 (Or.inl (kd_ne kd900 kd3 (by decide)))) eq20)
  refine p_get (ci := 12) (v := .ref qa2) (C := RX12) (T := TX12) (N := 69) hx hb hT iw_X12 hown hK hw hW kd900 (by decide) rfl rfl 1 (by decide) eq37 (hT _ tb_1375) (fun _ h9 => h9) dX12_put_8 ?_
  refine lv_aload_n hx hb dX12_put_11 rfl (lv_at hl 1 rfl) ?_
  refine p_get (ci := 12) (v := .int zi29) (C := RX12) (T := TX12) (N := 69) hx hb hT iw_X12 hown hK hw hW kd900 (by decide) rfl rfl 2 (by decide) (hp_self eh35) (hT _ tb_1376) (fun _ h9 => h9) dX12_put_12 ?_
  refine lv_iload_n hx hb dX12_put_15 rfl (lv_at hl 2 rfl) ?_
  refine lv_iload_n hx hb dX12_put_16 rfl (lv_at hl 0 rfl) ?_
  refine lv_ishr hx hb dX12_put_17 (lv_topi (fun zi38 ea39 => ?_))
  refine lv_i2b hx hb dX12_put_18 rfl (lv_topi (fun zi40 ea41 => ?_))
  refine p_bast (x := zi40) hx hb hK hw hS hW kd3 (by decide) rfl (hW.len kd3 (n := 2000) rfl (by decide)) (vp_b bd31 (by decide) (by decide)) dX12_put_19 (fun hp42 eh43 H locs hw hS => ?_)
  have ok44 := wr_60000 (nar_b zi40) (by decide) (by decide) ok36 kd3 eh43
  refine lv_aload_n hx hb dX12_put_20 rfl (lv_at hl 1 rfl) ?_
  refine lv_dup hx hb dX12_put_21 rfl ?_
  have eq45 : hp42 qa900 2 = .int zi29 := Eq.trans (up_at eh43 (Or.inl (kd_ne kd900 kd3 (by decide)))) (hp_self eh35)
  refine p_get (ci := 12) (v := .int zi29) (C := RX12) (T := TX12) (N := 69) hx hb hT iw_X12 hown hK hw hW kd900 (by decide) rfl rfl 2 (by decide) eq45 (hT _ tb_1376) (fun _ h9 => h9) dX12_put_22 ?_
  refine lv_iconst (v := 1) hx hb dX12_put_25 (by decide) ?_
  refine lv_iadd hx hb dX12_put_26 (lv_topi (fun zi46 ea47 => ?_))
  have bd48 : (7 : Int) ≤ zi46.toInt ∧ zi46.toInt ≤ 1987 := b_iadd ea47 bd31 bc_1 (by decide) (by decide) (by decide) (by decide)
  have qe49 : zi46.toInt = (zi29 : Int32).toInt + (1 : Int32).toInt := e_iadd ea47 bd31 bc_1 (by decide) (by decide)
  have qe50 : zi46.toInt = zi29.toInt + 1 := by have ha : (1 : Int32).toInt = 1 := (by decide); rw [ha] at qe49; exact qe49
  refine p_put (ci := 12) (v := .int zi46) (ty := .int) (C := RX12) (T := TX12) (N := 69) hx hb hT iw_X12 tyX12 tyX12_ok nmX12 hown hK hw hS hW kd900 (by decide) rfl rfl 2 (by decide) (hT _ tb_1376) (fun _ h9 => h9) rfl (by decide +kernel) rfl rfl dX12_put_27 (fun hp51 eh52 H locs hw hS => ?_)
  have ok53 := wr_13002 bd48 (by decide) (by decide) ok44 kd900 eh52
  refine lv_iinc (v := 0) (lv' := [(2, .int 0), (0, .ref qa900), (1, .int zi901)]) hx hb dX12_put_30 hl (k := 0) rfl (by decide) (by decide) rfl (fun ls hl => ?_)
  refine lv_goto (tgt := 3) hx hb dX12_put_33 (by decide) ?_
  refine lv_iload_n hx hb dX12_put_3 rfl (lv_at hl 0 rfl) ?_
  refine lv_if_lt (tgt := 36) hx hb dX12_put_4 (by decide) (fun c => absurd c (d_nlt bc_0 bc_0 (by decide))) (fun _ => ?_)
  refine lv_aload_n hx hb dX12_put_7 rfl (lv_at hl 1 rfl) ?_
  have eq54 : hp51 qa900 1 = .ref qa2 := Eq.trans (up_at eh52 (Or.inr (by decide))) (Eq.trans (up_at eh43 (Or.inl (kd_ne kd900 kd3 (by decide)))) eq37)
  refine p_get (ci := 12) (v := .ref qa2) (C := RX12) (T := TX12) (N := 69) hx hb hT iw_X12 hown hK hw hW kd900 (by decide) rfl rfl 1 (by decide) eq54 (hT _ tb_1375) (fun _ h9 => h9) dX12_put_8 ?_
  refine lv_aload_n hx hb dX12_put_11 rfl (lv_at hl 1 rfl) ?_
  refine p_get (ci := 12) (v := .int zi46) (C := RX12) (T := TX12) (N := 69) hx hb hT iw_X12 hown hK hw hW kd900 (by decide) rfl rfl 2 (by decide) (hp_self eh52) (hT _ tb_1376) (fun _ h9 => h9) dX12_put_12 ?_
  refine lv_iload_n hx hb dX12_put_15 rfl (lv_at hl 2 rfl) ?_
  refine lv_iload_n hx hb dX12_put_16 rfl (lv_at hl 0 rfl) ?_
  refine lv_ishr hx hb dX12_put_17 (lv_topi (fun zi55 ea56 => ?_))
  refine lv_i2b hx hb dX12_put_18 rfl (lv_topi (fun zi57 ea58 => ?_))
  refine p_bast (x := zi57) hx hb hK hw hS hW kd3 (by decide) rfl (hW.len kd3 (n := 2000) rfl (by decide)) (vp_b bd48 (by decide) (by decide)) dX12_put_19 (fun hp59 eh60 H locs hw hS => ?_)
  have ok61 := wr_60000 (nar_b zi57) (by decide) (by decide) ok53 kd3 eh60
  refine lv_aload_n hx hb dX12_put_20 rfl (lv_at hl 1 rfl) ?_
  refine lv_dup hx hb dX12_put_21 rfl ?_
  have eq62 : hp59 qa900 2 = .int zi46 := Eq.trans (up_at eh60 (Or.inl (kd_ne kd900 kd3 (by decide)))) (hp_self eh52)
  refine p_get (ci := 12) (v := .int zi46) (C := RX12) (T := TX12) (N := 69) hx hb hT iw_X12 hown hK hw hW kd900 (by decide) rfl rfl 2 (by decide) eq62 (hT _ tb_1376) (fun _ h9 => h9) dX12_put_22 ?_
  refine lv_iconst (v := 1) hx hb dX12_put_25 (by decide) ?_
  refine lv_iadd hx hb dX12_put_26 (lv_topi (fun zi63 ea64 => ?_))
  have bd65 : (8 : Int) ≤ zi63.toInt ∧ zi63.toInt ≤ 1988 := b_iadd ea64 bd48 bc_1 (by decide) (by decide) (by decide) (by decide)
  have qe66 : zi63.toInt = (zi46 : Int32).toInt + (1 : Int32).toInt := e_iadd ea64 bd48 bc_1 (by decide) (by decide)
  have qe67 : zi63.toInt = zi46.toInt + 1 := by have ha : (1 : Int32).toInt = 1 := (by decide); rw [ha] at qe66; exact qe66
  refine p_put (ci := 12) (v := .int zi63) (ty := .int) (C := RX12) (T := TX12) (N := 69) hx hb hT iw_X12 tyX12 tyX12_ok nmX12 hown hK hw hS hW kd900 (by decide) rfl rfl 2 (by decide) (hT _ tb_1376) (fun _ h9 => h9) rfl (by decide +kernel) rfl rfl dX12_put_27 (fun hp68 eh69 H locs hw hS => ?_)
  have ok70 := wr_13002 bd65 (by decide) (by decide) ok61 kd900 eh69
  refine lv_iinc (v := (-8)) (lv' := [(2, .int (-8)), (0, .ref qa900), (1, .int zi901)]) hx hb dX12_put_30 hl (k := 0) rfl (by decide) (by decide) rfl (fun ls hl => ?_)
  refine lv_goto (tgt := 3) hx hb dX12_put_33 (by decide) ?_
  refine lv_iload_n hx hb dX12_put_3 rfl (lv_at hl 0 rfl) ?_
  refine lv_if_lt (tgt := 36) hx hb dX12_put_4 (by decide) (fun _ => ?_) (fun c => absurd (d_lt bc_m8 bc_0 (by decide)) c)
  rw [hQ]
  exact kz_v hx hb hr hlocks hS hp68 hw ⟨ok70, (Fr.put (cq := 13002) (Fr.put (cq := 60000) (Fr.put (cq := 13002) (Fr.put (cq := 60000) (Fr.put (cq := 13002) (Fr.put (cq := 60000) (Fr.put (cq := 13002) (Fr.put (cq := 60000) (Fr.rf) eh9 kd3 (cd_a (by decide)) (by decide)) eh18 kd900 (cd_o (by decide)) (by decide)) eh26 kd3 (cd_a (by decide)) (by decide)) eh35 kd900 (cd_o (by decide)) (by decide)) eh43 kd3 (cd_a (by decide)) (by decide)) eh52 kd900 (cd_o (by decide)) (by decide)) eh60 kd3 (cd_a (by decide)) (by decide)) eh69 kd900 (cd_o (by decide)) (by decide)), ⟨_, (hp_self eh69), b_wid2 bd65 (by decide) (by decide)⟩⟩ (Nat.le_of_ble_eq_true rfl) (Nat.le_of_ble_eq_true rfl) dX12_put_36

set_option maxRecDepth 100000 in
set_option maxHeartbeats 4000000 in
theorem cX12_put_2 (l : Launch) (G : va_G) (cy : Nat → ClassId) (ev : Ew) (K ln : Nat → Nat) (Ls : List Nat) (hW : SW K ln Ls) (sz : Nat) (hp0 : Nat → Nat → Value) (ok0 : Ok K hp0) (qa900 : Nat) (zi901 : Int32) (zi952 : Int32) (kd900 : K qa900 = 13) (eq952 : hp0 qa900 2 = .int zi952) (bd952 : ((8 : Int) ≤ zi952.toInt ∧ zi952.toInt ≤ 1988)) : Met l yX12_put (WS yX12_put cX12_put 3 none) { frames := 0, cells := 0, slots := 0, locals := 0 } (PB2 [.ref qa900, .int zi901] sz G cy ev (va_pl Ls (cellOf cy K ln hp0))) (QBv (S := (Nat → Nat → Value)) (fun u : (Nat → Nat → Value) => Ok K u ∧ Fr [13002, 60000] K hp0 u ∧ (∃ z : Int32, u qa900 2 = .int z ∧ ((12 : Int) ≤ z.toInt ∧ z.toInt ≤ 1992))) G (fun u => va_pl Ls (cellOf cy K ln u)) (va_A (va_pl Ls (cellOf cy K ln hp0)) sz)) 0 0 (va_A (va_pl Ls (cellOf cy K ln hp0)) sz) := by
  refine met_of2 (y := yX12_put) (L := 3) (av := [.ref qa900, .int zi901]) (Qc := fun A => QBv (S := (Nat → Nat → Value)) (fun u : (Nat → Nat → Value) => Ok K u ∧ Fr [13002, 60000] K hp0 u ∧ (∃ z : Int32, u qa900 2 = .int z ∧ ((12 : Int) ≤ z.toInt ∧ z.toInt ≤ 1992))) G (fun u => va_pl Ls (cellOf cy K ln u)) A) (plainFor_of_name (by decide)) (Nat.le_of_ble_eq_true rfl) ?_
  intro p e s m below meth c hsz hx hb hr hml hown hT hlocks hin hK A hA hE hw hS ls hl
  have hw : PW G cy K ln Ls A hp0 s.heap := hw
  have hown : s.vm.findClass "LieClockModel" = some m.cls := hown
  have hl : lv_has ls 3 [(0, .ref qa900), (1, .int zi901)] := hl
  obtain ⟨Q, hQ⟩ : ∃ Q : State → Prop, Q = MQ below (QBv (S := (Nat → Nat → Value)) (fun u : (Nat → Nat → Value) => Ok K u ∧ Fr [13002, 60000] K hp0 u ∧ (∃ z : Int32, u qa900 2 = .int z ∧ ((12 : Int) ≤ z.toInt ∧ z.toInt ≤ 1992))) G (fun u => va_pl Ls (cellOf cy K ln u)) A) ([.ref qa900, .int zi901] : List Value).toArray s 0 0 A := ⟨_, rfl⟩
  rw [← hQ]
  refine lv_bipush (v := 24) hx hb dX12_put_0 (by decide) ?_
  refine lv_istore_n (lv' := [(2, .int 24), (0, .ref qa900), (1, .int zi901)]) hx hb dX12_put_2 rfl hl (by decide) rfl (fun ls hl => ?_)
  refine lv_iload_n hx hb dX12_put_3 rfl (lv_at hl 0 rfl) ?_
  refine lv_if_lt (tgt := 36) hx hb dX12_put_4 (by decide) (fun c => absurd c (d_nlt bc_24 bc_0 (by decide))) (fun _ => ?_)
  refine lv_aload_n hx hb dX12_put_7 rfl (lv_at hl 1 rfl) ?_
  obtain ⟨qa2, eq1, kd3⟩ := rd_13001 ok0 kd900
  refine p_get (ci := 12) (v := .ref qa2) (C := RX12) (T := TX12) (N := 69) hx hb hT iw_X12 hown hK hw hW kd900 (by decide) rfl rfl 1 (by decide) eq1 (hT _ tb_1375) (fun _ h9 => h9) dX12_put_8 ?_
  refine lv_aload_n hx hb dX12_put_11 rfl (lv_at hl 1 rfl) ?_
  refine p_get (ci := 12) (v := .int zi952) (C := RX12) (T := TX12) (N := 69) hx hb hT iw_X12 hown hK hw hW kd900 (by decide) rfl rfl 2 (by decide) eq952 (hT _ tb_1376) (fun _ h9 => h9) dX12_put_12 ?_
  refine lv_iload_n hx hb dX12_put_15 rfl (lv_at hl 2 rfl) ?_
  refine lv_iload_n hx hb dX12_put_16 rfl (lv_at hl 0 rfl) ?_
  refine lv_ishr hx hb dX12_put_17 (lv_topi (fun zi4 ea5 => ?_))
  refine lv_i2b hx hb dX12_put_18 rfl (lv_topi (fun zi6 ea7 => ?_))
  refine p_bast (x := zi6) hx hb hK hw hS hW kd3 (by decide) rfl (hW.len kd3 (n := 2000) rfl (by decide)) (vp_b bd952 (by decide) (by decide)) dX12_put_19 (fun hp8 eh9 H locs hw hS => ?_)
  have ok10 := wr_60000 (nar_b zi6) (by decide) (by decide) ok0 kd3 eh9
  refine lv_aload_n hx hb dX12_put_20 rfl (lv_at hl 1 rfl) ?_
  refine lv_dup hx hb dX12_put_21 rfl ?_
  have eq11 : hp8 qa900 2 = .int zi952 := Eq.trans (up_at eh9 (Or.inl (kd_ne kd900 kd3 (by decide)))) eq952
  refine p_get (ci := 12) (v := .int zi952) (C := RX12) (T := TX12) (N := 69) hx hb hT iw_X12 hown hK hw hW kd900 (by decide) rfl rfl 2 (by decide) eq11 (hT _ tb_1376) (fun _ h9 => h9) dX12_put_22 ?_
  refine lv_iconst (v := 1) hx hb dX12_put_25 (by decide) ?_
  refine lv_iadd hx hb dX12_put_26 (lv_topi (fun zi12 ea13 => ?_))
  have bd14 : (9 : Int) ≤ zi12.toInt ∧ zi12.toInt ≤ 1989 := b_iadd ea13 bd952 bc_1 (by decide) (by decide) (by decide) (by decide)
  have qe15 : zi12.toInt = (zi952 : Int32).toInt + (1 : Int32).toInt := e_iadd ea13 bd952 bc_1 (by decide) (by decide)
  have qe16 : zi12.toInt = zi952.toInt + 1 := by have ha : (1 : Int32).toInt = 1 := (by decide); rw [ha] at qe15; exact qe15
  refine p_put (ci := 12) (v := .int zi12) (ty := .int) (C := RX12) (T := TX12) (N := 69) hx hb hT iw_X12 tyX12 tyX12_ok nmX12 hown hK hw hS hW kd900 (by decide) rfl rfl 2 (by decide) (hT _ tb_1376) (fun _ h9 => h9) rfl (by decide +kernel) rfl rfl dX12_put_27 (fun hp17 eh18 H locs hw hS => ?_)
  have ok19 := wr_13002 bd14 (by decide) (by decide) ok10 kd900 eh18
  refine lv_iinc (v := 16) (lv' := [(2, .int 16), (0, .ref qa900), (1, .int zi901)]) hx hb dX12_put_30 hl (k := 0) rfl (by decide) (by decide) rfl (fun ls hl => ?_)
  refine lv_goto (tgt := 3) hx hb dX12_put_33 (by decide) ?_
  refine lv_iload_n hx hb dX12_put_3 rfl (lv_at hl 0 rfl) ?_
  refine lv_if_lt (tgt := 36) hx hb dX12_put_4 (by decide) (fun c => absurd c (d_nlt bc_16 bc_0 (by decide))) (fun _ => ?_)
  refine lv_aload_n hx hb dX12_put_7 rfl (lv_at hl 1 rfl) ?_
  have eq20 : hp17 qa900 1 = .ref qa2 := Eq.trans (up_at eh18 (Or.inr (by decide))) (Eq.trans (up_at eh9 (Or.inl (kd_ne kd900 kd3 (by decide)))) eq1)
  refine p_get (ci := 12) (v := .ref qa2) (C := RX12) (T := TX12) (N := 69) hx hb hT iw_X12 hown hK hw hW kd900 (by decide) rfl rfl 1 (by decide) eq20 (hT _ tb_1375) (fun _ h9 => h9) dX12_put_8 ?_
  refine lv_aload_n hx hb dX12_put_11 rfl (lv_at hl 1 rfl) ?_
  refine p_get (ci := 12) (v := .int zi12) (C := RX12) (T := TX12) (N := 69) hx hb hT iw_X12 hown hK hw hW kd900 (by decide) rfl rfl 2 (by decide) (hp_self eh18) (hT _ tb_1376) (fun _ h9 => h9) dX12_put_12 ?_
  refine lv_iload_n hx hb dX12_put_15 rfl (lv_at hl 2 rfl) ?_
  refine lv_iload_n hx hb dX12_put_16 rfl (lv_at hl 0 rfl) ?_
  refine lv_ishr hx hb dX12_put_17 (lv_topi (fun zi21 ea22 => ?_))
  refine lv_i2b hx hb dX12_put_18 rfl (lv_topi (fun zi23 ea24 => ?_))
  refine p_bast (x := zi23) hx hb hK hw hS hW kd3 (by decide) rfl (hW.len kd3 (n := 2000) rfl (by decide)) (vp_b bd14 (by decide) (by decide)) dX12_put_19 (fun hp25 eh26 H locs hw hS => ?_)
  have ok27 := wr_60000 (nar_b zi23) (by decide) (by decide) ok19 kd3 eh26
  refine lv_aload_n hx hb dX12_put_20 rfl (lv_at hl 1 rfl) ?_
  refine lv_dup hx hb dX12_put_21 rfl ?_
  have eq28 : hp25 qa900 2 = .int zi12 := Eq.trans (up_at eh26 (Or.inl (kd_ne kd900 kd3 (by decide)))) (hp_self eh18)
  refine p_get (ci := 12) (v := .int zi12) (C := RX12) (T := TX12) (N := 69) hx hb hT iw_X12 hown hK hw hW kd900 (by decide) rfl rfl 2 (by decide) eq28 (hT _ tb_1376) (fun _ h9 => h9) dX12_put_22 ?_
  refine lv_iconst (v := 1) hx hb dX12_put_25 (by decide) ?_
  refine lv_iadd hx hb dX12_put_26 (lv_topi (fun zi29 ea30 => ?_))
  have bd31 : (10 : Int) ≤ zi29.toInt ∧ zi29.toInt ≤ 1990 := b_iadd ea30 bd14 bc_1 (by decide) (by decide) (by decide) (by decide)
  have qe32 : zi29.toInt = (zi12 : Int32).toInt + (1 : Int32).toInt := e_iadd ea30 bd14 bc_1 (by decide) (by decide)
  have qe33 : zi29.toInt = zi12.toInt + 1 := by have ha : (1 : Int32).toInt = 1 := (by decide); rw [ha] at qe32; exact qe32
  refine p_put (ci := 12) (v := .int zi29) (ty := .int) (C := RX12) (T := TX12) (N := 69) hx hb hT iw_X12 tyX12 tyX12_ok nmX12 hown hK hw hS hW kd900 (by decide) rfl rfl 2 (by decide) (hT _ tb_1376) (fun _ h9 => h9) rfl (by decide +kernel) rfl rfl dX12_put_27 (fun hp34 eh35 H locs hw hS => ?_)
  have ok36 := wr_13002 bd31 (by decide) (by decide) ok27 kd900 eh35
  refine lv_iinc (v := 8) (lv' := [(2, .int 8), (0, .ref qa900), (1, .int zi901)]) hx hb dX12_put_30 hl (k := 0) rfl (by decide) (by decide) rfl (fun ls hl => ?_)
  refine lv_goto (tgt := 3) hx hb dX12_put_33 (by decide) ?_
  refine lv_iload_n hx hb dX12_put_3 rfl (lv_at hl 0 rfl) ?_
  refine lv_if_lt (tgt := 36) hx hb dX12_put_4 (by decide) (fun c => absurd c (d_nlt bc_8 bc_0 (by decide))) (fun _ => ?_)
  refine lv_aload_n hx hb dX12_put_7 rfl (lv_at hl 1 rfl) ?_
  have eq37 : hp34 qa900 1 = .ref qa2 := Eq.trans (up_at eh35 (Or.inr (by decide))) (Eq.trans (up_at eh26 (Or.inl (kd_ne kd900 kd3 (by decide)))) eq20)
  refine p_get (ci := 12) (v := .ref qa2) (C := RX12) (T := TX12) (N := 69) hx hb hT iw_X12 hown hK hw hW kd900 (by decide) rfl rfl 1 (by decide) eq37 (hT _ tb_1375) (fun _ h9 => h9) dX12_put_8 ?_
  refine lv_aload_n hx hb dX12_put_11 rfl (lv_at hl 1 rfl) ?_
  refine p_get (ci := 12) (v := .int zi29) (C := RX12) (T := TX12) (N := 69) hx hb hT iw_X12 hown hK hw hW kd900 (by decide) rfl rfl 2 (by decide) (hp_self eh35) (hT _ tb_1376) (fun _ h9 => h9) dX12_put_12 ?_
  refine lv_iload_n hx hb dX12_put_15 rfl (lv_at hl 2 rfl) ?_
  refine lv_iload_n hx hb dX12_put_16 rfl (lv_at hl 0 rfl) ?_
  refine lv_ishr hx hb dX12_put_17 (lv_topi (fun zi38 ea39 => ?_))
  refine lv_i2b hx hb dX12_put_18 rfl (lv_topi (fun zi40 ea41 => ?_))
  refine p_bast (x := zi40) hx hb hK hw hS hW kd3 (by decide) rfl (hW.len kd3 (n := 2000) rfl (by decide)) (vp_b bd31 (by decide) (by decide)) dX12_put_19 (fun hp42 eh43 H locs hw hS => ?_)
  have ok44 := wr_60000 (nar_b zi40) (by decide) (by decide) ok36 kd3 eh43
  refine lv_aload_n hx hb dX12_put_20 rfl (lv_at hl 1 rfl) ?_
  refine lv_dup hx hb dX12_put_21 rfl ?_
  have eq45 : hp42 qa900 2 = .int zi29 := Eq.trans (up_at eh43 (Or.inl (kd_ne kd900 kd3 (by decide)))) (hp_self eh35)
  refine p_get (ci := 12) (v := .int zi29) (C := RX12) (T := TX12) (N := 69) hx hb hT iw_X12 hown hK hw hW kd900 (by decide) rfl rfl 2 (by decide) eq45 (hT _ tb_1376) (fun _ h9 => h9) dX12_put_22 ?_
  refine lv_iconst (v := 1) hx hb dX12_put_25 (by decide) ?_
  refine lv_iadd hx hb dX12_put_26 (lv_topi (fun zi46 ea47 => ?_))
  have bd48 : (11 : Int) ≤ zi46.toInt ∧ zi46.toInt ≤ 1991 := b_iadd ea47 bd31 bc_1 (by decide) (by decide) (by decide) (by decide)
  have qe49 : zi46.toInt = (zi29 : Int32).toInt + (1 : Int32).toInt := e_iadd ea47 bd31 bc_1 (by decide) (by decide)
  have qe50 : zi46.toInt = zi29.toInt + 1 := by have ha : (1 : Int32).toInt = 1 := (by decide); rw [ha] at qe49; exact qe49
  refine p_put (ci := 12) (v := .int zi46) (ty := .int) (C := RX12) (T := TX12) (N := 69) hx hb hT iw_X12 tyX12 tyX12_ok nmX12 hown hK hw hS hW kd900 (by decide) rfl rfl 2 (by decide) (hT _ tb_1376) (fun _ h9 => h9) rfl (by decide +kernel) rfl rfl dX12_put_27 (fun hp51 eh52 H locs hw hS => ?_)
  have ok53 := wr_13002 bd48 (by decide) (by decide) ok44 kd900 eh52
  refine lv_iinc (v := 0) (lv' := [(2, .int 0), (0, .ref qa900), (1, .int zi901)]) hx hb dX12_put_30 hl (k := 0) rfl (by decide) (by decide) rfl (fun ls hl => ?_)
  refine lv_goto (tgt := 3) hx hb dX12_put_33 (by decide) ?_
  refine lv_iload_n hx hb dX12_put_3 rfl (lv_at hl 0 rfl) ?_
  refine lv_if_lt (tgt := 36) hx hb dX12_put_4 (by decide) (fun c => absurd c (d_nlt bc_0 bc_0 (by decide))) (fun _ => ?_)
  refine lv_aload_n hx hb dX12_put_7 rfl (lv_at hl 1 rfl) ?_
  have eq54 : hp51 qa900 1 = .ref qa2 := Eq.trans (up_at eh52 (Or.inr (by decide))) (Eq.trans (up_at eh43 (Or.inl (kd_ne kd900 kd3 (by decide)))) eq37)
  refine p_get (ci := 12) (v := .ref qa2) (C := RX12) (T := TX12) (N := 69) hx hb hT iw_X12 hown hK hw hW kd900 (by decide) rfl rfl 1 (by decide) eq54 (hT _ tb_1375) (fun _ h9 => h9) dX12_put_8 ?_
  refine lv_aload_n hx hb dX12_put_11 rfl (lv_at hl 1 rfl) ?_
  refine p_get (ci := 12) (v := .int zi46) (C := RX12) (T := TX12) (N := 69) hx hb hT iw_X12 hown hK hw hW kd900 (by decide) rfl rfl 2 (by decide) (hp_self eh52) (hT _ tb_1376) (fun _ h9 => h9) dX12_put_12 ?_
  refine lv_iload_n hx hb dX12_put_15 rfl (lv_at hl 2 rfl) ?_
  refine lv_iload_n hx hb dX12_put_16 rfl (lv_at hl 0 rfl) ?_
  refine lv_ishr hx hb dX12_put_17 (lv_topi (fun zi55 ea56 => ?_))
  refine lv_i2b hx hb dX12_put_18 rfl (lv_topi (fun zi57 ea58 => ?_))
  refine p_bast (x := zi57) hx hb hK hw hS hW kd3 (by decide) rfl (hW.len kd3 (n := 2000) rfl (by decide)) (vp_b bd48 (by decide) (by decide)) dX12_put_19 (fun hp59 eh60 H locs hw hS => ?_)
  have ok61 := wr_60000 (nar_b zi57) (by decide) (by decide) ok53 kd3 eh60
  refine lv_aload_n hx hb dX12_put_20 rfl (lv_at hl 1 rfl) ?_
  refine lv_dup hx hb dX12_put_21 rfl ?_
  have eq62 : hp59 qa900 2 = .int zi46 := Eq.trans (up_at eh60 (Or.inl (kd_ne kd900 kd3 (by decide)))) (hp_self eh52)
  refine p_get (ci := 12) (v := .int zi46) (C := RX12) (T := TX12) (N := 69) hx hb hT iw_X12 hown hK hw hW kd900 (by decide) rfl rfl 2 (by decide) eq62 (hT _ tb_1376) (fun _ h9 => h9) dX12_put_22 ?_
  refine lv_iconst (v := 1) hx hb dX12_put_25 (by decide) ?_
  refine lv_iadd hx hb dX12_put_26 (lv_topi (fun zi63 ea64 => ?_))
  have bd65 : (12 : Int) ≤ zi63.toInt ∧ zi63.toInt ≤ 1992 := b_iadd ea64 bd48 bc_1 (by decide) (by decide) (by decide) (by decide)
  have qe66 : zi63.toInt = (zi46 : Int32).toInt + (1 : Int32).toInt := e_iadd ea64 bd48 bc_1 (by decide) (by decide)
  have qe67 : zi63.toInt = zi46.toInt + 1 := by have ha : (1 : Int32).toInt = 1 := (by decide); rw [ha] at qe66; exact qe66
  refine p_put (ci := 12) (v := .int zi63) (ty := .int) (C := RX12) (T := TX12) (N := 69) hx hb hT iw_X12 tyX12 tyX12_ok nmX12 hown hK hw hS hW kd900 (by decide) rfl rfl 2 (by decide) (hT _ tb_1376) (fun _ h9 => h9) rfl (by decide +kernel) rfl rfl dX12_put_27 (fun hp68 eh69 H locs hw hS => ?_)
  have ok70 := wr_13002 bd65 (by decide) (by decide) ok61 kd900 eh69
  refine lv_iinc (v := (-8)) (lv' := [(2, .int (-8)), (0, .ref qa900), (1, .int zi901)]) hx hb dX12_put_30 hl (k := 0) rfl (by decide) (by decide) rfl (fun ls hl => ?_)
  refine lv_goto (tgt := 3) hx hb dX12_put_33 (by decide) ?_
  refine lv_iload_n hx hb dX12_put_3 rfl (lv_at hl 0 rfl) ?_
  refine lv_if_lt (tgt := 36) hx hb dX12_put_4 (by decide) (fun _ => ?_) (fun c => absurd (d_lt bc_m8 bc_0 (by decide)) c)
  rw [hQ]
  exact kz_v hx hb hr hlocks hS hp68 hw ⟨ok70, (Fr.put (cq := 13002) (Fr.put (cq := 60000) (Fr.put (cq := 13002) (Fr.put (cq := 60000) (Fr.put (cq := 13002) (Fr.put (cq := 60000) (Fr.put (cq := 13002) (Fr.put (cq := 60000) (Fr.rf) eh9 kd3 (cd_a (by decide)) (by decide)) eh18 kd900 (cd_o (by decide)) (by decide)) eh26 kd3 (cd_a (by decide)) (by decide)) eh35 kd900 (cd_o (by decide)) (by decide)) eh43 kd3 (cd_a (by decide)) (by decide)) eh52 kd900 (cd_o (by decide)) (by decide)) eh60 kd3 (cd_a (by decide)) (by decide)) eh69 kd900 (cd_o (by decide)) (by decide)), ⟨_, (hp_self eh69), b_wid2 bd65 (by decide) (by decide)⟩⟩ (Nat.le_of_ble_eq_true rfl) (Nat.le_of_ble_eq_true rfl) dX12_put_36

set_option maxRecDepth 100000 in
set_option maxHeartbeats 4000000 in
theorem cX12_put_3 (l : Launch) (G : va_G) (cy : Nat → ClassId) (ev : Ew) (K ln : Nat → Nat) (Ls : List Nat) (hW : SW K ln Ls) (sz : Nat) (hp0 : Nat → Nat → Value) (ok0 : Ok K hp0) (qa900 : Nat) (zi901 : Int32) (zi952 : Int32) (kd900 : K qa900 = 13) (eq952 : hp0 qa900 2 = .int zi952) (bd952 : ((12 : Int) ≤ zi952.toInt ∧ zi952.toInt ≤ 1992)) : Met l yX12_put (WS yX12_put cX12_put 3 none) { frames := 0, cells := 0, slots := 0, locals := 0 } (PB2 [.ref qa900, .int zi901] sz G cy ev (va_pl Ls (cellOf cy K ln hp0))) (QBv (S := (Nat → Nat → Value)) (fun u : (Nat → Nat → Value) => Ok K u ∧ Fr [13002, 60000] K hp0 u ∧ (∃ z : Int32, u qa900 2 = .int z ∧ ((16 : Int) ≤ z.toInt ∧ z.toInt ≤ 1996))) G (fun u => va_pl Ls (cellOf cy K ln u)) (va_A (va_pl Ls (cellOf cy K ln hp0)) sz)) 0 0 (va_A (va_pl Ls (cellOf cy K ln hp0)) sz) := by
  refine met_of2 (y := yX12_put) (L := 3) (av := [.ref qa900, .int zi901]) (Qc := fun A => QBv (S := (Nat → Nat → Value)) (fun u : (Nat → Nat → Value) => Ok K u ∧ Fr [13002, 60000] K hp0 u ∧ (∃ z : Int32, u qa900 2 = .int z ∧ ((16 : Int) ≤ z.toInt ∧ z.toInt ≤ 1996))) G (fun u => va_pl Ls (cellOf cy K ln u)) A) (plainFor_of_name (by decide)) (Nat.le_of_ble_eq_true rfl) ?_
  intro p e s m below meth c hsz hx hb hr hml hown hT hlocks hin hK A hA hE hw hS ls hl
  have hw : PW G cy K ln Ls A hp0 s.heap := hw
  have hown : s.vm.findClass "LieClockModel" = some m.cls := hown
  have hl : lv_has ls 3 [(0, .ref qa900), (1, .int zi901)] := hl
  obtain ⟨Q, hQ⟩ : ∃ Q : State → Prop, Q = MQ below (QBv (S := (Nat → Nat → Value)) (fun u : (Nat → Nat → Value) => Ok K u ∧ Fr [13002, 60000] K hp0 u ∧ (∃ z : Int32, u qa900 2 = .int z ∧ ((16 : Int) ≤ z.toInt ∧ z.toInt ≤ 1996))) G (fun u => va_pl Ls (cellOf cy K ln u)) A) ([.ref qa900, .int zi901] : List Value).toArray s 0 0 A := ⟨_, rfl⟩
  rw [← hQ]
  refine lv_bipush (v := 24) hx hb dX12_put_0 (by decide) ?_
  refine lv_istore_n (lv' := [(2, .int 24), (0, .ref qa900), (1, .int zi901)]) hx hb dX12_put_2 rfl hl (by decide) rfl (fun ls hl => ?_)
  refine lv_iload_n hx hb dX12_put_3 rfl (lv_at hl 0 rfl) ?_
  refine lv_if_lt (tgt := 36) hx hb dX12_put_4 (by decide) (fun c => absurd c (d_nlt bc_24 bc_0 (by decide))) (fun _ => ?_)
  refine lv_aload_n hx hb dX12_put_7 rfl (lv_at hl 1 rfl) ?_
  obtain ⟨qa2, eq1, kd3⟩ := rd_13001 ok0 kd900
  refine p_get (ci := 12) (v := .ref qa2) (C := RX12) (T := TX12) (N := 69) hx hb hT iw_X12 hown hK hw hW kd900 (by decide) rfl rfl 1 (by decide) eq1 (hT _ tb_1375) (fun _ h9 => h9) dX12_put_8 ?_
  refine lv_aload_n hx hb dX12_put_11 rfl (lv_at hl 1 rfl) ?_
  refine p_get (ci := 12) (v := .int zi952) (C := RX12) (T := TX12) (N := 69) hx hb hT iw_X12 hown hK hw hW kd900 (by decide) rfl rfl 2 (by decide) eq952 (hT _ tb_1376) (fun _ h9 => h9) dX12_put_12 ?_
  refine lv_iload_n hx hb dX12_put_15 rfl (lv_at hl 2 rfl) ?_
  refine lv_iload_n hx hb dX12_put_16 rfl (lv_at hl 0 rfl) ?_
  refine lv_ishr hx hb dX12_put_17 (lv_topi (fun zi4 ea5 => ?_))
  refine lv_i2b hx hb dX12_put_18 rfl (lv_topi (fun zi6 ea7 => ?_))
  refine p_bast (x := zi6) hx hb hK hw hS hW kd3 (by decide) rfl (hW.len kd3 (n := 2000) rfl (by decide)) (vp_b bd952 (by decide) (by decide)) dX12_put_19 (fun hp8 eh9 H locs hw hS => ?_)
  have ok10 := wr_60000 (nar_b zi6) (by decide) (by decide) ok0 kd3 eh9
  refine lv_aload_n hx hb dX12_put_20 rfl (lv_at hl 1 rfl) ?_
  refine lv_dup hx hb dX12_put_21 rfl ?_
  have eq11 : hp8 qa900 2 = .int zi952 := Eq.trans (up_at eh9 (Or.inl (kd_ne kd900 kd3 (by decide)))) eq952
  refine p_get (ci := 12) (v := .int zi952) (C := RX12) (T := TX12) (N := 69) hx hb hT iw_X12 hown hK hw hW kd900 (by decide) rfl rfl 2 (by decide) eq11 (hT _ tb_1376) (fun _ h9 => h9) dX12_put_22 ?_
  refine lv_iconst (v := 1) hx hb dX12_put_25 (by decide) ?_
  refine lv_iadd hx hb dX12_put_26 (lv_topi (fun zi12 ea13 => ?_))
  have bd14 : (13 : Int) ≤ zi12.toInt ∧ zi12.toInt ≤ 1993 := b_iadd ea13 bd952 bc_1 (by decide) (by decide) (by decide) (by decide)
  have qe15 : zi12.toInt = (zi952 : Int32).toInt + (1 : Int32).toInt := e_iadd ea13 bd952 bc_1 (by decide) (by decide)
  have qe16 : zi12.toInt = zi952.toInt + 1 := by have ha : (1 : Int32).toInt = 1 := (by decide); rw [ha] at qe15; exact qe15
  refine p_put (ci := 12) (v := .int zi12) (ty := .int) (C := RX12) (T := TX12) (N := 69) hx hb hT iw_X12 tyX12 tyX12_ok nmX12 hown hK hw hS hW kd900 (by decide) rfl rfl 2 (by decide) (hT _ tb_1376) (fun _ h9 => h9) rfl (by decide +kernel) rfl rfl dX12_put_27 (fun hp17 eh18 H locs hw hS => ?_)
  have ok19 := wr_13002 bd14 (by decide) (by decide) ok10 kd900 eh18
  refine lv_iinc (v := 16) (lv' := [(2, .int 16), (0, .ref qa900), (1, .int zi901)]) hx hb dX12_put_30 hl (k := 0) rfl (by decide) (by decide) rfl (fun ls hl => ?_)
  refine lv_goto (tgt := 3) hx hb dX12_put_33 (by decide) ?_
  refine lv_iload_n hx hb dX12_put_3 rfl (lv_at hl 0 rfl) ?_
  refine lv_if_lt (tgt := 36) hx hb dX12_put_4 (by decide) (fun c => absurd c (d_nlt bc_16 bc_0 (by decide))) (fun _ => ?_)
  refine lv_aload_n hx hb dX12_put_7 rfl (lv_at hl 1 rfl) ?_
  have eq20 : hp17 qa900 1 = .ref qa2 := Eq.trans (up_at eh18 (Or.inr (by decide))) (Eq.trans (up_at eh9 (Or.inl (kd_ne kd900 kd3 (by decide)))) eq1)
  refine p_get (ci := 12) (v := .ref qa2) (C := RX12) (T := TX12) (N := 69) hx hb hT iw_X12 hown hK hw hW kd900 (by decide) rfl rfl 1 (by decide) eq20 (hT _ tb_1375) (fun _ h9 => h9) dX12_put_8 ?_
  refine lv_aload_n hx hb dX12_put_11 rfl (lv_at hl 1 rfl) ?_
  refine p_get (ci := 12) (v := .int zi12) (C := RX12) (T := TX12) (N := 69) hx hb hT iw_X12 hown hK hw hW kd900 (by decide) rfl rfl 2 (by decide) (hp_self eh18) (hT _ tb_1376) (fun _ h9 => h9) dX12_put_12 ?_
  refine lv_iload_n hx hb dX12_put_15 rfl (lv_at hl 2 rfl) ?_
  refine lv_iload_n hx hb dX12_put_16 rfl (lv_at hl 0 rfl) ?_
  refine lv_ishr hx hb dX12_put_17 (lv_topi (fun zi21 ea22 => ?_))
  refine lv_i2b hx hb dX12_put_18 rfl (lv_topi (fun zi23 ea24 => ?_))
  refine p_bast (x := zi23) hx hb hK hw hS hW kd3 (by decide) rfl (hW.len kd3 (n := 2000) rfl (by decide)) (vp_b bd14 (by decide) (by decide)) dX12_put_19 (fun hp25 eh26 H locs hw hS => ?_)
  have ok27 := wr_60000 (nar_b zi23) (by decide) (by decide) ok19 kd3 eh26
  refine lv_aload_n hx hb dX12_put_20 rfl (lv_at hl 1 rfl) ?_
  refine lv_dup hx hb dX12_put_21 rfl ?_
  have eq28 : hp25 qa900 2 = .int zi12 := Eq.trans (up_at eh26 (Or.inl (kd_ne kd900 kd3 (by decide)))) (hp_self eh18)
  refine p_get (ci := 12) (v := .int zi12) (C := RX12) (T := TX12) (N := 69) hx hb hT iw_X12 hown hK hw hW kd900 (by decide) rfl rfl 2 (by decide) eq28 (hT _ tb_1376) (fun _ h9 => h9) dX12_put_22 ?_
  refine lv_iconst (v := 1) hx hb dX12_put_25 (by decide) ?_
  refine lv_iadd hx hb dX12_put_26 (lv_topi (fun zi29 ea30 => ?_))
  have bd31 : (14 : Int) ≤ zi29.toInt ∧ zi29.toInt ≤ 1994 := b_iadd ea30 bd14 bc_1 (by decide) (by decide) (by decide) (by decide)
  have qe32 : zi29.toInt = (zi12 : Int32).toInt + (1 : Int32).toInt := e_iadd ea30 bd14 bc_1 (by decide) (by decide)
  have qe33 : zi29.toInt = zi12.toInt + 1 := by have ha : (1 : Int32).toInt = 1 := (by decide); rw [ha] at qe32; exact qe32
  refine p_put (ci := 12) (v := .int zi29) (ty := .int) (C := RX12) (T := TX12) (N := 69) hx hb hT iw_X12 tyX12 tyX12_ok nmX12 hown hK hw hS hW kd900 (by decide) rfl rfl 2 (by decide) (hT _ tb_1376) (fun _ h9 => h9) rfl (by decide +kernel) rfl rfl dX12_put_27 (fun hp34 eh35 H locs hw hS => ?_)
  have ok36 := wr_13002 bd31 (by decide) (by decide) ok27 kd900 eh35
  refine lv_iinc (v := 8) (lv' := [(2, .int 8), (0, .ref qa900), (1, .int zi901)]) hx hb dX12_put_30 hl (k := 0) rfl (by decide) (by decide) rfl (fun ls hl => ?_)
  refine lv_goto (tgt := 3) hx hb dX12_put_33 (by decide) ?_
  refine lv_iload_n hx hb dX12_put_3 rfl (lv_at hl 0 rfl) ?_
  refine lv_if_lt (tgt := 36) hx hb dX12_put_4 (by decide) (fun c => absurd c (d_nlt bc_8 bc_0 (by decide))) (fun _ => ?_)
  refine lv_aload_n hx hb dX12_put_7 rfl (lv_at hl 1 rfl) ?_
  have eq37 : hp34 qa900 1 = .ref qa2 := Eq.trans (up_at eh35 (Or.inr (by decide))) (Eq.trans (up_at eh26 (Or.inl (kd_ne kd900 kd3 (by decide)))) eq20)
  refine p_get (ci := 12) (v := .ref qa2) (C := RX12) (T := TX12) (N := 69) hx hb hT iw_X12 hown hK hw hW kd900 (by decide) rfl rfl 1 (by decide) eq37 (hT _ tb_1375) (fun _ h9 => h9) dX12_put_8 ?_
  refine lv_aload_n hx hb dX12_put_11 rfl (lv_at hl 1 rfl) ?_
  refine p_get (ci := 12) (v := .int zi29) (C := RX12) (T := TX12) (N := 69) hx hb hT iw_X12 hown hK hw hW kd900 (by decide) rfl rfl 2 (by decide) (hp_self eh35) (hT _ tb_1376) (fun _ h9 => h9) dX12_put_12 ?_
  refine lv_iload_n hx hb dX12_put_15 rfl (lv_at hl 2 rfl) ?_
  refine lv_iload_n hx hb dX12_put_16 rfl (lv_at hl 0 rfl) ?_
  refine lv_ishr hx hb dX12_put_17 (lv_topi (fun zi38 ea39 => ?_))
  refine lv_i2b hx hb dX12_put_18 rfl (lv_topi (fun zi40 ea41 => ?_))
  refine p_bast (x := zi40) hx hb hK hw hS hW kd3 (by decide) rfl (hW.len kd3 (n := 2000) rfl (by decide)) (vp_b bd31 (by decide) (by decide)) dX12_put_19 (fun hp42 eh43 H locs hw hS => ?_)
  have ok44 := wr_60000 (nar_b zi40) (by decide) (by decide) ok36 kd3 eh43
  refine lv_aload_n hx hb dX12_put_20 rfl (lv_at hl 1 rfl) ?_
  refine lv_dup hx hb dX12_put_21 rfl ?_
  have eq45 : hp42 qa900 2 = .int zi29 := Eq.trans (up_at eh43 (Or.inl (kd_ne kd900 kd3 (by decide)))) (hp_self eh35)
  refine p_get (ci := 12) (v := .int zi29) (C := RX12) (T := TX12) (N := 69) hx hb hT iw_X12 hown hK hw hW kd900 (by decide) rfl rfl 2 (by decide) eq45 (hT _ tb_1376) (fun _ h9 => h9) dX12_put_22 ?_
  refine lv_iconst (v := 1) hx hb dX12_put_25 (by decide) ?_
  refine lv_iadd hx hb dX12_put_26 (lv_topi (fun zi46 ea47 => ?_))
  have bd48 : (15 : Int) ≤ zi46.toInt ∧ zi46.toInt ≤ 1995 := b_iadd ea47 bd31 bc_1 (by decide) (by decide) (by decide) (by decide)
  have qe49 : zi46.toInt = (zi29 : Int32).toInt + (1 : Int32).toInt := e_iadd ea47 bd31 bc_1 (by decide) (by decide)
  have qe50 : zi46.toInt = zi29.toInt + 1 := by have ha : (1 : Int32).toInt = 1 := (by decide); rw [ha] at qe49; exact qe49
  refine p_put (ci := 12) (v := .int zi46) (ty := .int) (C := RX12) (T := TX12) (N := 69) hx hb hT iw_X12 tyX12 tyX12_ok nmX12 hown hK hw hS hW kd900 (by decide) rfl rfl 2 (by decide) (hT _ tb_1376) (fun _ h9 => h9) rfl (by decide +kernel) rfl rfl dX12_put_27 (fun hp51 eh52 H locs hw hS => ?_)
  have ok53 := wr_13002 bd48 (by decide) (by decide) ok44 kd900 eh52
  refine lv_iinc (v := 0) (lv' := [(2, .int 0), (0, .ref qa900), (1, .int zi901)]) hx hb dX12_put_30 hl (k := 0) rfl (by decide) (by decide) rfl (fun ls hl => ?_)
  refine lv_goto (tgt := 3) hx hb dX12_put_33 (by decide) ?_
  refine lv_iload_n hx hb dX12_put_3 rfl (lv_at hl 0 rfl) ?_
  refine lv_if_lt (tgt := 36) hx hb dX12_put_4 (by decide) (fun c => absurd c (d_nlt bc_0 bc_0 (by decide))) (fun _ => ?_)
  refine lv_aload_n hx hb dX12_put_7 rfl (lv_at hl 1 rfl) ?_
  have eq54 : hp51 qa900 1 = .ref qa2 := Eq.trans (up_at eh52 (Or.inr (by decide))) (Eq.trans (up_at eh43 (Or.inl (kd_ne kd900 kd3 (by decide)))) eq37)
  refine p_get (ci := 12) (v := .ref qa2) (C := RX12) (T := TX12) (N := 69) hx hb hT iw_X12 hown hK hw hW kd900 (by decide) rfl rfl 1 (by decide) eq54 (hT _ tb_1375) (fun _ h9 => h9) dX12_put_8 ?_
  refine lv_aload_n hx hb dX12_put_11 rfl (lv_at hl 1 rfl) ?_
  refine p_get (ci := 12) (v := .int zi46) (C := RX12) (T := TX12) (N := 69) hx hb hT iw_X12 hown hK hw hW kd900 (by decide) rfl rfl 2 (by decide) (hp_self eh52) (hT _ tb_1376) (fun _ h9 => h9) dX12_put_12 ?_
  refine lv_iload_n hx hb dX12_put_15 rfl (lv_at hl 2 rfl) ?_
  refine lv_iload_n hx hb dX12_put_16 rfl (lv_at hl 0 rfl) ?_
  refine lv_ishr hx hb dX12_put_17 (lv_topi (fun zi55 ea56 => ?_))
  refine lv_i2b hx hb dX12_put_18 rfl (lv_topi (fun zi57 ea58 => ?_))
  refine p_bast (x := zi57) hx hb hK hw hS hW kd3 (by decide) rfl (hW.len kd3 (n := 2000) rfl (by decide)) (vp_b bd48 (by decide) (by decide)) dX12_put_19 (fun hp59 eh60 H locs hw hS => ?_)
  have ok61 := wr_60000 (nar_b zi57) (by decide) (by decide) ok53 kd3 eh60
  refine lv_aload_n hx hb dX12_put_20 rfl (lv_at hl 1 rfl) ?_
  refine lv_dup hx hb dX12_put_21 rfl ?_
  have eq62 : hp59 qa900 2 = .int zi46 := Eq.trans (up_at eh60 (Or.inl (kd_ne kd900 kd3 (by decide)))) (hp_self eh52)
  refine p_get (ci := 12) (v := .int zi46) (C := RX12) (T := TX12) (N := 69) hx hb hT iw_X12 hown hK hw hW kd900 (by decide) rfl rfl 2 (by decide) eq62 (hT _ tb_1376) (fun _ h9 => h9) dX12_put_22 ?_
  refine lv_iconst (v := 1) hx hb dX12_put_25 (by decide) ?_
  refine lv_iadd hx hb dX12_put_26 (lv_topi (fun zi63 ea64 => ?_))
  have bd65 : (16 : Int) ≤ zi63.toInt ∧ zi63.toInt ≤ 1996 := b_iadd ea64 bd48 bc_1 (by decide) (by decide) (by decide) (by decide)
  have qe66 : zi63.toInt = (zi46 : Int32).toInt + (1 : Int32).toInt := e_iadd ea64 bd48 bc_1 (by decide) (by decide)
  have qe67 : zi63.toInt = zi46.toInt + 1 := by have ha : (1 : Int32).toInt = 1 := (by decide); rw [ha] at qe66; exact qe66
  refine p_put (ci := 12) (v := .int zi63) (ty := .int) (C := RX12) (T := TX12) (N := 69) hx hb hT iw_X12 tyX12 tyX12_ok nmX12 hown hK hw hS hW kd900 (by decide) rfl rfl 2 (by decide) (hT _ tb_1376) (fun _ h9 => h9) rfl (by decide +kernel) rfl rfl dX12_put_27 (fun hp68 eh69 H locs hw hS => ?_)
  have ok70 := wr_13002 bd65 (by decide) (by decide) ok61 kd900 eh69
  refine lv_iinc (v := (-8)) (lv' := [(2, .int (-8)), (0, .ref qa900), (1, .int zi901)]) hx hb dX12_put_30 hl (k := 0) rfl (by decide) (by decide) rfl (fun ls hl => ?_)
  refine lv_goto (tgt := 3) hx hb dX12_put_33 (by decide) ?_
  refine lv_iload_n hx hb dX12_put_3 rfl (lv_at hl 0 rfl) ?_
  refine lv_if_lt (tgt := 36) hx hb dX12_put_4 (by decide) (fun _ => ?_) (fun c => absurd (d_lt bc_m8 bc_0 (by decide)) c)
  rw [hQ]
  exact kz_v hx hb hr hlocks hS hp68 hw ⟨ok70, (Fr.put (cq := 13002) (Fr.put (cq := 60000) (Fr.put (cq := 13002) (Fr.put (cq := 60000) (Fr.put (cq := 13002) (Fr.put (cq := 60000) (Fr.put (cq := 13002) (Fr.put (cq := 60000) (Fr.rf) eh9 kd3 (cd_a (by decide)) (by decide)) eh18 kd900 (cd_o (by decide)) (by decide)) eh26 kd3 (cd_a (by decide)) (by decide)) eh35 kd900 (cd_o (by decide)) (by decide)) eh43 kd3 (cd_a (by decide)) (by decide)) eh52 kd900 (cd_o (by decide)) (by decide)) eh60 kd3 (cd_a (by decide)) (by decide)) eh69 kd900 (cd_o (by decide)) (by decide)), ⟨_, (hp_self eh69), b_wid2 bd65 (by decide) (by decide)⟩⟩ (Nat.le_of_ble_eq_true rfl) (Nat.le_of_ble_eq_true rfl) dX12_put_36

set_option maxRecDepth 100000 in
set_option maxHeartbeats 4000000 in
theorem cX12_put_4 (l : Launch) (G : va_G) (cy : Nat → ClassId) (ev : Ew) (K ln : Nat → Nat) (Ls : List Nat) (hW : SW K ln Ls) (sz : Nat) (hp0 : Nat → Nat → Value) (ok0 : Ok K hp0) (qa900 : Nat) (zi901 : Int32) (zi952 : Int32) (kd900 : K qa900 = 13) (eq952 : hp0 qa900 2 = .int zi952) (bd952 : ((16 : Int) ≤ zi952.toInt ∧ zi952.toInt ≤ 1996)) : Met l yX12_put (WS yX12_put cX12_put 3 none) { frames := 0, cells := 0, slots := 0, locals := 0 } (PB2 [.ref qa900, .int zi901] sz G cy ev (va_pl Ls (cellOf cy K ln hp0))) (QBv (S := (Nat → Nat → Value)) (fun u : (Nat → Nat → Value) => Ok K u ∧ Fr [13002, 60000] K hp0 u ∧ (∃ z : Int32, u qa900 2 = .int z ∧ ((20 : Int) ≤ z.toInt ∧ z.toInt ≤ 2000))) G (fun u => va_pl Ls (cellOf cy K ln u)) (va_A (va_pl Ls (cellOf cy K ln hp0)) sz)) 0 0 (va_A (va_pl Ls (cellOf cy K ln hp0)) sz) := by
  refine met_of2 (y := yX12_put) (L := 3) (av := [.ref qa900, .int zi901]) (Qc := fun A => QBv (S := (Nat → Nat → Value)) (fun u : (Nat → Nat → Value) => Ok K u ∧ Fr [13002, 60000] K hp0 u ∧ (∃ z : Int32, u qa900 2 = .int z ∧ ((20 : Int) ≤ z.toInt ∧ z.toInt ≤ 2000))) G (fun u => va_pl Ls (cellOf cy K ln u)) A) (plainFor_of_name (by decide)) (Nat.le_of_ble_eq_true rfl) ?_
  intro p e s m below meth c hsz hx hb hr hml hown hT hlocks hin hK A hA hE hw hS ls hl
  have hw : PW G cy K ln Ls A hp0 s.heap := hw
  have hown : s.vm.findClass "LieClockModel" = some m.cls := hown
  have hl : lv_has ls 3 [(0, .ref qa900), (1, .int zi901)] := hl
  obtain ⟨Q, hQ⟩ : ∃ Q : State → Prop, Q = MQ below (QBv (S := (Nat → Nat → Value)) (fun u : (Nat → Nat → Value) => Ok K u ∧ Fr [13002, 60000] K hp0 u ∧ (∃ z : Int32, u qa900 2 = .int z ∧ ((20 : Int) ≤ z.toInt ∧ z.toInt ≤ 2000))) G (fun u => va_pl Ls (cellOf cy K ln u)) A) ([.ref qa900, .int zi901] : List Value).toArray s 0 0 A := ⟨_, rfl⟩
  rw [← hQ]
  refine lv_bipush (v := 24) hx hb dX12_put_0 (by decide) ?_
  refine lv_istore_n (lv' := [(2, .int 24), (0, .ref qa900), (1, .int zi901)]) hx hb dX12_put_2 rfl hl (by decide) rfl (fun ls hl => ?_)
  refine lv_iload_n hx hb dX12_put_3 rfl (lv_at hl 0 rfl) ?_
  refine lv_if_lt (tgt := 36) hx hb dX12_put_4 (by decide) (fun c => absurd c (d_nlt bc_24 bc_0 (by decide))) (fun _ => ?_)
  refine lv_aload_n hx hb dX12_put_7 rfl (lv_at hl 1 rfl) ?_
  obtain ⟨qa2, eq1, kd3⟩ := rd_13001 ok0 kd900
  refine p_get (ci := 12) (v := .ref qa2) (C := RX12) (T := TX12) (N := 69) hx hb hT iw_X12 hown hK hw hW kd900 (by decide) rfl rfl 1 (by decide) eq1 (hT _ tb_1375) (fun _ h9 => h9) dX12_put_8 ?_
  refine lv_aload_n hx hb dX12_put_11 rfl (lv_at hl 1 rfl) ?_
  refine p_get (ci := 12) (v := .int zi952) (C := RX12) (T := TX12) (N := 69) hx hb hT iw_X12 hown hK hw hW kd900 (by decide) rfl rfl 2 (by decide) eq952 (hT _ tb_1376) (fun _ h9 => h9) dX12_put_12 ?_
  refine lv_iload_n hx hb dX12_put_15 rfl (lv_at hl 2 rfl) ?_
  refine lv_iload_n hx hb dX12_put_16 rfl (lv_at hl 0 rfl) ?_
  refine lv_ishr hx hb dX12_put_17 (lv_topi (fun zi4 ea5 => ?_))
  refine lv_i2b hx hb dX12_put_18 rfl (lv_topi (fun zi6 ea7 => ?_))
  refine p_bast (x := zi6) hx hb hK hw hS hW kd3 (by decide) rfl (hW.len kd3 (n := 2000) rfl (by decide)) (vp_b bd952 (by decide) (by decide)) dX12_put_19 (fun hp8 eh9 H locs hw hS => ?_)
  have ok10 := wr_60000 (nar_b zi6) (by decide) (by decide) ok0 kd3 eh9
  refine lv_aload_n hx hb dX12_put_20 rfl (lv_at hl 1 rfl) ?_
  refine lv_dup hx hb dX12_put_21 rfl ?_
  have eq11 : hp8 qa900 2 = .int zi952 := Eq.trans (up_at eh9 (Or.inl (kd_ne kd900 kd3 (by decide)))) eq952
  refine p_get (ci := 12) (v := .int zi952) (C := RX12) (T := TX12) (N := 69) hx hb hT iw_X12 hown hK hw hW kd900 (by decide) rfl rfl 2 (by decide) eq11 (hT _ tb_1376) (fun _ h9 => h9) dX12_put_22 ?_
  refine lv_iconst (v := 1) hx hb dX12_put_25 (by decide) ?_
  refine lv_iadd hx hb dX12_put_26 (lv_topi (fun zi12 ea13 => ?_))
  have bd14 : (17 : Int) ≤ zi12.toInt ∧ zi12.toInt ≤ 1997 := b_iadd ea13 bd952 bc_1 (by decide) (by decide) (by decide) (by decide)
  have qe15 : zi12.toInt = (zi952 : Int32).toInt + (1 : Int32).toInt := e_iadd ea13 bd952 bc_1 (by decide) (by decide)
  have qe16 : zi12.toInt = zi952.toInt + 1 := by have ha : (1 : Int32).toInt = 1 := (by decide); rw [ha] at qe15; exact qe15
  refine p_put (ci := 12) (v := .int zi12) (ty := .int) (C := RX12) (T := TX12) (N := 69) hx hb hT iw_X12 tyX12 tyX12_ok nmX12 hown hK hw hS hW kd900 (by decide) rfl rfl 2 (by decide) (hT _ tb_1376) (fun _ h9 => h9) rfl (by decide +kernel) rfl rfl dX12_put_27 (fun hp17 eh18 H locs hw hS => ?_)
  have ok19 := wr_13002 bd14 (by decide) (by decide) ok10 kd900 eh18
  refine lv_iinc (v := 16) (lv' := [(2, .int 16), (0, .ref qa900), (1, .int zi901)]) hx hb dX12_put_30 hl (k := 0) rfl (by decide) (by decide) rfl (fun ls hl => ?_)
  refine lv_goto (tgt := 3) hx hb dX12_put_33 (by decide) ?_
  refine lv_iload_n hx hb dX12_put_3 rfl (lv_at hl 0 rfl) ?_
  refine lv_if_lt (tgt := 36) hx hb dX12_put_4 (by decide) (fun c => absurd c (d_nlt bc_16 bc_0 (by decide))) (fun _ => ?_)
  refine lv_aload_n hx hb dX12_put_7 rfl (lv_at hl 1 rfl) ?_
  have eq20 : hp17 qa900 1 = .ref qa2 := Eq.trans (up_at eh18 (Or.inr (by decide))) (Eq.trans (up_at eh9 (Or.inl (kd_ne kd900 kd3 (by decide)))) eq1)
  refine p_get (ci := 12) (v := .ref qa2) (C := RX12) (T := TX12) (N := 69) hx hb hT iw_X12 hown hK hw hW kd900 (by decide) rfl rfl 1 (by decide) eq20 (hT _ tb_1375) (fun _ h9 => h9) dX12_put_8 ?_
  refine lv_aload_n hx hb dX12_put_11 rfl (lv_at hl 1 rfl) ?_
  refine p_get (ci := 12) (v := .int zi12) (C := RX12) (T := TX12) (N := 69) hx hb hT iw_X12 hown hK hw hW kd900 (by decide) rfl rfl 2 (by decide) (hp_self eh18) (hT _ tb_1376) (fun _ h9 => h9) dX12_put_12 ?_
  refine lv_iload_n hx hb dX12_put_15 rfl (lv_at hl 2 rfl) ?_
  refine lv_iload_n hx hb dX12_put_16 rfl (lv_at hl 0 rfl) ?_
  refine lv_ishr hx hb dX12_put_17 (lv_topi (fun zi21 ea22 => ?_))
  refine lv_i2b hx hb dX12_put_18 rfl (lv_topi (fun zi23 ea24 => ?_))
  refine p_bast (x := zi23) hx hb hK hw hS hW kd3 (by decide) rfl (hW.len kd3 (n := 2000) rfl (by decide)) (vp_b bd14 (by decide) (by decide)) dX12_put_19 (fun hp25 eh26 H locs hw hS => ?_)
  have ok27 := wr_60000 (nar_b zi23) (by decide) (by decide) ok19 kd3 eh26
  refine lv_aload_n hx hb dX12_put_20 rfl (lv_at hl 1 rfl) ?_
  refine lv_dup hx hb dX12_put_21 rfl ?_
  have eq28 : hp25 qa900 2 = .int zi12 := Eq.trans (up_at eh26 (Or.inl (kd_ne kd900 kd3 (by decide)))) (hp_self eh18)
  refine p_get (ci := 12) (v := .int zi12) (C := RX12) (T := TX12) (N := 69) hx hb hT iw_X12 hown hK hw hW kd900 (by decide) rfl rfl 2 (by decide) eq28 (hT _ tb_1376) (fun _ h9 => h9) dX12_put_22 ?_
  refine lv_iconst (v := 1) hx hb dX12_put_25 (by decide) ?_
  refine lv_iadd hx hb dX12_put_26 (lv_topi (fun zi29 ea30 => ?_))
  have bd31 : (18 : Int) ≤ zi29.toInt ∧ zi29.toInt ≤ 1998 := b_iadd ea30 bd14 bc_1 (by decide) (by decide) (by decide) (by decide)
  have qe32 : zi29.toInt = (zi12 : Int32).toInt + (1 : Int32).toInt := e_iadd ea30 bd14 bc_1 (by decide) (by decide)
  have qe33 : zi29.toInt = zi12.toInt + 1 := by have ha : (1 : Int32).toInt = 1 := (by decide); rw [ha] at qe32; exact qe32
  refine p_put (ci := 12) (v := .int zi29) (ty := .int) (C := RX12) (T := TX12) (N := 69) hx hb hT iw_X12 tyX12 tyX12_ok nmX12 hown hK hw hS hW kd900 (by decide) rfl rfl 2 (by decide) (hT _ tb_1376) (fun _ h9 => h9) rfl (by decide +kernel) rfl rfl dX12_put_27 (fun hp34 eh35 H locs hw hS => ?_)
  have ok36 := wr_13002 bd31 (by decide) (by decide) ok27 kd900 eh35
  refine lv_iinc (v := 8) (lv' := [(2, .int 8), (0, .ref qa900), (1, .int zi901)]) hx hb dX12_put_30 hl (k := 0) rfl (by decide) (by decide) rfl (fun ls hl => ?_)
  refine lv_goto (tgt := 3) hx hb dX12_put_33 (by decide) ?_
  refine lv_iload_n hx hb dX12_put_3 rfl (lv_at hl 0 rfl) ?_
  refine lv_if_lt (tgt := 36) hx hb dX12_put_4 (by decide) (fun c => absurd c (d_nlt bc_8 bc_0 (by decide))) (fun _ => ?_)
  refine lv_aload_n hx hb dX12_put_7 rfl (lv_at hl 1 rfl) ?_
  have eq37 : hp34 qa900 1 = .ref qa2 := Eq.trans (up_at eh35 (Or.inr (by decide))) (Eq.trans (up_at eh26 (Or.inl (kd_ne kd900 kd3 (by decide)))) eq20)
  refine p_get (ci := 12) (v := .ref qa2) (C := RX12) (T := TX12) (N := 69) hx hb hT iw_X12 hown hK hw hW kd900 (by decide) rfl rfl 1 (by decide) eq37 (hT _ tb_1375) (fun _ h9 => h9) dX12_put_8 ?_
  refine lv_aload_n hx hb dX12_put_11 rfl (lv_at hl 1 rfl) ?_
  refine p_get (ci := 12) (v := .int zi29) (C := RX12) (T := TX12) (N := 69) hx hb hT iw_X12 hown hK hw hW kd900 (by decide) rfl rfl 2 (by decide) (hp_self eh35) (hT _ tb_1376) (fun _ h9 => h9) dX12_put_12 ?_
  refine lv_iload_n hx hb dX12_put_15 rfl (lv_at hl 2 rfl) ?_
  refine lv_iload_n hx hb dX12_put_16 rfl (lv_at hl 0 rfl) ?_
  refine lv_ishr hx hb dX12_put_17 (lv_topi (fun zi38 ea39 => ?_))
  refine lv_i2b hx hb dX12_put_18 rfl (lv_topi (fun zi40 ea41 => ?_))
  refine p_bast (x := zi40) hx hb hK hw hS hW kd3 (by decide) rfl (hW.len kd3 (n := 2000) rfl (by decide)) (vp_b bd31 (by decide) (by decide)) dX12_put_19 (fun hp42 eh43 H locs hw hS => ?_)
  have ok44 := wr_60000 (nar_b zi40) (by decide) (by decide) ok36 kd3 eh43
  refine lv_aload_n hx hb dX12_put_20 rfl (lv_at hl 1 rfl) ?_
  refine lv_dup hx hb dX12_put_21 rfl ?_
  have eq45 : hp42 qa900 2 = .int zi29 := Eq.trans (up_at eh43 (Or.inl (kd_ne kd900 kd3 (by decide)))) (hp_self eh35)
  refine p_get (ci := 12) (v := .int zi29) (C := RX12) (T := TX12) (N := 69) hx hb hT iw_X12 hown hK hw hW kd900 (by decide) rfl rfl 2 (by decide) eq45 (hT _ tb_1376) (fun _ h9 => h9) dX12_put_22 ?_
  refine lv_iconst (v := 1) hx hb dX12_put_25 (by decide) ?_
  refine lv_iadd hx hb dX12_put_26 (lv_topi (fun zi46 ea47 => ?_))
  have bd48 : (19 : Int) ≤ zi46.toInt ∧ zi46.toInt ≤ 1999 := b_iadd ea47 bd31 bc_1 (by decide) (by decide) (by decide) (by decide)
  have qe49 : zi46.toInt = (zi29 : Int32).toInt + (1 : Int32).toInt := e_iadd ea47 bd31 bc_1 (by decide) (by decide)
  have qe50 : zi46.toInt = zi29.toInt + 1 := by have ha : (1 : Int32).toInt = 1 := (by decide); rw [ha] at qe49; exact qe49
  refine p_put (ci := 12) (v := .int zi46) (ty := .int) (C := RX12) (T := TX12) (N := 69) hx hb hT iw_X12 tyX12 tyX12_ok nmX12 hown hK hw hS hW kd900 (by decide) rfl rfl 2 (by decide) (hT _ tb_1376) (fun _ h9 => h9) rfl (by decide +kernel) rfl rfl dX12_put_27 (fun hp51 eh52 H locs hw hS => ?_)
  have ok53 := wr_13002 bd48 (by decide) (by decide) ok44 kd900 eh52
  refine lv_iinc (v := 0) (lv' := [(2, .int 0), (0, .ref qa900), (1, .int zi901)]) hx hb dX12_put_30 hl (k := 0) rfl (by decide) (by decide) rfl (fun ls hl => ?_)
  refine lv_goto (tgt := 3) hx hb dX12_put_33 (by decide) ?_
  refine lv_iload_n hx hb dX12_put_3 rfl (lv_at hl 0 rfl) ?_
  refine lv_if_lt (tgt := 36) hx hb dX12_put_4 (by decide) (fun c => absurd c (d_nlt bc_0 bc_0 (by decide))) (fun _ => ?_)
  refine lv_aload_n hx hb dX12_put_7 rfl (lv_at hl 1 rfl) ?_
  have eq54 : hp51 qa900 1 = .ref qa2 := Eq.trans (up_at eh52 (Or.inr (by decide))) (Eq.trans (up_at eh43 (Or.inl (kd_ne kd900 kd3 (by decide)))) eq37)
  refine p_get (ci := 12) (v := .ref qa2) (C := RX12) (T := TX12) (N := 69) hx hb hT iw_X12 hown hK hw hW kd900 (by decide) rfl rfl 1 (by decide) eq54 (hT _ tb_1375) (fun _ h9 => h9) dX12_put_8 ?_
  refine lv_aload_n hx hb dX12_put_11 rfl (lv_at hl 1 rfl) ?_
  refine p_get (ci := 12) (v := .int zi46) (C := RX12) (T := TX12) (N := 69) hx hb hT iw_X12 hown hK hw hW kd900 (by decide) rfl rfl 2 (by decide) (hp_self eh52) (hT _ tb_1376) (fun _ h9 => h9) dX12_put_12 ?_
  refine lv_iload_n hx hb dX12_put_15 rfl (lv_at hl 2 rfl) ?_
  refine lv_iload_n hx hb dX12_put_16 rfl (lv_at hl 0 rfl) ?_
  refine lv_ishr hx hb dX12_put_17 (lv_topi (fun zi55 ea56 => ?_))
  refine lv_i2b hx hb dX12_put_18 rfl (lv_topi (fun zi57 ea58 => ?_))
  refine p_bast (x := zi57) hx hb hK hw hS hW kd3 (by decide) rfl (hW.len kd3 (n := 2000) rfl (by decide)) (vp_b bd48 (by decide) (by decide)) dX12_put_19 (fun hp59 eh60 H locs hw hS => ?_)
  have ok61 := wr_60000 (nar_b zi57) (by decide) (by decide) ok53 kd3 eh60
  refine lv_aload_n hx hb dX12_put_20 rfl (lv_at hl 1 rfl) ?_
  refine lv_dup hx hb dX12_put_21 rfl ?_
  have eq62 : hp59 qa900 2 = .int zi46 := Eq.trans (up_at eh60 (Or.inl (kd_ne kd900 kd3 (by decide)))) (hp_self eh52)
  refine p_get (ci := 12) (v := .int zi46) (C := RX12) (T := TX12) (N := 69) hx hb hT iw_X12 hown hK hw hW kd900 (by decide) rfl rfl 2 (by decide) eq62 (hT _ tb_1376) (fun _ h9 => h9) dX12_put_22 ?_
  refine lv_iconst (v := 1) hx hb dX12_put_25 (by decide) ?_
  refine lv_iadd hx hb dX12_put_26 (lv_topi (fun zi63 ea64 => ?_))
  have bd65 : (20 : Int) ≤ zi63.toInt ∧ zi63.toInt ≤ 2000 := b_iadd ea64 bd48 bc_1 (by decide) (by decide) (by decide) (by decide)
  have qe66 : zi63.toInt = (zi46 : Int32).toInt + (1 : Int32).toInt := e_iadd ea64 bd48 bc_1 (by decide) (by decide)
  have qe67 : zi63.toInt = zi46.toInt + 1 := by have ha : (1 : Int32).toInt = 1 := (by decide); rw [ha] at qe66; exact qe66
  refine p_put (ci := 12) (v := .int zi63) (ty := .int) (C := RX12) (T := TX12) (N := 69) hx hb hT iw_X12 tyX12 tyX12_ok nmX12 hown hK hw hS hW kd900 (by decide) rfl rfl 2 (by decide) (hT _ tb_1376) (fun _ h9 => h9) rfl (by decide +kernel) rfl rfl dX12_put_27 (fun hp68 eh69 H locs hw hS => ?_)
  have ok70 := wr_13002 bd65 (by decide) (by decide) ok61 kd900 eh69
  refine lv_iinc (v := (-8)) (lv' := [(2, .int (-8)), (0, .ref qa900), (1, .int zi901)]) hx hb dX12_put_30 hl (k := 0) rfl (by decide) (by decide) rfl (fun ls hl => ?_)
  refine lv_goto (tgt := 3) hx hb dX12_put_33 (by decide) ?_
  refine lv_iload_n hx hb dX12_put_3 rfl (lv_at hl 0 rfl) ?_
  refine lv_if_lt (tgt := 36) hx hb dX12_put_4 (by decide) (fun _ => ?_) (fun c => absurd (d_lt bc_m8 bc_0 (by decide)) c)
  rw [hQ]
  exact kz_v hx hb hr hlocks hS hp68 hw ⟨ok70, (Fr.put (cq := 13002) (Fr.put (cq := 60000) (Fr.put (cq := 13002) (Fr.put (cq := 60000) (Fr.put (cq := 13002) (Fr.put (cq := 60000) (Fr.put (cq := 13002) (Fr.put (cq := 60000) (Fr.rf) eh9 kd3 (cd_a (by decide)) (by decide)) eh18 kd900 (cd_o (by decide)) (by decide)) eh26 kd3 (cd_a (by decide)) (by decide)) eh35 kd900 (cd_o (by decide)) (by decide)) eh43 kd3 (cd_a (by decide)) (by decide)) eh52 kd900 (cd_o (by decide)) (by decide)) eh60 kd3 (cd_a (by decide)) (by decide)) eh69 kd900 (cd_o (by decide)) (by decide)), ⟨_, (hp_self eh69), b_wid2 bd65 (by decide) (by decide)⟩⟩ (Nat.le_of_ble_eq_true rfl) (Nat.le_of_ble_eq_true rfl) dX12_put_36

set_option maxRecDepth 100000 in
set_option maxHeartbeats 4000000 in
theorem cX12_feed_0 (l : Launch) (G : va_G) (cy : Nat → ClassId) (ev : Ew) (K ln : Nat → Nat) (Ls : List Nat) (hW : SW K ln Ls) (sz : Nat) (hp0 : Nat → Nat → Value) (ok0 : Ok K hp0) (qa900 : Nat) (zi901 : Int32) (zi902 : Int32) (zi903 : Int32) (zi904 : Int32) (zi905 : Int32) (kd900 : K qa900 = 13) : Met l yX12_feed (WS yX12_feed cX12_feed 6 (some .int)) { frames := 1, cells := 0, slots := 0, locals := 22 } (PB2 [.ref qa900, .int zi901, .int zi902, .int zi903, .int zi904, .int zi905] sz G cy ev (va_pl Ls (cellOf cy K ln hp0))) (QBi (S := (Nat → Nat → Value)) (fun (r : Int32) (u : (Nat → Nat → Value)) => Ok K u ∧ Fr [13002, 60000] K hp0 u ∧ ((-1 : Int) ≤ r.toInt ∧ r.toInt ≤ 2000) ∧ (∃ z : Int32, u qa900 2 = .int z ∧ ((20 : Int) ≤ z.toInt ∧ z.toInt ≤ 2000))) G (fun u => va_pl Ls (cellOf cy K ln u)) (va_A (va_pl Ls (cellOf cy K ln hp0)) sz)) 0 0 (va_A (va_pl Ls (cellOf cy K ln hp0)) sz) := by
  refine met_of2 (y := yX12_feed) (L := 6) (av := [.ref qa900, .int zi901, .int zi902, .int zi903, .int zi904, .int zi905]) (Qc := fun A => QBi (S := (Nat → Nat → Value)) (fun (r : Int32) (u : (Nat → Nat → Value)) => Ok K u ∧ Fr [13002, 60000] K hp0 u ∧ ((-1 : Int) ≤ r.toInt ∧ r.toInt ≤ 2000) ∧ (∃ z : Int32, u qa900 2 = .int z ∧ ((20 : Int) ≤ z.toInt ∧ z.toInt ≤ 2000))) G (fun u => va_pl Ls (cellOf cy K ln u)) A) (plainFor_of_name (by decide)) (Nat.le_of_ble_eq_true rfl) ?_
  intro p e s m below meth c hsz hx hb hr hml hown hT hlocks hin hK A hA hE hw hS ls hl
  have hw : PW G cy K ln Ls A hp0 s.heap := hw
  have hown : s.vm.findClass "LieClockModel" = some m.cls := hown
  have hl : lv_has ls 6 [(0, .ref qa900), (1, .int zi901), (2, .int zi902), (3, .int zi903), (4, .int zi904), (5, .int zi905)] := hl
  obtain ⟨Q, hQ⟩ : ∃ Q : State → Prop, Q = MQ below (QBi (S := (Nat → Nat → Value)) (fun (r : Int32) (u : (Nat → Nat → Value)) => Ok K u ∧ Fr [13002, 60000] K hp0 u ∧ ((-1 : Int) ≤ r.toInt ∧ r.toInt ≤ 2000) ∧ (∃ z : Int32, u qa900 2 = .int z ∧ ((20 : Int) ≤ z.toInt ∧ z.toInt ≤ 2000))) G (fun u => va_pl Ls (cellOf cy K ln u)) A) ([.ref qa900, .int zi901, .int zi902, .int zi903, .int zi904, .int zi905] : List Value).toArray s 0 0 A := ⟨_, rfl⟩
  rw [← hQ]
  refine lv_aload_n hx hb dX12_feed_0 rfl (lv_at hl 0 rfl) ?_
  obtain ⟨zi2, eq1, bd3⟩ := rd_13002 ok0 kd900
  refine p_get (ci := 12) (v := .int zi2) (C := RX12) (T := TX12) (N := 69) hx hb hT iw_X12 hown hK hw hW kd900 (by decide) rfl rfl 2 (by decide) eq1 (hT _ tb_1376) (fun _ h9 => h9) dX12_feed_1 ?_
  refine lv_bipush (v := 20) hx hb dX12_feed_4 (by decide) ?_
  refine lv_iadd hx hb dX12_feed_6 (lv_topi (fun zi4 ea5 => ?_))
  have bd6 : (20 : Int) ≤ zi4.toInt ∧ zi4.toInt ≤ 2020 := b_iadd ea5 bd3 bc_20 (by decide) (by decide) (by decide) (by decide)
  have qe7 : zi4.toInt = (zi2 : Int32).toInt + (20 : Int32).toInt := e_iadd ea5 bd3 bc_20 (by decide) (by decide)
  have qe8 : zi4.toInt = zi2.toInt + 20 := by have ha : (20 : Int32).toInt = 20 := (by decide); rw [ha] at qe7; exact qe7
  refine lv_sipush (v := 2000) hx hb dX12_feed_7 (by decide) ?_
  refine lv_icmp_le (tgt := 15) hx hb dX12_feed_10 (by decide) (fun cn9 => ?_) (fun cn9 => ?_)
  · skip
    have bd10 : (20 : Int) ≤ zi4.toInt ∧ zi4.toInt ≤ 2000 := r_le_x cn9 bd6 bc_2000 (by decide) (by decide)
    have bd11 : (0 : Int) ≤ zi2.toInt ∧ zi2.toInt ≤ 1980 := (by have := qe8; have := bd10; have := bd3; have := bc_20; omega)
    refine lv_aload_n hx hb dX12_feed_15 rfl (lv_at hl 0 rfl) ?_
    refine lv_iload_n hx hb dX12_feed_16 rfl (lv_at hl 1 rfl) ?_
    refine kq_v hw hS hA (va_runV (As := [.int zi901]) (rest := []) ⟨hx, hb, hml, hown, hT⟩ (cX12_put_0 l G cy ev K ln Ls hW _ hp0 ok0 qa900 zi901 zi2 kd900 eq1 (b_wid2 bd11 (by decide) (by decide))) (cwV 1 hT (good_V tb_1589 tb_1586 tb_1588 tb_47 tb_122) rfl rfl rfl (by decide +kernel) ⟨Nat.le_of_ble_eq_true rfl, Nat.le_of_ble_eq_true rfl⟩) (pool_preV (ci := 12) hK hE hS hA hw hW kd900 (by decide) rfl) rfl rfl hl.1 rfl (lv_room (Nat.le_of_ble_eq_true rfl)) dX12_feed_17 ⟨Nat.le_of_ble_eq_true rfl, Nat.le_of_ble_eq_true rfl⟩) (fun hp12 H locs hq15 hw hS => ?_)
    obtain ⟨ok13, F14, ⟨zi17, eq18, bd19⟩⟩ := hq15
    have hw : PW G cy K ln Ls A hp12 H := hw
    refine lv_aload_n hx hb dX12_feed_20 rfl (lv_at hl 0 rfl) ?_
    refine lv_iload_n hx hb dX12_feed_21 rfl (lv_at hl 2 rfl) ?_
    refine kq_v hw hS hA (va_runV (As := [.int zi902]) (rest := []) ⟨hx, hb, hml, hown, hT⟩ (cX12_put_1 l G cy ev K ln Ls hW _ hp12 ok13 qa900 zi902 zi17 kd900 eq18 (b_wid2 bd19 (by decide) (by decide))) (cwV 1 hT (good_V tb_1589 tb_1586 tb_1588 tb_47 tb_122) rfl rfl rfl (by decide +kernel) ⟨Nat.le_of_ble_eq_true rfl, Nat.le_of_ble_eq_true rfl⟩) (pool_preV (ci := 12) hK hE hS hA hw hW kd900 (by decide) rfl) rfl rfl hl.1 rfl (lv_room (Nat.le_of_ble_eq_true rfl)) dX12_feed_22 ⟨Nat.le_of_ble_eq_true rfl, Nat.le_of_ble_eq_true rfl⟩) (fun hp20 H locs hq23 hw hS => ?_)
    obtain ⟨ok21, F22, ⟨zi25, eq26, bd27⟩⟩ := hq23
    have hw : PW G cy K ln Ls A hp20 H := hw
    refine lv_aload_n hx hb dX12_feed_25 rfl (lv_at hl 0 rfl) ?_
    refine lv_iload_n hx hb dX12_feed_26 rfl (lv_at hl 3 rfl) ?_
    refine kq_v hw hS hA (va_runV (As := [.int zi903]) (rest := []) ⟨hx, hb, hml, hown, hT⟩ (cX12_put_2 l G cy ev K ln Ls hW _ hp20 ok21 qa900 zi903 zi25 kd900 eq26 (b_wid2 bd27 (by decide) (by decide))) (cwV 1 hT (good_V tb_1589 tb_1586 tb_1588 tb_47 tb_122) rfl rfl rfl (by decide +kernel) ⟨Nat.le_of_ble_eq_true rfl, Nat.le_of_ble_eq_true rfl⟩) (pool_preV (ci := 12) hK hE hS hA hw hW kd900 (by decide) rfl) rfl rfl hl.1 rfl (lv_room (Nat.le_of_ble_eq_true rfl)) dX12_feed_27 ⟨Nat.le_of_ble_eq_true rfl, Nat.le_of_ble_eq_true rfl⟩) (fun hp28 H locs hq31 hw hS => ?_)
    obtain ⟨ok29, F30, ⟨zi33, eq34, bd35⟩⟩ := hq31
    have hw : PW G cy K ln Ls A hp28 H := hw
    refine lv_aload_n hx hb dX12_feed_30 rfl (lv_at hl 0 rfl) ?_
    refine lv_iload hx hb dX12_feed_31 (lv_at hl 4 rfl) ?_
    refine kq_v hw hS hA (va_runV (As := [.int zi904]) (rest := []) ⟨hx, hb, hml, hown, hT⟩ (cX12_put_3 l G cy ev K ln Ls hW _ hp28 ok29 qa900 zi904 zi33 kd900 eq34 (b_wid2 bd35 (by decide) (by decide))) (cwV 1 hT (good_V tb_1589 tb_1586 tb_1588 tb_47 tb_122) rfl rfl rfl (by decide +kernel) ⟨Nat.le_of_ble_eq_true rfl, Nat.le_of_ble_eq_true rfl⟩) (pool_preV (ci := 12) hK hE hS hA hw hW kd900 (by decide) rfl) rfl rfl hl.1 rfl (lv_room (Nat.le_of_ble_eq_true rfl)) dX12_feed_33 ⟨Nat.le_of_ble_eq_true rfl, Nat.le_of_ble_eq_true rfl⟩) (fun hp36 H locs hq39 hw hS => ?_)
    obtain ⟨ok37, F38, ⟨zi41, eq42, bd43⟩⟩ := hq39
    have hw : PW G cy K ln Ls A hp36 H := hw
    refine lv_aload_n hx hb dX12_feed_36 rfl (lv_at hl 0 rfl) ?_
    refine lv_iload hx hb dX12_feed_37 (lv_at hl 5 rfl) ?_
    refine kq_v hw hS hA (va_runV (As := [.int zi905]) (rest := []) ⟨hx, hb, hml, hown, hT⟩ (cX12_put_4 l G cy ev K ln Ls hW _ hp36 ok37 qa900 zi905 zi41 kd900 eq42 (b_wid2 bd43 (by decide) (by decide))) (cwV 1 hT (good_V tb_1589 tb_1586 tb_1588 tb_47 tb_122) rfl rfl rfl (by decide +kernel) ⟨Nat.le_of_ble_eq_true rfl, Nat.le_of_ble_eq_true rfl⟩) (pool_preV (ci := 12) hK hE hS hA hw hW kd900 (by decide) rfl) rfl rfl hl.1 rfl (lv_room (Nat.le_of_ble_eq_true rfl)) dX12_feed_39 ⟨Nat.le_of_ble_eq_true rfl, Nat.le_of_ble_eq_true rfl⟩) (fun hp44 H locs hq47 hw hS => ?_)
    obtain ⟨ok45, F46, ⟨zi49, eq50, bd51⟩⟩ := hq47
    have hw : PW G cy K ln Ls A hp44 H := hw
    refine lv_aload_n hx hb dX12_feed_42 rfl (lv_at hl 0 rfl) ?_
    refine p_get (ci := 12) (v := .int zi49) (C := RX12) (T := TX12) (N := 69) hx hb hT iw_X12 hown hK hw hW kd900 (by decide) rfl rfl 2 (by decide) eq50 (hT _ tb_1376) (fun _ h9 => h9) dX12_feed_43 ?_
    rw [hQ]
    exact kz_i hx hb hr hlocks hS rfl hp44 hw ⟨ok45, (Fr.tr (Fr.tr (Fr.tr (Fr.tr (Fr.tr (Fr.rf) F14 (by decide)) F22 (by decide)) F30 (by decide)) F38 (by decide)) F46 (by decide)), (b_wid2 bd51 (by decide) (by decide)), ⟨_, eq50, b_wid2 bd51 (by decide) (by decide)⟩⟩ (Nat.le_of_ble_eq_true rfl) (Nat.le_of_ble_eq_true rfl) dX12_feed_46
  · skip
    have bd52 : (2001 : Int) ≤ zi4.toInt ∧ zi4.toInt ≤ 2020 := r_lt_y (Int32.not_le.mp cn9) bc_2000 bd6 (by decide) (by decide)
    have bd53 : (1981 : Int) ≤ zi2.toInt ∧ zi2.toInt ≤ 2000 := (by have := qe8; have := bd52; have := bd3; have := bc_20; omega)
    refine lv_iconst (v := (-1)) hx hb dX12_feed_13 (by decide) ?_
    rw [hQ]
    exact kz_i hx hb hr hlocks hS rfl hp0 hw ⟨ok0, (Fr.rf), (b_wid2 bc_m1 (by decide) (by decide)), ⟨_, eq1, b_wid2 bd53 (by decide) (by decide)⟩⟩ (Nat.le_of_ble_eq_true rfl) (Nat.le_of_ble_eq_true rfl) dX12_feed_14

set_option maxRecDepth 100000 in
set_option maxHeartbeats 4000000 in
theorem cX12_back_0 (l : Launch) (G : va_G) (cy : Nat → ClassId) (ev : Ew) (K ln : Nat → Nat) (Ls : List Nat) (hW : SW K ln Ls) (sz : Nat) (hp0 : Nat → Nat → Value) (ok0 : Ok K hp0) (qa900 : Nat) (zi901 : Int32) (kd900 : K qa900 = 13) : Met l yX12_back (WS yX12_back cX12_back 2 (some .int)) { frames := 0, cells := 0, slots := 0, locals := 0 } (PB2 [.ref qa900, .int zi901] sz G cy ev (va_pl Ls (cellOf cy K ln hp0))) (QBi (S := (Nat → Nat → Value)) (fun (r : Int32) (u : (Nat → Nat → Value)) => Ok K u ∧ Fr [13002] K hp0 u ∧ ((-1 : Int) ≤ r.toInt ∧ r.toInt ≤ 2000)) G (fun u => va_pl Ls (cellOf cy K ln u)) (va_A (va_pl Ls (cellOf cy K ln hp0)) sz)) 0 0 (va_A (va_pl Ls (cellOf cy K ln hp0)) sz) := by
  refine met_of2 (y := yX12_back) (L := 2) (av := [.ref qa900, .int zi901]) (Qc := fun A => QBi (S := (Nat → Nat → Value)) (fun (r : Int32) (u : (Nat → Nat → Value)) => Ok K u ∧ Fr [13002] K hp0 u ∧ ((-1 : Int) ≤ r.toInt ∧ r.toInt ≤ 2000)) G (fun u => va_pl Ls (cellOf cy K ln u)) A) (plainFor_of_name (by decide)) (Nat.le_of_ble_eq_true rfl) ?_
  intro p e s m below meth c hsz hx hb hr hml hown hT hlocks hin hK A hA hE hw hS ls hl
  have hw : PW G cy K ln Ls A hp0 s.heap := hw
  have hown : s.vm.findClass "LieClockModel" = some m.cls := hown
  have hl : lv_has ls 2 [(0, .ref qa900), (1, .int zi901)] := hl
  obtain ⟨Q, hQ⟩ : ∃ Q : State → Prop, Q = MQ below (QBi (S := (Nat → Nat → Value)) (fun (r : Int32) (u : (Nat → Nat → Value)) => Ok K u ∧ Fr [13002] K hp0 u ∧ ((-1 : Int) ≤ r.toInt ∧ r.toInt ≤ 2000)) G (fun u => va_pl Ls (cellOf cy K ln u)) A) ([.ref qa900, .int zi901] : List Value).toArray s 0 0 A := ⟨_, rfl⟩
  rw [← hQ]
  refine lv_iload_n hx hb dX12_back_0 rfl (lv_at hl 1 rfl) ?_
  refine lv_if_lt (tgt := 12) hx hb dX12_back_1 (by decide) (fun cn1 => ?_) (fun cn1 => ?_)
  · skip
    have bd2 : (-2147483648 : Int) ≤ zi901.toInt ∧ zi901.toInt ≤ -1 := r_lt_x cn1 (b_all zi901) bc_0 (by decide) (by decide)
    refine lv_iconst (v := (-1)) hx hb dX12_back_12 (by decide) ?_
    rw [hQ]
    exact kz_i hx hb hr hlocks hS rfl hp0 hw ⟨ok0, (Fr.rf), (b_wid2 bc_m1 (by decide) (by decide))⟩ (Nat.le_of_ble_eq_true rfl) (Nat.le_of_ble_eq_true rfl) dX12_back_13
  · skip
    have bd3 : (0 : Int) ≤ zi901.toInt ∧ zi901.toInt ≤ 2147483647 := r_le_y (Int32.not_lt.mp cn1) bc_0 (b_all zi901) (by decide) (by decide)
    refine lv_iload_n hx hb dX12_back_4 rfl (lv_at hl 1 rfl) ?_
    refine lv_aload_n hx hb dX12_back_5 rfl (lv_at hl 0 rfl) ?_
    obtain ⟨zi5, eq4, bd6⟩ := rd_13002 ok0 kd900
    refine p_get (ci := 12) (v := .int zi5) (C := RX12) (T := TX12) (N := 69) hx hb hT iw_X12 hown hK hw hW kd900 (by decide) rfl rfl 2 (by decide) eq4 (hT _ tb_1376) (fun _ h9 => h9) dX12_back_6 ?_
    refine lv_icmp_le (tgt := 14) hx hb dX12_back_9 (by decide) (fun cn7 => ?_) (fun cn7 => ?_)
    · skip
      have bd8 : (0 : Int) ≤ zi901.toInt ∧ zi901.toInt ≤ 2000 := r_le_x cn7 bd3 bd6 (by decide) (by decide)
      refine lv_aload_n hx hb dX12_back_14 rfl (lv_at hl 0 rfl) ?_
      refine lv_dup hx hb dX12_back_15 rfl ?_
      refine p_get (ci := 12) (v := .int zi5) (C := RX12) (T := TX12) (N := 69) hx hb hT iw_X12 hown hK hw hW kd900 (by decide) rfl rfl 2 (by decide) eq4 (hT _ tb_1376) (fun _ h9 => h9) dX12_back_16 ?_
      refine lv_iload_n hx hb dX12_back_19 rfl (lv_at hl 1 rfl) ?_
      refine lv_isub hx hb dX12_back_20 (lv_topi (fun zi9 ea10 => ?_))
      have bd11 : (0 : Int) ≤ zi9.toInt ∧ zi9.toInt ≤ 2000 := b_isub_le ea10 bd6 bd8 cn7 (by decide) (by decide) (by decide)
      refine p_put (ci := 12) (v := .int zi9) (ty := .int) (C := RX12) (T := TX12) (N := 69) hx hb hT iw_X12 tyX12 tyX12_ok nmX12 hown hK hw hS hW kd900 (by decide) rfl rfl 2 (by decide) (hT _ tb_1376) (fun _ h9 => h9) rfl (by decide +kernel) rfl rfl dX12_back_21 (fun hp12 eh13 H locs hw hS => ?_)
      have ok14 := wr_13002 bd11 (by decide) (by decide) ok0 kd900 eh13
      refine lv_aload_n hx hb dX12_back_24 rfl (lv_at hl 0 rfl) ?_
      refine p_get (ci := 12) (v := .int zi9) (C := RX12) (T := TX12) (N := 69) hx hb hT iw_X12 hown hK hw hW kd900 (by decide) rfl rfl 2 (by decide) (hp_self eh13) (hT _ tb_1376) (fun _ h9 => h9) dX12_back_25 ?_
      rw [hQ]
      exact kz_i hx hb hr hlocks hS rfl hp12 hw ⟨ok14, (Fr.put (cq := 13002) (Fr.rf) eh13 kd900 (cd_o (by decide)) (by decide)), (b_wid2 bd11 (by decide) (by decide))⟩ (Nat.le_of_ble_eq_true rfl) (Nat.le_of_ble_eq_true rfl) dX12_back_28
    · skip
      have bd15 : (1 : Int) ≤ zi901.toInt ∧ zi901.toInt ≤ 2147483647 := r_lt_y (Int32.not_le.mp cn7) bd6 bd3 (by decide) (by decide)
      refine lv_iconst (v := (-1)) hx hb dX12_back_12 (by decide) ?_
      rw [hQ]
      exact kz_i hx hb hr hlocks hS rfl hp0 hw ⟨ok0, (Fr.rf), (b_wid2 bc_m1 (by decide) (by decide))⟩ (Nat.le_of_ble_eq_true rfl) (Nat.le_of_ble_eq_true rfl) dX12_back_13

set_option maxRecDepth 100000 in
set_option maxHeartbeats 4000000 in
theorem cX12_byteAt_0 (l : Launch) (G : va_G) (cy : Nat → ClassId) (ev : Ew) (K ln : Nat → Nat) (Ls : List Nat) (hW : SW K ln Ls) (sz : Nat) (hp0 : Nat → Nat → Value) (ok0 : Ok K hp0) (qa900 : Nat) (zi901 : Int32) (kd900 : K qa900 = 13) (bd901 : ((0 : Int) ≤ zi901.toInt ∧ zi901.toInt ≤ 2147483647)) : Met l yX12_byteAt (WS yX12_byteAt cX12_byteAt 2 (some .int)) { frames := 0, cells := 0, slots := 0, locals := 0 } (PB2 [.ref qa900, .int zi901] sz G cy ev (va_pl Ls (cellOf cy K ln hp0))) (QBi (S := (Nat → Nat → Value)) (fun (r : Int32) (u : (Nat → Nat → Value)) => Ok K u ∧ Fr [] K hp0 u ∧ ((0 : Int) ≤ r.toInt ∧ r.toInt ≤ 255) ∧ ((1 : Int) ≤ r.toInt → ((0 : Int) ≤ zi901.toInt ∧ zi901.toInt ≤ 1999))) G (fun u => va_pl Ls (cellOf cy K ln u)) (va_A (va_pl Ls (cellOf cy K ln hp0)) sz)) 0 0 (va_A (va_pl Ls (cellOf cy K ln hp0)) sz) := by
  refine met_of2 (y := yX12_byteAt) (L := 2) (av := [.ref qa900, .int zi901]) (Qc := fun A => QBi (S := (Nat → Nat → Value)) (fun (r : Int32) (u : (Nat → Nat → Value)) => Ok K u ∧ Fr [] K hp0 u ∧ ((0 : Int) ≤ r.toInt ∧ r.toInt ≤ 255) ∧ ((1 : Int) ≤ r.toInt → ((0 : Int) ≤ zi901.toInt ∧ zi901.toInt ≤ 1999))) G (fun u => va_pl Ls (cellOf cy K ln u)) A) (plainFor_of_name (by decide)) (Nat.le_of_ble_eq_true rfl) ?_
  intro p e s m below meth c hsz hx hb hr hml hown hT hlocks hin hK A hA hE hw hS ls hl
  have hw : PW G cy K ln Ls A hp0 s.heap := hw
  have hown : s.vm.findClass "LieClockModel" = some m.cls := hown
  have hl : lv_has ls 2 [(0, .ref qa900), (1, .int zi901)] := hl
  obtain ⟨Q, hQ⟩ : ∃ Q : State → Prop, Q = MQ below (QBi (S := (Nat → Nat → Value)) (fun (r : Int32) (u : (Nat → Nat → Value)) => Ok K u ∧ Fr [] K hp0 u ∧ ((0 : Int) ≤ r.toInt ∧ r.toInt ≤ 255) ∧ ((1 : Int) ≤ r.toInt → ((0 : Int) ≤ zi901.toInt ∧ zi901.toInt ≤ 1999))) G (fun u => va_pl Ls (cellOf cy K ln u)) A) ([.ref qa900, .int zi901] : List Value).toArray s 0 0 A := ⟨_, rfl⟩
  rw [← hQ]
  refine lv_iload_n hx hb dX12_byteAt_0 rfl (lv_at hl 1 rfl) ?_
  refine lv_aload_n hx hb dX12_byteAt_1 rfl (lv_at hl 0 rfl) ?_
  obtain ⟨zi2, eq1, bd3⟩ := rd_13004 ok0 kd900
  refine p_get (ci := 12) (v := .int zi2) (C := RX12) (T := TX12) (N := 69) hx hb hT iw_X12 hown hK hw hW kd900 (by decide) rfl rfl 4 (by decide) eq1 (hT _ tb_1378) (fun _ h9 => h9) dX12_byteAt_2 ?_
  refine lv_icmp_ge (tgt := 21) hx hb dX12_byteAt_5 (by decide) (fun cn4 => ?_) (fun cn4 => ?_)
  · skip
    refine lv_iconst (v := 0) hx hb dX12_byteAt_21 (by decide) ?_
    rw [hQ]
    exact kz_i hx hb hr hlocks hS rfl hp0 hw ⟨ok0, (Fr.rf), (b_wid2 bc_0 (by decide) (by decide)), (fun h => absurd h (by have := bc_0; omega))⟩ (Nat.le_of_ble_eq_true rfl) (Nat.le_of_ble_eq_true rfl) dX12_byteAt_22
  · skip
    have bd5 : (0 : Int) ≤ zi901.toInt ∧ zi901.toInt ≤ 1999 := r_lt_x (Int32.not_le.mp cn4) bd901 bd3 (by decide) (by decide)
    have bd6 : (1 : Int) ≤ zi2.toInt ∧ zi2.toInt ≤ 2000 := r_lt_y (Int32.not_le.mp cn4) bd901 bd3 (by decide) (by decide)
    refine lv_aload_n hx hb dX12_byteAt_8 rfl (lv_at hl 0 rfl) ?_
    obtain ⟨qa8, eq7, kd9⟩ := rd_13003 ok0 kd900
    refine p_get (ci := 12) (v := .ref qa8) (C := RX12) (T := TX12) (N := 69) hx hb hT iw_X12 hown hK hw hW kd900 (by decide) rfl rfl 3 (by decide) eq7 (hT _ tb_1377) (fun _ h9 => h9) dX12_byteAt_9 ?_
    refine lv_iload_n hx hb dX12_byteAt_12 rfl (lv_at hl 1 rfl) ?_
    obtain ⟨zi11, eq10, bd12⟩ := rd_61000 ok0 kd9 ((zi901 : Int32).toNatClampNeg)
    refine p_bald (v := zi11) hx hb hK hw hW kd9 (by decide) rfl (hW.len kd9 (n := 2000) rfl (by decide)) (vp_b bd5 (by decide) (by decide)) eq10 dX12_byteAt_13 ?_
    refine lv_sipush (v := 255) hx hb dX12_byteAt_14 (by decide) ?_
    refine lv_iand hx hb dX12_byteAt_17 (lv_topi (fun zi13 ea14 => ?_))
    have bd15 : (0 : Int) ≤ zi13.toInt ∧ zi13.toInt ≤ 255 := b_and_r ea14 bc_255 (by decide) (by decide) (by decide)
    refine lv_goto (tgt := 22) hx hb dX12_byteAt_18 (by decide) ?_
    rw [hQ]
    exact kz_i hx hb hr hlocks hS rfl hp0 hw ⟨ok0, (Fr.rf), (b_wid2 bd15 (by decide) (by decide)), (fun _ => b_wid2 bd5 (by decide) (by decide))⟩ (Nat.le_of_ble_eq_true rfl) (Nat.le_of_ble_eq_true rfl) dX12_byteAt_22

set_option maxRecDepth 100000 in
set_option maxHeartbeats 4000000 in
theorem cX12_isDigit_0 (l : Launch) (G : va_G) (cy : Nat → ClassId) (ev : Ew) (K ln : Nat → Nat) (Ls : List Nat) (hW : SW K ln Ls) (sz : Nat) (hp0 : Nat → Nat → Value) (ok0 : Ok K hp0) (zi900 : Int32)  : Met l yX12_isDigit (WS yX12_isDigit cX12_isDigit 1 (some .boolean)) { frames := 0, cells := 0, slots := 0, locals := 0 } (PB2 [.int zi900] sz G cy ev (va_pl Ls (cellOf cy K ln hp0))) (QBi (S := (Nat → Nat → Value)) (fun (r : Int32) (u : (Nat → Nat → Value)) => Ok K u ∧ Fr [] K hp0 u ∧ ((0 : Int) ≤ r.toInt ∧ r.toInt ≤ 1) ∧ (r = 1 → ((48 : Int) ≤ zi900.toInt ∧ zi900.toInt ≤ 57))) G (fun u => va_pl Ls (cellOf cy K ln u)) (va_A (va_pl Ls (cellOf cy K ln hp0)) sz)) 0 0 (va_A (va_pl Ls (cellOf cy K ln hp0)) sz) := by
  refine met_of2 (y := yX12_isDigit) (L := 1) (av := [.int zi900]) (Qc := fun A => QBi (S := (Nat → Nat → Value)) (fun (r : Int32) (u : (Nat → Nat → Value)) => Ok K u ∧ Fr [] K hp0 u ∧ ((0 : Int) ≤ r.toInt ∧ r.toInt ≤ 1) ∧ (r = 1 → ((48 : Int) ≤ zi900.toInt ∧ zi900.toInt ≤ 57))) G (fun u => va_pl Ls (cellOf cy K ln u)) A) (plainFor_of_name (by decide)) (Nat.le_of_ble_eq_true rfl) ?_
  intro p e s m below meth c hsz hx hb hr hml hown hT hlocks hin hK A hA hE hw hS ls hl
  have hw : PW G cy K ln Ls A hp0 s.heap := hw
  have hown : s.vm.findClass "LieClockModel" = some m.cls := hown
  have hl : lv_has ls 1 [(0, .int zi900)] := hl
  obtain ⟨Q, hQ⟩ : ∃ Q : State → Prop, Q = MQ below (QBi (S := (Nat → Nat → Value)) (fun (r : Int32) (u : (Nat → Nat → Value)) => Ok K u ∧ Fr [] K hp0 u ∧ ((0 : Int) ≤ r.toInt ∧ r.toInt ≤ 1) ∧ (r = 1 → ((48 : Int) ≤ zi900.toInt ∧ zi900.toInt ≤ 57))) G (fun u => va_pl Ls (cellOf cy K ln u)) A) ([.int zi900] : List Value).toArray s 0 0 A := ⟨_, rfl⟩
  rw [← hQ]
  refine lv_iload_n hx hb dX12_isDigit_0 rfl (lv_at hl 0 rfl) ?_
  refine lv_bipush (v := 48) hx hb dX12_isDigit_1 (by decide) ?_
  refine lv_icmp_lt (tgt := 16) hx hb dX12_isDigit_3 (by decide) (fun cn1 => ?_) (fun cn1 => ?_)
  · skip
    have bd2 : (-2147483648 : Int) ≤ zi900.toInt ∧ zi900.toInt ≤ 47 := r_lt_x cn1 (b_all zi900) bc_48 (by decide) (by decide)
    refine lv_iconst (v := 0) hx hb dX12_isDigit_16 (by decide) ?_
    rw [hQ]
    exact kz_i hx hb hr hlocks hS (nz_n bc_0 (by decide) (by decide)) hp0 hw ⟨ok0, (Fr.rf), (b_wid2 bc_0 (by decide) (by decide)), (fun h => absurd h (by decide))⟩ (Nat.le_of_ble_eq_true rfl) (Nat.le_of_ble_eq_true rfl) dX12_isDigit_17
  · skip
    have bd3 : (48 : Int) ≤ zi900.toInt ∧ zi900.toInt ≤ 2147483647 := r_le_y (Int32.not_lt.mp cn1) bc_48 (b_all zi900) (by decide) (by decide)
    refine lv_iload_n hx hb dX12_isDigit_6 rfl (lv_at hl 0 rfl) ?_
    refine lv_bipush (v := 57) hx hb dX12_isDigit_7 (by decide) ?_
    refine lv_icmp_gt (tgt := 16) hx hb dX12_isDigit_9 (by decide) (fun cn4 => ?_) (fun cn4 => ?_)
    · skip
      have bd5 : (58 : Int) ≤ zi900.toInt ∧ zi900.toInt ≤ 2147483647 := r_lt_y cn4 bc_57 bd3 (by decide) (by decide)
      refine lv_iconst (v := 0) hx hb dX12_isDigit_16 (by decide) ?_
      rw [hQ]
      exact kz_i hx hb hr hlocks hS (nz_n bc_0 (by decide) (by decide)) hp0 hw ⟨ok0, (Fr.rf), (b_wid2 bc_0 (by decide) (by decide)), (fun h => absurd h (by decide))⟩ (Nat.le_of_ble_eq_true rfl) (Nat.le_of_ble_eq_true rfl) dX12_isDigit_17
    · skip
      have bd6 : (48 : Int) ≤ zi900.toInt ∧ zi900.toInt ≤ 57 := r_le_x (Int32.not_lt.mp cn4) bd3 bc_57 (by decide) (by decide)
      refine lv_iconst (v := 1) hx hb dX12_isDigit_12 (by decide) ?_
      refine lv_goto (tgt := 17) hx hb dX12_isDigit_13 (by decide) ?_
      rw [hQ]
      exact kz_i hx hb hr hlocks hS (nz_n bc_1 (by decide) (by decide)) hp0 hw ⟨ok0, (Fr.rf), (b_wid2 bc_1 (by decide) (by decide)), (fun _ => b_wid2 bd6 (by decide) (by decide))⟩ (Nat.le_of_ble_eq_true rfl) (Nat.le_of_ble_eq_true rfl) dX12_isDigit_17

set_option maxRecDepth 100000 in
set_option maxHeartbeats 4000000 in
theorem cX12_isLetter_0 (l : Launch) (G : va_G) (cy : Nat → ClassId) (ev : Ew) (K ln : Nat → Nat) (Ls : List Nat) (hW : SW K ln Ls) (sz : Nat) (hp0 : Nat → Nat → Value) (ok0 : Ok K hp0) (zi900 : Int32)  : Met l yX12_isLetter (WS yX12_isLetter cX12_isLetter 1 (some .boolean)) { frames := 0, cells := 0, slots := 0, locals := 0 } (PB2 [.int zi900] sz G cy ev (va_pl Ls (cellOf cy K ln hp0))) (QBi (S := (Nat → Nat → Value)) (fun (r : Int32) (u : (Nat → Nat → Value)) => Ok K u ∧ Fr [] K hp0 u ∧ ((0 : Int) ≤ r.toInt ∧ r.toInt ≤ 1) ∧ (r = 1 → ((97 : Int) ≤ zi900.toInt ∧ zi900.toInt ≤ 122))) G (fun u => va_pl Ls (cellOf cy K ln u)) (va_A (va_pl Ls (cellOf cy K ln hp0)) sz)) 0 0 (va_A (va_pl Ls (cellOf cy K ln hp0)) sz) := by
  refine met_of2 (y := yX12_isLetter) (L := 1) (av := [.int zi900]) (Qc := fun A => QBi (S := (Nat → Nat → Value)) (fun (r : Int32) (u : (Nat → Nat → Value)) => Ok K u ∧ Fr [] K hp0 u ∧ ((0 : Int) ≤ r.toInt ∧ r.toInt ≤ 1) ∧ (r = 1 → ((97 : Int) ≤ zi900.toInt ∧ zi900.toInt ≤ 122))) G (fun u => va_pl Ls (cellOf cy K ln u)) A) (plainFor_of_name (by decide)) (Nat.le_of_ble_eq_true rfl) ?_
  intro p e s m below meth c hsz hx hb hr hml hown hT hlocks hin hK A hA hE hw hS ls hl
  have hw : PW G cy K ln Ls A hp0 s.heap := hw
  have hown : s.vm.findClass "LieClockModel" = some m.cls := hown
  have hl : lv_has ls 1 [(0, .int zi900)] := hl
  obtain ⟨Q, hQ⟩ : ∃ Q : State → Prop, Q = MQ below (QBi (S := (Nat → Nat → Value)) (fun (r : Int32) (u : (Nat → Nat → Value)) => Ok K u ∧ Fr [] K hp0 u ∧ ((0 : Int) ≤ r.toInt ∧ r.toInt ≤ 1) ∧ (r = 1 → ((97 : Int) ≤ zi900.toInt ∧ zi900.toInt ≤ 122))) G (fun u => va_pl Ls (cellOf cy K ln u)) A) ([.int zi900] : List Value).toArray s 0 0 A := ⟨_, rfl⟩
  rw [← hQ]
  refine lv_iload_n hx hb dX12_isLetter_0 rfl (lv_at hl 0 rfl) ?_
  refine lv_bipush (v := 97) hx hb dX12_isLetter_1 (by decide) ?_
  refine lv_icmp_lt (tgt := 16) hx hb dX12_isLetter_3 (by decide) (fun cn1 => ?_) (fun cn1 => ?_)
  · skip
    have bd2 : (-2147483648 : Int) ≤ zi900.toInt ∧ zi900.toInt ≤ 96 := r_lt_x cn1 (b_all zi900) bc_97 (by decide) (by decide)
    refine lv_iconst (v := 0) hx hb dX12_isLetter_16 (by decide) ?_
    rw [hQ]
    exact kz_i hx hb hr hlocks hS (nz_n bc_0 (by decide) (by decide)) hp0 hw ⟨ok0, (Fr.rf), (b_wid2 bc_0 (by decide) (by decide)), (fun h => absurd h (by decide))⟩ (Nat.le_of_ble_eq_true rfl) (Nat.le_of_ble_eq_true rfl) dX12_isLetter_17
  · skip
    have bd3 : (97 : Int) ≤ zi900.toInt ∧ zi900.toInt ≤ 2147483647 := r_le_y (Int32.not_lt.mp cn1) bc_97 (b_all zi900) (by decide) (by decide)
    refine lv_iload_n hx hb dX12_isLetter_6 rfl (lv_at hl 0 rfl) ?_
    refine lv_bipush (v := 122) hx hb dX12_isLetter_7 (by decide) ?_
    refine lv_icmp_gt (tgt := 16) hx hb dX12_isLetter_9 (by decide) (fun cn4 => ?_) (fun cn4 => ?_)
    · skip
      have bd5 : (123 : Int) ≤ zi900.toInt ∧ zi900.toInt ≤ 2147483647 := r_lt_y cn4 bc_122 bd3 (by decide) (by decide)
      refine lv_iconst (v := 0) hx hb dX12_isLetter_16 (by decide) ?_
      rw [hQ]
      exact kz_i hx hb hr hlocks hS (nz_n bc_0 (by decide) (by decide)) hp0 hw ⟨ok0, (Fr.rf), (b_wid2 bc_0 (by decide) (by decide)), (fun h => absurd h (by decide))⟩ (Nat.le_of_ble_eq_true rfl) (Nat.le_of_ble_eq_true rfl) dX12_isLetter_17
    · skip
      have bd6 : (97 : Int) ≤ zi900.toInt ∧ zi900.toInt ≤ 122 := r_le_x (Int32.not_lt.mp cn4) bd3 bc_122 (by decide) (by decide)
      refine lv_iconst (v := 1) hx hb dX12_isLetter_12 (by decide) ?_
      refine lv_goto (tgt := 17) hx hb dX12_isLetter_13 (by decide) ?_
      rw [hQ]
      exact kz_i hx hb hr hlocks hS (nz_n bc_1 (by decide) (by decide)) hp0 hw ⟨ok0, (Fr.rf), (b_wid2 bc_1 (by decide) (by decide)), (fun _ => b_wid2 bd6 (by decide) (by decide))⟩ (Nat.le_of_ble_eq_true rfl) (Nat.le_of_ble_eq_true rfl) dX12_isLetter_17

set_option maxRecDepth 100000 in
set_option maxHeartbeats 4000000 in
theorem cX12_appends_0 (l : Launch) (G : va_G) (cy : Nat → ClassId) (ev : Ew) (K ln : Nat → Nat) (Ls : List Nat) (hW : SW K ln Ls) (sz : Nat) (hp0 : Nat → Nat → Value) (ok0 : Ok K hp0) (wl900 : Int64) (zi901 : Int32)  : Met l yX12_appends (WS yX12_appends cX12_appends 3 (some .long)) { frames := 0, cells := 0, slots := 0, locals := 0 } (PB2 [.long wl900, .int zi901] sz G cy ev (va_pl Ls (cellOf cy K ln hp0))) (QBl (S := (Nat → Nat → Value)) (fun (r : Int64) (u : (Nat → Nat → Value)) => Ok K u ∧ Fr [] K hp0 u) G (fun u => va_pl Ls (cellOf cy K ln u)) (va_A (va_pl Ls (cellOf cy K ln hp0)) sz)) 0 0 (va_A (va_pl Ls (cellOf cy K ln hp0)) sz) := by
  refine met_of2 (y := yX12_appends) (L := 3) (av := [.long wl900, .int zi901]) (Qc := fun A => QBl (S := (Nat → Nat → Value)) (fun (r : Int64) (u : (Nat → Nat → Value)) => Ok K u ∧ Fr [] K hp0 u) G (fun u => va_pl Ls (cellOf cy K ln u)) A) (plainFor_of_name (by decide)) (Nat.le_of_ble_eq_true rfl) ?_
  intro p e s m below meth c hsz hx hb hr hml hown hT hlocks hin hK A hA hE hw hS ls hl
  have hw : PW G cy K ln Ls A hp0 s.heap := hw
  have hown : s.vm.findClass "LieClockModel" = some m.cls := hown
  have hl : lv_has ls 3 [(0, .long wl900), (2, .int zi901)] := hl
  obtain ⟨Q, hQ⟩ : ∃ Q : State → Prop, Q = MQ below (QBl (S := (Nat → Nat → Value)) (fun (r : Int64) (u : (Nat → Nat → Value)) => Ok K u ∧ Fr [] K hp0 u) G (fun u => va_pl Ls (cellOf cy K ln u)) A) ([.long wl900, .int zi901] : List Value).toArray s 0 0 A := ⟨_, rfl⟩
  rw [← hQ]
  refine lv_iload_n hx hb dX12_appends_0 rfl (lv_at hl 1 rfl) ?_
  refine lv_if_ne (tgt := 8) hx hb dX12_appends_1 (by decide) (fun cn1 => ?_) (fun cn1 => ?_)
  · skip
    refine lv_ldc2 (v := 27) hx hb hown (hT _ tb_1374) dX12_appends_8 ?_
    refine lv_lload_n hx hb dX12_appends_11 rfl (lv_at hl 0 rfl) ?_
    refine lv_lmul hx hb dX12_appends_12 (lv_topl (fun wl2 _ => ?_))
    refine lv_iload_n hx hb dX12_appends_13 rfl (lv_at hl 1 rfl) ?_
    refine lv_bipush (v := 97) hx hb dX12_appends_14 (by decide) ?_
    refine lv_isub hx hb dX12_appends_16 (lv_topi (fun zi3 ea4 => ?_))
    refine lv_iconst (v := 1) hx hb dX12_appends_17 (by decide) ?_
    refine lv_iadd hx hb dX12_appends_18 (lv_topi (fun zi5 ea6 => ?_))
    refine lv_i2l hx hb dX12_appends_19 rfl (lv_topl (fun wl7 _ => ?_))
    refine lv_ladd hx hb dX12_appends_20 (lv_topl (fun wl8 _ => ?_))
    rw [hQ]
    exact kz_l hx hb hr hlocks hS hp0 hw ⟨ok0, (Fr.rf)⟩ (Nat.le_of_ble_eq_true rfl) (Nat.le_of_ble_eq_true rfl) dX12_appends_21
  · skip
    have bd9 : (0 : Int) ≤ zi901.toInt ∧ zi901.toInt ≤ 0 := r_eq_x cn1 (b_all zi901) bc_0 (by decide) (by decide)
    refine lv_lload_n hx hb dX12_appends_4 rfl (lv_at hl 0 rfl) ?_
    refine lv_goto (tgt := 21) hx hb dX12_appends_5 (by decide) ?_
    rw [hQ]
    exact kz_l hx hb hr hlocks hS hp0 hw ⟨ok0, (Fr.rf)⟩ (Nat.le_of_ble_eq_true rfl) (Nat.le_of_ble_eq_true rfl) dX12_appends_21

set_option maxRecDepth 100000 in
set_option maxHeartbeats 4000000 in
theorem cX12_word_0 (l : Launch) (G : va_G) (cy : Nat → ClassId) (ev : Ew) (K ln : Nat → Nat) (Ls : List Nat) (hW : SW K ln Ls) (sz : Nat) (hp0 : Nat → Nat → Value) (ok0 : Ok K hp0) (zi900 : Int32) (zi901 : Int32) (zi902 : Int32) (zi903 : Int32) (zi904 : Int32) (zi905 : Int32) (zi906 : Int32)  : Met l yX12_word (WS yX12_word cX12_word 7 (some .long)) { frames := 1, cells := 0, slots := 0, locals := 22 } (PB2 [.int zi900, .int zi901, .int zi902, .int zi903, .int zi904, .int zi905, .int zi906] sz G cy ev (va_pl Ls (cellOf cy K ln hp0))) (QBl (S := (Nat → Nat → Value)) (fun (r : Int64) (u : (Nat → Nat → Value)) => Ok K u ∧ Fr [] K hp0 u) G (fun u => va_pl Ls (cellOf cy K ln u)) (va_A (va_pl Ls (cellOf cy K ln hp0)) sz)) 0 0 (va_A (va_pl Ls (cellOf cy K ln hp0)) sz) := by
  refine met_of2 (y := yX12_word) (L := 7) (av := [.int zi900, .int zi901, .int zi902, .int zi903, .int zi904, .int zi905, .int zi906]) (Qc := fun A => QBl (S := (Nat → Nat → Value)) (fun (r : Int64) (u : (Nat → Nat → Value)) => Ok K u ∧ Fr [] K hp0 u) G (fun u => va_pl Ls (cellOf cy K ln u)) A) (plainFor_of_name (by decide)) (Nat.le_of_ble_eq_true rfl) ?_
  intro p e s m below meth c hsz hx hb hr hml hown hT hlocks hin hK A hA hE hw hS ls hl
  have hw : PW G cy K ln Ls A hp0 s.heap := hw
  have hown : s.vm.findClass "LieClockModel" = some m.cls := hown
  have hl : lv_has ls 7 [(0, .int zi900), (1, .int zi901), (2, .int zi902), (3, .int zi903), (4, .int zi904), (5, .int zi905), (6, .int zi906)] := hl
  obtain ⟨Q, hQ⟩ : ∃ Q : State → Prop, Q = MQ below (QBl (S := (Nat → Nat → Value)) (fun (r : Int64) (u : (Nat → Nat → Value)) => Ok K u ∧ Fr [] K hp0 u) G (fun u => va_pl Ls (cellOf cy K ln u)) A) ([.int zi900, .int zi901, .int zi902, .int zi903, .int zi904, .int zi905, .int zi906] : List Value).toArray s 0 0 A := ⟨_, rfl⟩
  rw [← hQ]
  refine lv_lconst (v := 0) hx hb dX12_word_0 (by decide) ?_
  refine lv_iload_n hx hb dX12_word_1 rfl (lv_at hl 0 rfl) ?_
  refine kq_l hw hS hA (va_runS (As := [.long 0, .int zi900]) (rest := []) ⟨hx, hb, hml, hown, hT⟩ (cX12_appends_0 l G cy ev K ln Ls hW _ hp0 ok0 0 zi900) (va_cwS 2 hT (good_S tb_1373 tb_1371 tb_1372 tb_122) rfl rfl rfl (by decide +kernel) ⟨Nat.le_of_ble_eq_true rfl, Nat.le_of_ble_eq_true rfl⟩) (PB2.preS hK hE hS hA hw) rfl rfl hl.1 rfl (lv_room (Nat.le_of_ble_eq_true rfl)) dX12_word_2 ⟨Nat.le_of_ble_eq_true rfl, Nat.le_of_ble_eq_true rfl⟩) (fun wl5 hp1 H locs hq4 hw hS => ?_)
  obtain ⟨ok2, F3⟩ := hq4
  obtain rfl : hp0 = hp1 := (Fr.nil F3).symm
  have hw : PW G cy K ln Ls A hp0 H := hw
  refine lv_iload_n hx hb dX12_word_5 rfl (lv_at hl 1 rfl) ?_
  refine kq_l hw hS hA (va_runS (As := [.long wl5, .int zi901]) (rest := []) ⟨hx, hb, hml, hown, hT⟩ (cX12_appends_0 l G cy ev K ln Ls hW _ hp0 ok0 wl5 zi901) (va_cwS 2 hT (good_S tb_1373 tb_1371 tb_1372 tb_122) rfl rfl rfl (by decide +kernel) ⟨Nat.le_of_ble_eq_true rfl, Nat.le_of_ble_eq_true rfl⟩) (PB2.preS hK hE hS hA hw) rfl rfl hl.1 rfl (lv_room (Nat.le_of_ble_eq_true rfl)) dX12_word_6 ⟨Nat.le_of_ble_eq_true rfl, Nat.le_of_ble_eq_true rfl⟩) (fun wl10 hp6 H locs hq9 hw hS => ?_)
  obtain ⟨ok7, F8⟩ := hq9
  obtain rfl : hp0 = hp6 := (Fr.nil F8).symm
  have hw : PW G cy K ln Ls A hp0 H := hw
  refine lv_iload_n hx hb dX12_word_9 rfl (lv_at hl 2 rfl) ?_
  refine kq_l hw hS hA (va_runS (As := [.long wl10, .int zi902]) (rest := []) ⟨hx, hb, hml, hown, hT⟩ (cX12_appends_0 l G cy ev K ln Ls hW _ hp0 ok0 wl10 zi902) (va_cwS 2 hT (good_S tb_1373 tb_1371 tb_1372 tb_122) rfl rfl rfl (by decide +kernel) ⟨Nat.le_of_ble_eq_true rfl, Nat.le_of_ble_eq_true rfl⟩) (PB2.preS hK hE hS hA hw) rfl rfl hl.1 rfl (lv_room (Nat.le_of_ble_eq_true rfl)) dX12_word_10 ⟨Nat.le_of_ble_eq_true rfl, Nat.le_of_ble_eq_true rfl⟩) (fun wl15 hp11 H locs hq14 hw hS => ?_)
  obtain ⟨ok12, F13⟩ := hq14
  obtain rfl : hp0 = hp11 := (Fr.nil F13).symm
  have hw : PW G cy K ln Ls A hp0 H := hw
  refine lv_iload_n hx hb dX12_word_13 rfl (lv_at hl 3 rfl) ?_
  refine kq_l hw hS hA (va_runS (As := [.long wl15, .int zi903]) (rest := []) ⟨hx, hb, hml, hown, hT⟩ (cX12_appends_0 l G cy ev K ln Ls hW _ hp0 ok0 wl15 zi903) (va_cwS 2 hT (good_S tb_1373 tb_1371 tb_1372 tb_122) rfl rfl rfl (by decide +kernel) ⟨Nat.le_of_ble_eq_true rfl, Nat.le_of_ble_eq_true rfl⟩) (PB2.preS hK hE hS hA hw) rfl rfl hl.1 rfl (lv_room (Nat.le_of_ble_eq_true rfl)) dX12_word_14 ⟨Nat.le_of_ble_eq_true rfl, Nat.le_of_ble_eq_true rfl⟩) (fun wl20 hp16 H locs hq19 hw hS => ?_)
  obtain ⟨ok17, F18⟩ := hq19
  obtain rfl : hp0 = hp16 := (Fr.nil F18).symm
  have hw : PW G cy K ln Ls A hp0 H := hw
  refine lv_iload hx hb dX12_word_17 (lv_at hl 4 rfl) ?_
  refine kq_l hw hS hA (va_runS (As := [.long wl20, .int zi904]) (rest := []) ⟨hx, hb, hml, hown, hT⟩ (cX12_appends_0 l G cy ev K ln Ls hW _ hp0 ok0 wl20 zi904) (va_cwS 2 hT (good_S tb_1373 tb_1371 tb_1372 tb_122) rfl rfl rfl (by decide +kernel) ⟨Nat.le_of_ble_eq_true rfl, Nat.le_of_ble_eq_true rfl⟩) (PB2.preS hK hE hS hA hw) rfl rfl hl.1 rfl (lv_room (Nat.le_of_ble_eq_true rfl)) dX12_word_19 ⟨Nat.le_of_ble_eq_true rfl, Nat.le_of_ble_eq_true rfl⟩) (fun wl25 hp21 H locs hq24 hw hS => ?_)
  obtain ⟨ok22, F23⟩ := hq24
  obtain rfl : hp0 = hp21 := (Fr.nil F23).symm
  have hw : PW G cy K ln Ls A hp0 H := hw
  refine lv_iload hx hb dX12_word_22 (lv_at hl 5 rfl) ?_
  refine kq_l hw hS hA (va_runS (As := [.long wl25, .int zi905]) (rest := []) ⟨hx, hb, hml, hown, hT⟩ (cX12_appends_0 l G cy ev K ln Ls hW _ hp0 ok0 wl25 zi905) (va_cwS 2 hT (good_S tb_1373 tb_1371 tb_1372 tb_122) rfl rfl rfl (by decide +kernel) ⟨Nat.le_of_ble_eq_true rfl, Nat.le_of_ble_eq_true rfl⟩) (PB2.preS hK hE hS hA hw) rfl rfl hl.1 rfl (lv_room (Nat.le_of_ble_eq_true rfl)) dX12_word_24 ⟨Nat.le_of_ble_eq_true rfl, Nat.le_of_ble_eq_true rfl⟩) (fun wl30 hp26 H locs hq29 hw hS => ?_)
  obtain ⟨ok27, F28⟩ := hq29
  obtain rfl : hp0 = hp26 := (Fr.nil F28).symm
  have hw : PW G cy K ln Ls A hp0 H := hw
  refine lv_iload hx hb dX12_word_27 (lv_at hl 6 rfl) ?_
  refine kq_l hw hS hA (va_runS (As := [.long wl30, .int zi906]) (rest := []) ⟨hx, hb, hml, hown, hT⟩ (cX12_appends_0 l G cy ev K ln Ls hW _ hp0 ok0 wl30 zi906) (va_cwS 2 hT (good_S tb_1373 tb_1371 tb_1372 tb_122) rfl rfl rfl (by decide +kernel) ⟨Nat.le_of_ble_eq_true rfl, Nat.le_of_ble_eq_true rfl⟩) (PB2.preS hK hE hS hA hw) rfl rfl hl.1 rfl (lv_room (Nat.le_of_ble_eq_true rfl)) dX12_word_29 ⟨Nat.le_of_ble_eq_true rfl, Nat.le_of_ble_eq_true rfl⟩) (fun wl35 hp31 H locs hq34 hw hS => ?_)
  obtain ⟨ok32, F33⟩ := hq34
  obtain rfl : hp0 = hp31 := (Fr.nil F33).symm
  have hw : PW G cy K ln Ls A hp0 H := hw
  rw [hQ]
  exact kz_l hx hb hr hlocks hS hp0 hw ⟨ok0, (Fr.rf)⟩ (Nat.le_of_ble_eq_true rfl) (Nat.le_of_ble_eq_true rfl) dX12_word_32

set_option maxRecDepth 100000 in
set_option maxHeartbeats 4000000 in
theorem cX12_token_0 (l : Launch) (G : va_G) (cy : Nat → ClassId) (ev : Ew) (K ln : Nat → Nat) (Ls : List Nat) (hW : SW K ln Ls) (sz : Nat) (hp0 : Nat → Nat → Value) (ok0 : Ok K hp0) (qa900 : Nat) (zi901 : Int32) (zi902 : Int32) (zi903 : Int32) (wl904 : Int64) (zi960 : Int32) (kd900 : K qa900 = 13) (eq960 : hp0 qa900 10 = .int zi960) (bd960 : ((0 : Int) ≤ zi960.toInt ∧ zi960.toInt ≤ 0)) : Met l yX12_token (WS yX12_token cX12_token 6 none) { frames := 0, cells := 0, slots := 0, locals := 0 } (PB2 [.ref qa900, .int zi901, .int zi902, .int zi903, .long wl904] sz G cy ev (va_pl Ls (cellOf cy K ln hp0))) (QBv (S := (Nat → Nat → Value)) (fun u : (Nat → Nat → Value) => Ok K u ∧ Fr [13010, 62000, 63000, 64000, 65000] K hp0 u ∧ (∃ z : Int32, u qa900 10 = .int z ∧ ((1 : Int) ≤ z.toInt ∧ z.toInt ≤ 1)) ∧ ((gi u qa900 10) = (gi hp0 qa900 10) + 1)) G (fun u => va_pl Ls (cellOf cy K ln u)) (va_A (va_pl Ls (cellOf cy K ln hp0)) sz)) 0 0 (va_A (va_pl Ls (cellOf cy K ln hp0)) sz) := by
  refine met_of2 (y := yX12_token) (L := 6) (av := [.ref qa900, .int zi901, .int zi902, .int zi903, .long wl904]) (Qc := fun A => QBv (S := (Nat → Nat → Value)) (fun u : (Nat → Nat → Value) => Ok K u ∧ Fr [13010, 62000, 63000, 64000, 65000] K hp0 u ∧ (∃ z : Int32, u qa900 10 = .int z ∧ ((1 : Int) ≤ z.toInt ∧ z.toInt ≤ 1)) ∧ ((gi u qa900 10) = (gi hp0 qa900 10) + 1)) G (fun u => va_pl Ls (cellOf cy K ln u)) A) (plainFor_of_name (by decide)) (Nat.le_of_ble_eq_true rfl) ?_
  intro p e s m below meth c hsz hx hb hr hml hown hT hlocks hin hK A hA hE hw hS ls hl
  have hw : PW G cy K ln Ls A hp0 s.heap := hw
  have hown : s.vm.findClass "LieClockModel" = some m.cls := hown
  have hl : lv_has ls 6 [(0, .ref qa900), (1, .int zi901), (2, .int zi902), (3, .int zi903), (4, .long wl904)] := hl
  obtain ⟨Q, hQ⟩ : ∃ Q : State → Prop, Q = MQ below (QBv (S := (Nat → Nat → Value)) (fun u : (Nat → Nat → Value) => Ok K u ∧ Fr [13010, 62000, 63000, 64000, 65000] K hp0 u ∧ (∃ z : Int32, u qa900 10 = .int z ∧ ((1 : Int) ≤ z.toInt ∧ z.toInt ≤ 1)) ∧ ((gi u qa900 10) = (gi hp0 qa900 10) + 1)) G (fun u => va_pl Ls (cellOf cy K ln u)) A) ([.ref qa900, .int zi901, .int zi902, .int zi903, .long wl904] : List Value).toArray s 0 0 A := ⟨_, rfl⟩
  rw [← hQ]
  refine lv_aload_n hx hb dX12_token_0 rfl (lv_at hl 0 rfl) ?_
  obtain ⟨qa2, eq1, kd3⟩ := rd_13005 ok0 kd900
  refine p_get (ci := 12) (v := .ref qa2) (C := RX12) (T := TX12) (N := 69) hx hb hT iw_X12 hown hK hw hW kd900 (by decide) rfl rfl 5 (by decide) eq1 (hT _ tb_1379) (fun _ h9 => h9) dX12_token_1 ?_
  refine lv_aload_n hx hb dX12_token_4 rfl (lv_at hl 0 rfl) ?_
  refine p_get (ci := 12) (v := .int zi960) (C := RX12) (T := TX12) (N := 69) hx hb hT iw_X12 hown hK hw hW kd900 (by decide) rfl rfl 10 (by decide) eq960 (hT _ tb_1384) (fun _ h9 => h9) dX12_token_5 ?_
  refine lv_iload_n hx hb dX12_token_8 rfl (lv_at hl 1 rfl) ?_
  refine p_iast (x := zi901) hx hb hK hw hS hW kd3 (by decide) rfl (hW.len kd3 (n := 403) rfl (by decide)) (vp_b bd960 (by decide) (by decide)) dX12_token_9 (fun hp4 eh5 H locs hw hS => ?_)
  have ok6 := wr_62000 ok0 kd3 eh5
  refine lv_aload_n hx hb dX12_token_10 rfl (lv_at hl 0 rfl) ?_
  obtain ⟨qa8, eq7, kd9⟩ := rd_13006 ok6 kd900
  refine p_get (ci := 12) (v := .ref qa8) (C := RX12) (T := TX12) (N := 69) hx hb hT iw_X12 hown hK hw hW kd900 (by decide) rfl rfl 6 (by decide) eq7 (hT _ tb_1380) (fun _ h9 => h9) dX12_token_11 ?_
  refine lv_aload_n hx hb dX12_token_14 rfl (lv_at hl 0 rfl) ?_
  have eq10 : hp4 qa900 10 = .int zi960 := Eq.trans (up_at eh5 (Or.inl (kd_ne kd900 kd3 (by decide)))) eq960
  refine p_get (ci := 12) (v := .int zi960) (C := RX12) (T := TX12) (N := 69) hx hb hT iw_X12 hown hK hw hW kd900 (by decide) rfl rfl 10 (by decide) eq10 (hT _ tb_1384) (fun _ h9 => h9) dX12_token_15 ?_
  refine lv_iload_n hx hb dX12_token_18 rfl (lv_at hl 2 rfl) ?_
  refine p_iast (x := zi902) hx hb hK hw hS hW kd9 (by decide) rfl (hW.len kd9 (n := 403) rfl (by decide)) (vp_b bd960 (by decide) (by decide)) dX12_token_19 (fun hp11 eh12 H locs hw hS => ?_)
  have ok13 := wr_63000 ok6 kd9 eh12
  refine lv_aload_n hx hb dX12_token_20 rfl (lv_at hl 0 rfl) ?_
  obtain ⟨qa15, eq14, kd16⟩ := rd_13007 ok13 kd900
  refine p_get (ci := 12) (v := .ref qa15) (C := RX12) (T := TX12) (N := 69) hx hb hT iw_X12 hown hK hw hW kd900 (by decide) rfl rfl 7 (by decide) eq14 (hT _ tb_1381) (fun _ h9 => h9) dX12_token_21 ?_
  refine lv_aload_n hx hb dX12_token_24 rfl (lv_at hl 0 rfl) ?_
  have eq17 : hp11 qa900 10 = .int zi960 := Eq.trans (up_at eh12 (Or.inl (kd_ne kd900 kd9 (by decide)))) eq10
  refine p_get (ci := 12) (v := .int zi960) (C := RX12) (T := TX12) (N := 69) hx hb hT iw_X12 hown hK hw hW kd900 (by decide) rfl rfl 10 (by decide) eq17 (hT _ tb_1384) (fun _ h9 => h9) dX12_token_25 ?_
  refine lv_iload_n hx hb dX12_token_28 rfl (lv_at hl 3 rfl) ?_
  refine p_iast (x := zi903) hx hb hK hw hS hW kd16 (by decide) rfl (hW.len kd16 (n := 403) rfl (by decide)) (vp_b bd960 (by decide) (by decide)) dX12_token_29 (fun hp18 eh19 H locs hw hS => ?_)
  have ok20 := wr_64000 ok13 kd16 eh19
  refine lv_aload_n hx hb dX12_token_30 rfl (lv_at hl 0 rfl) ?_
  obtain ⟨qa22, eq21, kd23⟩ := rd_13008 ok20 kd900
  refine p_get (ci := 12) (v := .ref qa22) (C := RX12) (T := TX12) (N := 69) hx hb hT iw_X12 hown hK hw hW kd900 (by decide) rfl rfl 8 (by decide) eq21 (hT _ tb_1382) (fun _ h9 => h9) dX12_token_31 ?_
  refine lv_aload_n hx hb dX12_token_34 rfl (lv_at hl 0 rfl) ?_
  have eq24 : hp18 qa900 10 = .int zi960 := Eq.trans (up_at eh19 (Or.inl (kd_ne kd900 kd16 (by decide)))) eq17
  refine p_get (ci := 12) (v := .int zi960) (C := RX12) (T := TX12) (N := 69) hx hb hT iw_X12 hown hK hw hW kd900 (by decide) rfl rfl 10 (by decide) eq24 (hT _ tb_1384) (fun _ h9 => h9) dX12_token_35 ?_
  refine lv_lload hx hb dX12_token_38 (lv_at hl 4 rfl) ?_
  refine p_last (x := wl904) hx hb hK hw hS hW kd23 (by decide) rfl (hW.len kd23 (n := 403) rfl (by decide)) (vp_b bd960 (by decide) (by decide)) dX12_token_40 (fun hp25 eh26 H locs hw hS => ?_)
  have ok27 := wr_65000 ok20 kd23 eh26
  refine lv_aload_n hx hb dX12_token_41 rfl (lv_at hl 0 rfl) ?_
  refine lv_dup hx hb dX12_token_42 rfl ?_
  have eq28 : hp25 qa900 10 = .int zi960 := Eq.trans (up_at eh26 (Or.inl (kd_ne kd900 kd23 (by decide)))) eq24
  refine p_get (ci := 12) (v := .int zi960) (C := RX12) (T := TX12) (N := 69) hx hb hT iw_X12 hown hK hw hW kd900 (by decide) rfl rfl 10 (by decide) eq28 (hT _ tb_1384) (fun _ h9 => h9) dX12_token_43 ?_
  refine lv_iconst (v := 1) hx hb dX12_token_46 (by decide) ?_
  refine lv_iadd hx hb dX12_token_47 (lv_topi (fun zi29 ea30 => ?_))
  have bd31 : (1 : Int) ≤ zi29.toInt ∧ zi29.toInt ≤ 1 := b_iadd ea30 bd960 bc_1 (by decide) (by decide) (by decide) (by decide)
  have qe32 : zi29.toInt = (zi960 : Int32).toInt + (1 : Int32).toInt := e_iadd ea30 bd960 bc_1 (by decide) (by decide)
  have qe33 : zi29.toInt = zi960.toInt + 1 := by have ha : (1 : Int32).toInt = 1 := (by decide); rw [ha] at qe32; exact qe32
  refine p_put (ci := 12) (v := .int zi29) (ty := .int) (C := RX12) (T := TX12) (N := 69) hx hb hT iw_X12 tyX12 tyX12_ok nmX12 hown hK hw hS hW kd900 (by decide) rfl rfl 10 (by decide) (hT _ tb_1384) (fun _ h9 => h9) rfl (by decide +kernel) rfl rfl dX12_token_48 (fun hp34 eh35 H locs hw hS => ?_)
  have ok36 := wr_13010 bd31 (by decide) (by decide) ok27 kd900 eh35
  rw [hQ]
  exact kz_v hx hb hr hlocks hS hp34 hw ⟨ok36, (Fr.put (cq := 13010) (Fr.put (cq := 65000) (Fr.put (cq := 64000) (Fr.put (cq := 63000) (Fr.put (cq := 62000) (Fr.rf) eh5 kd3 (cd_a (by decide)) (by decide)) eh12 kd9 (cd_a (by decide)) (by decide)) eh19 kd16 (cd_a (by decide)) (by decide)) eh26 kd23 (cd_a (by decide)) (by decide)) eh35 kd900 (cd_o (by decide)) (by decide)), ⟨_, (hp_self eh35), b_wid2 bd31 (by decide) (by decide)⟩, (by simp only [gi_of (hp_self eh35), gi_of eq960]; omega)⟩ (Nat.le_of_ble_eq_true rfl) (Nat.le_of_ble_eq_true rfl) dX12_token_51

set_option maxRecDepth 100000 in
set_option maxHeartbeats 4000000 in
theorem cX12_sign_0 (l : Launch) (G : va_G) (cy : Nat → ClassId) (ev : Ew) (K ln : Nat → Nat) (Ls : List Nat) (hW : SW K ln Ls) (sz : Nat) (hp0 : Nat → Nat → Value) (ok0 : Ok K hp0) (qa900 : Nat) (zi901 : Int32) (zi902 : Int32) (zi903 : Int32) (zi960 : Int32) (kd900 : K qa900 = 13) (eq960 : hp0 qa900 10 = .int zi960) (bd960 : ((0 : Int) ≤ zi960.toInt ∧ zi960.toInt ≤ 0)) : Met l yX12_sign (WS yX12_sign cX12_sign 5 (some .int)) { frames := 1, cells := 0, slots := 0, locals := 25 } (PB2 [.ref qa900, .int zi901, .int zi902, .int zi903] sz G cy ev (va_pl Ls (cellOf cy K ln hp0))) (QBi (S := (Nat → Nat → Value)) (fun (r : Int32) (u : (Nat → Nat → Value)) => Ok K u ∧ Fr [13010, 62000, 63000, 64000, 65000] K hp0 u ∧ ((1 : Int) ≤ r.toInt ∧ r.toInt ≤ 1) ∧ (∃ z : Int32, u qa900 10 = .int z ∧ ((1 : Int) ≤ z.toInt ∧ z.toInt ≤ 1)) ∧ ((gi u qa900 10) = (gi hp0 qa900 10) + 1)) G (fun u => va_pl Ls (cellOf cy K ln u)) (va_A (va_pl Ls (cellOf cy K ln hp0)) sz)) 0 0 (va_A (va_pl Ls (cellOf cy K ln hp0)) sz) := by
  refine met_of2 (y := yX12_sign) (L := 5) (av := [.ref qa900, .int zi901, .int zi902, .int zi903]) (Qc := fun A => QBi (S := (Nat → Nat → Value)) (fun (r : Int32) (u : (Nat → Nat → Value)) => Ok K u ∧ Fr [13010, 62000, 63000, 64000, 65000] K hp0 u ∧ ((1 : Int) ≤ r.toInt ∧ r.toInt ≤ 1) ∧ (∃ z : Int32, u qa900 10 = .int z ∧ ((1 : Int) ≤ z.toInt ∧ z.toInt ≤ 1)) ∧ ((gi u qa900 10) = (gi hp0 qa900 10) + 1)) G (fun u => va_pl Ls (cellOf cy K ln u)) A) (plainFor_of_name (by decide)) (Nat.le_of_ble_eq_true rfl) ?_
  intro p e s m below meth c hsz hx hb hr hml hown hT hlocks hin hK A hA hE hw hS ls hl
  have hw : PW G cy K ln Ls A hp0 s.heap := hw
  have hown : s.vm.findClass "LieClockModel" = some m.cls := hown
  have hl : lv_has ls 5 [(0, .ref qa900), (1, .int zi901), (2, .int zi902), (3, .int zi903)] := hl
  obtain ⟨Q, hQ⟩ : ∃ Q : State → Prop, Q = MQ below (QBi (S := (Nat → Nat → Value)) (fun (r : Int32) (u : (Nat → Nat → Value)) => Ok K u ∧ Fr [13010, 62000, 63000, 64000, 65000] K hp0 u ∧ ((1 : Int) ≤ r.toInt ∧ r.toInt ≤ 1) ∧ (∃ z : Int32, u qa900 10 = .int z ∧ ((1 : Int) ≤ z.toInt ∧ z.toInt ≤ 1)) ∧ ((gi u qa900 10) = (gi hp0 qa900 10) + 1)) G (fun u => va_pl Ls (cellOf cy K ln u)) A) ([.ref qa900, .int zi901, .int zi902, .int zi903] : List Value).toArray s 0 0 A := ⟨_, rfl⟩
  rw [← hQ]
  refine lv_iload_n hx hb dX12_sign_0 rfl (lv_at hl 2 rfl) ?_
  refine lv_bipush (v := 59) hx hb dX12_sign_1 (by decide) ?_
  have jn15 : ∀ (zi13 : Int32) (H : Heap) (locs : List Loc) (ls : Array Slot), ((3 : Int) ≤ zi13.toInt ∧ zi13.toInt ≤ 7) → lv_has ls 5 [(0, .ref qa900), (1, .int zi901), (2, .int zi902)] → PW G cy K ln Ls A hp0 H → va_S A s.heap H locs → W p l e ({ frames := 1, cells := 0, slots := 0, locals := 25 } : Room) s m ([.ref qa900, .int zi901, .int zi902, .int zi903] : List Value).toArray below meth c H locs 0 0 Q (F0 m 43 ls [.int zi13]) := by
    intro zi13 H locs ls bd14 hl hw hS
    refine lv_istore (lv' := [(4, .int zi13), (0, .ref qa900), (1, .int zi901), (2, .int zi902)]) hx hb dX12_sign_43 hl (by decide) rfl (fun ls hl => ?_)
    refine lv_iload_n hx hb dX12_sign_45 rfl (lv_at hl 3 rfl) ?_
    refine lv_bipush (v := 43) hx hb dX12_sign_46 (by decide) ?_
    have jn21 : ∀ (zi19 : Int32) (H : Heap) (locs : List Loc) (ls : Array Slot), ((3 : Int) ≤ zi19.toInt ∧ zi19.toInt ≤ 8) → lv_has ls 5 [(0, .ref qa900), (1, .int zi901), (2, .int zi902), (4, .int zi19)] → PW G cy K ln Ls A hp0 H → va_S A s.heap H locs → W p l e ({ frames := 1, cells := 0, slots := 0, locals := 25 } : Room) s m ([.ref qa900, .int zi901, .int zi902, .int zi903] : List Value).toArray below meth c H locs 0 0 Q (F0 m 55 ls []) := by
      intro zi19 H locs ls bd20 hl hw hS
      refine lv_iload_n hx hb dX12_sign_55 rfl (lv_at hl 2 rfl) ?_
      refine lv_bipush (v := 45) hx hb dX12_sign_56 (by decide) ?_
      have jn27 : ∀ (zi25 : Int32) (H : Heap) (locs : List Loc) (ls : Array Slot), ((3 : Int) ≤ zi25.toInt ∧ zi25.toInt ≤ 9) → lv_has ls 5 [(0, .ref qa900), (1, .int zi901), (2, .int zi902), (4, .int zi25)] → PW G cy K ln Ls A hp0 H → va_S A s.heap H locs → W p l e ({ frames := 1, cells := 0, slots := 0, locals := 25 } : Room) s m ([.ref qa900, .int zi901, .int zi902, .int zi903] : List Value).toArray below meth c H locs 0 0 Q (F0 m 65 ls []) := by
        intro zi25 H locs ls bd26 hl hw hS
        refine lv_iload_n hx hb dX12_sign_65 rfl (lv_at hl 2 rfl) ?_
        refine lv_bipush (v := 42) hx hb dX12_sign_66 (by decide) ?_
        have jn33 : ∀ (zi31 : Int32) (H : Heap) (locs : List Loc) (ls : Array Slot), ((3 : Int) ≤ zi31.toInt ∧ zi31.toInt ≤ 10) → lv_has ls 5 [(0, .ref qa900), (1, .int zi901), (2, .int zi902), (4, .int zi31)] → PW G cy K ln Ls A hp0 H → va_S A s.heap H locs → W p l e ({ frames := 1, cells := 0, slots := 0, locals := 25 } : Room) s m ([.ref qa900, .int zi901, .int zi902, .int zi903] : List Value).toArray below meth c H locs 0 0 Q (F0 m 75 ls []) := by
          intro zi31 H locs ls bd32 hl hw hS
          refine lv_iload_n hx hb dX12_sign_75 rfl (lv_at hl 2 rfl) ?_
          refine lv_bipush (v := 47) hx hb dX12_sign_76 (by decide) ?_
          have jn39 : ∀ (zi37 : Int32) (H : Heap) (locs : List Loc) (ls : Array Slot), ((3 : Int) ≤ zi37.toInt ∧ zi37.toInt ≤ 15) → lv_has ls 5 [(0, .ref qa900), (1, .int zi901), (4, .int zi37)] → PW G cy K ln Ls A hp0 H → va_S A s.heap H locs → W p l e ({ frames := 1, cells := 0, slots := 0, locals := 25 } : Room) s m ([.ref qa900, .int zi901, .int zi902, .int zi903] : List Value).toArray below meth c H locs 0 0 Q (F0 m 85 ls []) := by
            intro zi37 H locs ls bd38 hl hw hS
            refine lv_aload_n hx hb dX12_sign_85 rfl (lv_at hl 0 rfl) ?_
            refine lv_iload hx hb dX12_sign_86 (lv_at hl 2 rfl) ?_
            refine lv_iload_n hx hb dX12_sign_88 rfl (lv_at hl 1 rfl) ?_
            refine lv_iconst (v := 0) hx hb dX12_sign_89 (by decide) ?_
            refine lv_lconst (v := 0) hx hb dX12_sign_90 (by decide) ?_
            refine kq_v hw hS hA (va_runV (As := [.int zi37, .int zi901, .int 0, .long 0]) (rest := []) ⟨hx, hb, hml, hown, hT⟩ (cX12_token_0 l G cy ev K ln Ls hW _ hp0 ok0 qa900 zi37 zi901 0 0 zi960 kd900 eq960 (b_wid2 bd960 (by decide) (by decide))) (cwV 4 hT (good_V tb_1609 tb_1606 tb_1608 tb_50 tb_122) rfl rfl rfl (by decide +kernel) ⟨Nat.le_of_ble_eq_true rfl, Nat.le_of_ble_eq_true rfl⟩) (pool_preV (ci := 12) hK hE hS hA hw hW kd900 (by decide) rfl) rfl rfl hl.1 rfl (lv_room (Nat.le_of_ble_eq_true rfl)) dX12_sign_91 ⟨Nat.le_of_ble_eq_true rfl, Nat.le_of_ble_eq_true rfl⟩) (fun hp40 H locs hq43 hw hS => ?_)
            obtain ⟨ok41, F42, ⟨zi45, eq46, bd47⟩, rh48⟩ := hq43
            have hw : PW G cy K ln Ls A hp40 H := hw
            simp only [gi_of eq46, gi_of eq960] at rh48
            refine lv_iconst (v := 1) hx hb dX12_sign_94 (by decide) ?_
            rw [hQ]
            exact kz_i hx hb hr hlocks hS rfl hp40 hw ⟨ok41, (Fr.tr (Fr.rf) F42 (by decide)), (b_wid2 bc_1 (by decide) (by decide)), ⟨_, eq46, b_wid2 bd47 (by decide) (by decide)⟩, (by simp only [gi_of eq46, gi_of eq960]; omega)⟩ (Nat.le_of_ble_eq_true rfl) (Nat.le_of_ble_eq_true rfl) dX12_sign_95
          refine lv_icmp_ne (tgt := 85) hx hb dX12_sign_78 (by decide) (fun cn34 => ?_) (fun cn34 => ?_)
          · skip
            have tf49 : (zi902 : Int32).toInt ≠ (47 : Int32).toInt := fun e => cn34 (Int32.toInt_inj.mp e)
            have := toi bc_47
            exact jn39 zi31 _ _ ls (b_wid2 bd32 (by decide) (by decide)) (lv_sub hl [0, 1, 3] rfl) hw hS
          · skip
            have bd50 : (47 : Int) ≤ zi902.toInt ∧ zi902.toInt ≤ 47 := r_eq_x cn34 (b_all zi902) bc_47 (by decide) (by decide)
            refine lv_bipush (v := 15) hx hb dX12_sign_81 (by decide) ?_
            refine lv_istore (lv' := [(4, .int 15), (0, .ref qa900), (1, .int zi901), (2, .int zi902)]) hx hb dX12_sign_83 hl (by decide) rfl (fun ls hl => ?_)
            exact jn39 15 _ _ ls (b_wid2 bc_15 (by decide) (by decide)) (lv_sub hl [1, 2, 0] rfl) hw hS
        refine lv_icmp_ne (tgt := 75) hx hb dX12_sign_68 (by decide) (fun cn28 => ?_) (fun cn28 => ?_)
        · skip
          have tf51 : (zi902 : Int32).toInt ≠ (42 : Int32).toInt := fun e => cn28 (Int32.toInt_inj.mp e)
          have := toi bc_42
          exact jn33 zi25 _ _ ls (b_wid2 bd26 (by decide) (by decide)) (lv_sub hl [0, 1, 2, 3] rfl) hw hS
        · skip
          have bd52 : (42 : Int) ≤ zi902.toInt ∧ zi902.toInt ≤ 42 := r_eq_x cn28 (b_all zi902) bc_42 (by decide) (by decide)
          refine lv_bipush (v := 10) hx hb dX12_sign_71 (by decide) ?_
          refine lv_istore (lv' := [(4, .int 10), (0, .ref qa900), (1, .int zi901), (2, .int zi902)]) hx hb dX12_sign_73 hl (by decide) rfl (fun ls hl => ?_)
          exact jn33 10 _ _ ls (b_wid2 bc_10 (by decide) (by decide)) (lv_sub hl [1, 2, 3, 0] rfl) hw hS
      refine lv_icmp_ne (tgt := 65) hx hb dX12_sign_58 (by decide) (fun cn22 => ?_) (fun cn22 => ?_)
      · skip
        have tf53 : (zi902 : Int32).toInt ≠ (45 : Int32).toInt := fun e => cn22 (Int32.toInt_inj.mp e)
        have := toi bc_45
        exact jn27 zi19 _ _ ls (b_wid2 bd20 (by decide) (by decide)) (lv_sub hl [0, 1, 2, 3] rfl) hw hS
      · skip
        have bd54 : (45 : Int) ≤ zi902.toInt ∧ zi902.toInt ≤ 45 := r_eq_x cn22 (b_all zi902) bc_45 (by decide) (by decide)
        refine lv_bipush (v := 9) hx hb dX12_sign_61 (by decide) ?_
        refine lv_istore (lv' := [(4, .int 9), (0, .ref qa900), (1, .int zi901), (2, .int zi902)]) hx hb dX12_sign_63 hl (by decide) rfl (fun ls hl => ?_)
        exact jn27 9 _ _ ls (b_wid2 bc_9 (by decide) (by decide)) (lv_sub hl [1, 2, 3, 0] rfl) hw hS
    refine lv_icmp_ne (tgt := 55) hx hb dX12_sign_48 (by decide) (fun cn16 => ?_) (fun cn16 => ?_)
    · skip
      have tf55 : (zi902 : Int32).toInt ≠ (43 : Int32).toInt := fun e => cn16 (Int32.toInt_inj.mp e)
      have := toi bc_43
      exact jn21 zi13 _ _ ls (b_wid2 bd14 (by decide) (by decide)) (lv_sub hl [1, 2, 3, 0] rfl) hw hS
    · skip
      have bd56 : (43 : Int) ≤ zi902.toInt ∧ zi902.toInt ≤ 43 := r_eq_x cn16 (b_all zi902) bc_43 (by decide) (by decide)
      refine lv_bipush (v := 8) hx hb dX12_sign_51 (by decide) ?_
      refine lv_istore (lv' := [(4, .int 8), (0, .ref qa900), (1, .int zi901), (2, .int zi902)]) hx hb dX12_sign_53 hl (by decide) rfl (fun ls hl => ?_)
      exact jn21 8 _ _ ls (b_wid2 bc_8 (by decide) (by decide)) (lv_sub hl [1, 2, 3, 0] rfl) hw hS
  refine lv_icmp_ne (tgt := 10) hx hb dX12_sign_3 (by decide) (fun cn1 => ?_) (fun cn1 => ?_)
  · skip
    have tf57 : (zi902 : Int32).toInt ≠ (59 : Int32).toInt := fun e => cn1 (Int32.toInt_inj.mp e)
    have := toi bc_59
    refine lv_iload_n hx hb dX12_sign_10 rfl (lv_at hl 2 rfl) ?_
    refine lv_bipush (v := 61) hx hb dX12_sign_11 (by decide) ?_
    refine lv_icmp_ne (tgt := 20) hx hb dX12_sign_13 (by decide) (fun cn58 => ?_) (fun cn58 => ?_)
    · skip
      have tf59 : (zi902 : Int32).toInt ≠ (61 : Int32).toInt := fun e => cn58 (Int32.toInt_inj.mp e)
      have := toi bc_61
      refine lv_iload_n hx hb dX12_sign_20 rfl (lv_at hl 2 rfl) ?_
      refine lv_bipush (v := 40) hx hb dX12_sign_21 (by decide) ?_
      refine lv_icmp_ne (tgt := 31) hx hb dX12_sign_23 (by decide) (fun cn60 => ?_) (fun cn60 => ?_)
      · skip
        have tf61 : (zi902 : Int32).toInt ≠ (40 : Int32).toInt := fun e => cn60 (Int32.toInt_inj.mp e)
        have := toi bc_40
        refine lv_iload_n hx hb dX12_sign_31 rfl (lv_at hl 2 rfl) ?_
        refine lv_bipush (v := 41) hx hb dX12_sign_32 (by decide) ?_
        refine lv_icmp_ne (tgt := 42) hx hb dX12_sign_34 (by decide) (fun cn62 => ?_) (fun cn62 => ?_)
        · skip
          have tf63 : (zi902 : Int32).toInt ≠ (41 : Int32).toInt := fun e => cn62 (Int32.toInt_inj.mp e)
          have := toi bc_41
          refine lv_iconst (v := 3) hx hb dX12_sign_42 (by decide) ?_
          exact jn15 3 _ _ ls (b_wid2 bc_3 (by decide) (by decide)) (lv_sub hl [0, 1, 2] rfl) hw hS
        · skip
          have bd64 : (41 : Int) ≤ zi902.toInt ∧ zi902.toInt ≤ 41 := r_eq_x cn62 (b_all zi902) bc_41 (by decide) (by decide)
          refine lv_bipush (v := 7) hx hb dX12_sign_37 (by decide) ?_
          refine lv_goto (tgt := 43) hx hb dX12_sign_39 (by decide) ?_
          exact jn15 7 _ _ ls (b_wid2 bc_7 (by decide) (by decide)) (lv_sub hl [0, 1, 2] rfl) hw hS
      · skip
        have bd65 : (40 : Int) ≤ zi902.toInt ∧ zi902.toInt ≤ 40 := r_eq_x cn60 (b_all zi902) bc_40 (by decide) (by decide)
        refine lv_bipush (v := 6) hx hb dX12_sign_26 (by decide) ?_
        refine lv_goto (tgt := 43) hx hb dX12_sign_28 (by decide) ?_
        exact jn15 6 _ _ ls (b_wid2 bc_6 (by decide) (by decide)) (lv_sub hl [0, 1, 2] rfl) hw hS
    · skip
      have bd66 : (61 : Int) ≤ zi902.toInt ∧ zi902.toInt ≤ 61 := r_eq_x cn58 (b_all zi902) bc_61 (by decide) (by decide)
      refine lv_iconst (v := 5) hx hb dX12_sign_16 (by decide) ?_
      refine lv_goto (tgt := 43) hx hb dX12_sign_17 (by decide) ?_
      exact jn15 5 _ _ ls (b_wid2 bc_5 (by decide) (by decide)) (lv_sub hl [0, 1, 2] rfl) hw hS
  · skip
    have bd67 : (59 : Int) ≤ zi902.toInt ∧ zi902.toInt ≤ 59 := r_eq_x cn1 (b_all zi902) bc_59 (by decide) (by decide)
    refine lv_iconst (v := 4) hx hb dX12_sign_6 (by decide) ?_
    refine lv_goto (tgt := 43) hx hb dX12_sign_7 (by decide) ?_
    exact jn15 4 _ _ ls (b_wid2 bc_4 (by decide) (by decide)) (lv_sub hl [0, 1, 2] rfl) hw hS

set_option maxRecDepth 100000 in
set_option maxHeartbeats 4000000 in
theorem cX12_token_1 (l : Launch) (G : va_G) (cy : Nat → ClassId) (ev : Ew) (K ln : Nat → Nat) (Ls : List Nat) (hW : SW K ln Ls) (sz : Nat) (hp0 : Nat → Nat → Value) (ok0 : Ok K hp0) (qa900 : Nat) (zi901 : Int32) (zi902 : Int32) (zi903 : Int32) (wl904 : Int64) (zi960 : Int32) (kd900 : K qa900 = 13) (eq960 : hp0 qa900 10 = .int zi960) (bd960 : ((0 : Int) ≤ zi960.toInt ∧ zi960.toInt ≤ 1)) : Met l yX12_token (WS yX12_token cX12_token 6 none) { frames := 0, cells := 0, slots := 0, locals := 0 } (PB2 [.ref qa900, .int zi901, .int zi902, .int zi903, .long wl904] sz G cy ev (va_pl Ls (cellOf cy K ln hp0))) (QBv (S := (Nat → Nat → Value)) (fun u : (Nat → Nat → Value) => Ok K u ∧ Fr [13010, 62000, 63000, 64000, 65000] K hp0 u ∧ (∃ z : Int32, u qa900 10 = .int z ∧ ((1 : Int) ≤ z.toInt ∧ z.toInt ≤ 2)) ∧ ((gi u qa900 10) = (gi hp0 qa900 10) + 1)) G (fun u => va_pl Ls (cellOf cy K ln u)) (va_A (va_pl Ls (cellOf cy K ln hp0)) sz)) 0 0 (va_A (va_pl Ls (cellOf cy K ln hp0)) sz) := by
  refine met_of2 (y := yX12_token) (L := 6) (av := [.ref qa900, .int zi901, .int zi902, .int zi903, .long wl904]) (Qc := fun A => QBv (S := (Nat → Nat → Value)) (fun u : (Nat → Nat → Value) => Ok K u ∧ Fr [13010, 62000, 63000, 64000, 65000] K hp0 u ∧ (∃ z : Int32, u qa900 10 = .int z ∧ ((1 : Int) ≤ z.toInt ∧ z.toInt ≤ 2)) ∧ ((gi u qa900 10) = (gi hp0 qa900 10) + 1)) G (fun u => va_pl Ls (cellOf cy K ln u)) A) (plainFor_of_name (by decide)) (Nat.le_of_ble_eq_true rfl) ?_
  intro p e s m below meth c hsz hx hb hr hml hown hT hlocks hin hK A hA hE hw hS ls hl
  have hw : PW G cy K ln Ls A hp0 s.heap := hw
  have hown : s.vm.findClass "LieClockModel" = some m.cls := hown
  have hl : lv_has ls 6 [(0, .ref qa900), (1, .int zi901), (2, .int zi902), (3, .int zi903), (4, .long wl904)] := hl
  obtain ⟨Q, hQ⟩ : ∃ Q : State → Prop, Q = MQ below (QBv (S := (Nat → Nat → Value)) (fun u : (Nat → Nat → Value) => Ok K u ∧ Fr [13010, 62000, 63000, 64000, 65000] K hp0 u ∧ (∃ z : Int32, u qa900 10 = .int z ∧ ((1 : Int) ≤ z.toInt ∧ z.toInt ≤ 2)) ∧ ((gi u qa900 10) = (gi hp0 qa900 10) + 1)) G (fun u => va_pl Ls (cellOf cy K ln u)) A) ([.ref qa900, .int zi901, .int zi902, .int zi903, .long wl904] : List Value).toArray s 0 0 A := ⟨_, rfl⟩
  rw [← hQ]
  refine lv_aload_n hx hb dX12_token_0 rfl (lv_at hl 0 rfl) ?_
  obtain ⟨qa2, eq1, kd3⟩ := rd_13005 ok0 kd900
  refine p_get (ci := 12) (v := .ref qa2) (C := RX12) (T := TX12) (N := 69) hx hb hT iw_X12 hown hK hw hW kd900 (by decide) rfl rfl 5 (by decide) eq1 (hT _ tb_1379) (fun _ h9 => h9) dX12_token_1 ?_
  refine lv_aload_n hx hb dX12_token_4 rfl (lv_at hl 0 rfl) ?_
  refine p_get (ci := 12) (v := .int zi960) (C := RX12) (T := TX12) (N := 69) hx hb hT iw_X12 hown hK hw hW kd900 (by decide) rfl rfl 10 (by decide) eq960 (hT _ tb_1384) (fun _ h9 => h9) dX12_token_5 ?_
  refine lv_iload_n hx hb dX12_token_8 rfl (lv_at hl 1 rfl) ?_
  refine p_iast (x := zi901) hx hb hK hw hS hW kd3 (by decide) rfl (hW.len kd3 (n := 403) rfl (by decide)) (vp_b bd960 (by decide) (by decide)) dX12_token_9 (fun hp4 eh5 H locs hw hS => ?_)
  have ok6 := wr_62000 ok0 kd3 eh5
  refine lv_aload_n hx hb dX12_token_10 rfl (lv_at hl 0 rfl) ?_
  obtain ⟨qa8, eq7, kd9⟩ := rd_13006 ok6 kd900
  refine p_get (ci := 12) (v := .ref qa8) (C := RX12) (T := TX12) (N := 69) hx hb hT iw_X12 hown hK hw hW kd900 (by decide) rfl rfl 6 (by decide) eq7 (hT _ tb_1380) (fun _ h9 => h9) dX12_token_11 ?_
  refine lv_aload_n hx hb dX12_token_14 rfl (lv_at hl 0 rfl) ?_
  have eq10 : hp4 qa900 10 = .int zi960 := Eq.trans (up_at eh5 (Or.inl (kd_ne kd900 kd3 (by decide)))) eq960
  refine p_get (ci := 12) (v := .int zi960) (C := RX12) (T := TX12) (N := 69) hx hb hT iw_X12 hown hK hw hW kd900 (by decide) rfl rfl 10 (by decide) eq10 (hT _ tb_1384) (fun _ h9 => h9) dX12_token_15 ?_
  refine lv_iload_n hx hb dX12_token_18 rfl (lv_at hl 2 rfl) ?_
  refine p_iast (x := zi902) hx hb hK hw hS hW kd9 (by decide) rfl (hW.len kd9 (n := 403) rfl (by decide)) (vp_b bd960 (by decide) (by decide)) dX12_token_19 (fun hp11 eh12 H locs hw hS => ?_)
  have ok13 := wr_63000 ok6 kd9 eh12
  refine lv_aload_n hx hb dX12_token_20 rfl (lv_at hl 0 rfl) ?_
  obtain ⟨qa15, eq14, kd16⟩ := rd_13007 ok13 kd900
  refine p_get (ci := 12) (v := .ref qa15) (C := RX12) (T := TX12) (N := 69) hx hb hT iw_X12 hown hK hw hW kd900 (by decide) rfl rfl 7 (by decide) eq14 (hT _ tb_1381) (fun _ h9 => h9) dX12_token_21 ?_
  refine lv_aload_n hx hb dX12_token_24 rfl (lv_at hl 0 rfl) ?_
  have eq17 : hp11 qa900 10 = .int zi960 := Eq.trans (up_at eh12 (Or.inl (kd_ne kd900 kd9 (by decide)))) eq10
  refine p_get (ci := 12) (v := .int zi960) (C := RX12) (T := TX12) (N := 69) hx hb hT iw_X12 hown hK hw hW kd900 (by decide) rfl rfl 10 (by decide) eq17 (hT _ tb_1384) (fun _ h9 => h9) dX12_token_25 ?_
  refine lv_iload_n hx hb dX12_token_28 rfl (lv_at hl 3 rfl) ?_
  refine p_iast (x := zi903) hx hb hK hw hS hW kd16 (by decide) rfl (hW.len kd16 (n := 403) rfl (by decide)) (vp_b bd960 (by decide) (by decide)) dX12_token_29 (fun hp18 eh19 H locs hw hS => ?_)
  have ok20 := wr_64000 ok13 kd16 eh19
  refine lv_aload_n hx hb dX12_token_30 rfl (lv_at hl 0 rfl) ?_
  obtain ⟨qa22, eq21, kd23⟩ := rd_13008 ok20 kd900
  refine p_get (ci := 12) (v := .ref qa22) (C := RX12) (T := TX12) (N := 69) hx hb hT iw_X12 hown hK hw hW kd900 (by decide) rfl rfl 8 (by decide) eq21 (hT _ tb_1382) (fun _ h9 => h9) dX12_token_31 ?_
  refine lv_aload_n hx hb dX12_token_34 rfl (lv_at hl 0 rfl) ?_
  have eq24 : hp18 qa900 10 = .int zi960 := Eq.trans (up_at eh19 (Or.inl (kd_ne kd900 kd16 (by decide)))) eq17
  refine p_get (ci := 12) (v := .int zi960) (C := RX12) (T := TX12) (N := 69) hx hb hT iw_X12 hown hK hw hW kd900 (by decide) rfl rfl 10 (by decide) eq24 (hT _ tb_1384) (fun _ h9 => h9) dX12_token_35 ?_
  refine lv_lload hx hb dX12_token_38 (lv_at hl 4 rfl) ?_
  refine p_last (x := wl904) hx hb hK hw hS hW kd23 (by decide) rfl (hW.len kd23 (n := 403) rfl (by decide)) (vp_b bd960 (by decide) (by decide)) dX12_token_40 (fun hp25 eh26 H locs hw hS => ?_)
  have ok27 := wr_65000 ok20 kd23 eh26
  refine lv_aload_n hx hb dX12_token_41 rfl (lv_at hl 0 rfl) ?_
  refine lv_dup hx hb dX12_token_42 rfl ?_
  have eq28 : hp25 qa900 10 = .int zi960 := Eq.trans (up_at eh26 (Or.inl (kd_ne kd900 kd23 (by decide)))) eq24
  refine p_get (ci := 12) (v := .int zi960) (C := RX12) (T := TX12) (N := 69) hx hb hT iw_X12 hown hK hw hW kd900 (by decide) rfl rfl 10 (by decide) eq28 (hT _ tb_1384) (fun _ h9 => h9) dX12_token_43 ?_
  refine lv_iconst (v := 1) hx hb dX12_token_46 (by decide) ?_
  refine lv_iadd hx hb dX12_token_47 (lv_topi (fun zi29 ea30 => ?_))
  have bd31 : (1 : Int) ≤ zi29.toInt ∧ zi29.toInt ≤ 2 := b_iadd ea30 bd960 bc_1 (by decide) (by decide) (by decide) (by decide)
  have qe32 : zi29.toInt = (zi960 : Int32).toInt + (1 : Int32).toInt := e_iadd ea30 bd960 bc_1 (by decide) (by decide)
  have qe33 : zi29.toInt = zi960.toInt + 1 := by have ha : (1 : Int32).toInt = 1 := (by decide); rw [ha] at qe32; exact qe32
  refine p_put (ci := 12) (v := .int zi29) (ty := .int) (C := RX12) (T := TX12) (N := 69) hx hb hT iw_X12 tyX12 tyX12_ok nmX12 hown hK hw hS hW kd900 (by decide) rfl rfl 10 (by decide) (hT _ tb_1384) (fun _ h9 => h9) rfl (by decide +kernel) rfl rfl dX12_token_48 (fun hp34 eh35 H locs hw hS => ?_)
  have ok36 := wr_13010 bd31 (by decide) (by decide) ok27 kd900 eh35
  rw [hQ]
  exact kz_v hx hb hr hlocks hS hp34 hw ⟨ok36, (Fr.put (cq := 13010) (Fr.put (cq := 65000) (Fr.put (cq := 64000) (Fr.put (cq := 63000) (Fr.put (cq := 62000) (Fr.rf) eh5 kd3 (cd_a (by decide)) (by decide)) eh12 kd9 (cd_a (by decide)) (by decide)) eh19 kd16 (cd_a (by decide)) (by decide)) eh26 kd23 (cd_a (by decide)) (by decide)) eh35 kd900 (cd_o (by decide)) (by decide)), ⟨_, (hp_self eh35), b_wid2 bd31 (by decide) (by decide)⟩, (by simp only [gi_of (hp_self eh35), gi_of eq960]; omega)⟩ (Nat.le_of_ble_eq_true rfl) (Nat.le_of_ble_eq_true rfl) dX12_token_51

set_option maxRecDepth 100000 in
set_option maxHeartbeats 4000000 in
theorem cX12_sign_1 (l : Launch) (G : va_G) (cy : Nat → ClassId) (ev : Ew) (K ln : Nat → Nat) (Ls : List Nat) (hW : SW K ln Ls) (sz : Nat) (hp0 : Nat → Nat → Value) (ok0 : Ok K hp0) (qa900 : Nat) (zi901 : Int32) (zi902 : Int32) (zi903 : Int32) (zi960 : Int32) (kd900 : K qa900 = 13) (eq960 : hp0 qa900 10 = .int zi960) (bd960 : ((0 : Int) ≤ zi960.toInt ∧ zi960.toInt ≤ 1)) : Met l yX12_sign (WS yX12_sign cX12_sign 5 (some .int)) { frames := 1, cells := 0, slots := 0, locals := 25 } (PB2 [.ref qa900, .int zi901, .int zi902, .int zi903] sz G cy ev (va_pl Ls (cellOf cy K ln hp0))) (QBi (S := (Nat → Nat → Value)) (fun (r : Int32) (u : (Nat → Nat → Value)) => Ok K u ∧ Fr [13010, 62000, 63000, 64000, 65000] K hp0 u ∧ ((1 : Int) ≤ r.toInt ∧ r.toInt ≤ 1) ∧ (∃ z : Int32, u qa900 10 = .int z ∧ ((1 : Int) ≤ z.toInt ∧ z.toInt ≤ 2)) ∧ ((gi u qa900 10) = (gi hp0 qa900 10) + 1)) G (fun u => va_pl Ls (cellOf cy K ln u)) (va_A (va_pl Ls (cellOf cy K ln hp0)) sz)) 0 0 (va_A (va_pl Ls (cellOf cy K ln hp0)) sz) := by
  refine met_of2 (y := yX12_sign) (L := 5) (av := [.ref qa900, .int zi901, .int zi902, .int zi903]) (Qc := fun A => QBi (S := (Nat → Nat → Value)) (fun (r : Int32) (u : (Nat → Nat → Value)) => Ok K u ∧ Fr [13010, 62000, 63000, 64000, 65000] K hp0 u ∧ ((1 : Int) ≤ r.toInt ∧ r.toInt ≤ 1) ∧ (∃ z : Int32, u qa900 10 = .int z ∧ ((1 : Int) ≤ z.toInt ∧ z.toInt ≤ 2)) ∧ ((gi u qa900 10) = (gi hp0 qa900 10) + 1)) G (fun u => va_pl Ls (cellOf cy K ln u)) A) (plainFor_of_name (by decide)) (Nat.le_of_ble_eq_true rfl) ?_
  intro p e s m below meth c hsz hx hb hr hml hown hT hlocks hin hK A hA hE hw hS ls hl
  have hw : PW G cy K ln Ls A hp0 s.heap := hw
  have hown : s.vm.findClass "LieClockModel" = some m.cls := hown
  have hl : lv_has ls 5 [(0, .ref qa900), (1, .int zi901), (2, .int zi902), (3, .int zi903)] := hl
  obtain ⟨Q, hQ⟩ : ∃ Q : State → Prop, Q = MQ below (QBi (S := (Nat → Nat → Value)) (fun (r : Int32) (u : (Nat → Nat → Value)) => Ok K u ∧ Fr [13010, 62000, 63000, 64000, 65000] K hp0 u ∧ ((1 : Int) ≤ r.toInt ∧ r.toInt ≤ 1) ∧ (∃ z : Int32, u qa900 10 = .int z ∧ ((1 : Int) ≤ z.toInt ∧ z.toInt ≤ 2)) ∧ ((gi u qa900 10) = (gi hp0 qa900 10) + 1)) G (fun u => va_pl Ls (cellOf cy K ln u)) A) ([.ref qa900, .int zi901, .int zi902, .int zi903] : List Value).toArray s 0 0 A := ⟨_, rfl⟩
  rw [← hQ]
  refine lv_iload_n hx hb dX12_sign_0 rfl (lv_at hl 2 rfl) ?_
  refine lv_bipush (v := 59) hx hb dX12_sign_1 (by decide) ?_
  have jn15 : ∀ (zi13 : Int32) (H : Heap) (locs : List Loc) (ls : Array Slot), ((3 : Int) ≤ zi13.toInt ∧ zi13.toInt ≤ 7) → lv_has ls 5 [(0, .ref qa900), (1, .int zi901), (2, .int zi902)] → PW G cy K ln Ls A hp0 H → va_S A s.heap H locs → W p l e ({ frames := 1, cells := 0, slots := 0, locals := 25 } : Room) s m ([.ref qa900, .int zi901, .int zi902, .int zi903] : List Value).toArray below meth c H locs 0 0 Q (F0 m 43 ls [.int zi13]) := by
    intro zi13 H locs ls bd14 hl hw hS
    refine lv_istore (lv' := [(4, .int zi13), (0, .ref qa900), (1, .int zi901), (2, .int zi902)]) hx hb dX12_sign_43 hl (by decide) rfl (fun ls hl => ?_)
    refine lv_iload_n hx hb dX12_sign_45 rfl (lv_at hl 3 rfl) ?_
    refine lv_bipush (v := 43) hx hb dX12_sign_46 (by decide) ?_
    have jn21 : ∀ (zi19 : Int32) (H : Heap) (locs : List Loc) (ls : Array Slot), ((3 : Int) ≤ zi19.toInt ∧ zi19.toInt ≤ 8) → lv_has ls 5 [(0, .ref qa900), (1, .int zi901), (2, .int zi902), (4, .int zi19)] → PW G cy K ln Ls A hp0 H → va_S A s.heap H locs → W p l e ({ frames := 1, cells := 0, slots := 0, locals := 25 } : Room) s m ([.ref qa900, .int zi901, .int zi902, .int zi903] : List Value).toArray below meth c H locs 0 0 Q (F0 m 55 ls []) := by
      intro zi19 H locs ls bd20 hl hw hS
      refine lv_iload_n hx hb dX12_sign_55 rfl (lv_at hl 2 rfl) ?_
      refine lv_bipush (v := 45) hx hb dX12_sign_56 (by decide) ?_
      have jn27 : ∀ (zi25 : Int32) (H : Heap) (locs : List Loc) (ls : Array Slot), ((3 : Int) ≤ zi25.toInt ∧ zi25.toInt ≤ 9) → lv_has ls 5 [(0, .ref qa900), (1, .int zi901), (2, .int zi902), (4, .int zi25)] → PW G cy K ln Ls A hp0 H → va_S A s.heap H locs → W p l e ({ frames := 1, cells := 0, slots := 0, locals := 25 } : Room) s m ([.ref qa900, .int zi901, .int zi902, .int zi903] : List Value).toArray below meth c H locs 0 0 Q (F0 m 65 ls []) := by
        intro zi25 H locs ls bd26 hl hw hS
        refine lv_iload_n hx hb dX12_sign_65 rfl (lv_at hl 2 rfl) ?_
        refine lv_bipush (v := 42) hx hb dX12_sign_66 (by decide) ?_
        have jn33 : ∀ (zi31 : Int32) (H : Heap) (locs : List Loc) (ls : Array Slot), ((3 : Int) ≤ zi31.toInt ∧ zi31.toInt ≤ 10) → lv_has ls 5 [(0, .ref qa900), (1, .int zi901), (2, .int zi902), (4, .int zi31)] → PW G cy K ln Ls A hp0 H → va_S A s.heap H locs → W p l e ({ frames := 1, cells := 0, slots := 0, locals := 25 } : Room) s m ([.ref qa900, .int zi901, .int zi902, .int zi903] : List Value).toArray below meth c H locs 0 0 Q (F0 m 75 ls []) := by
          intro zi31 H locs ls bd32 hl hw hS
          refine lv_iload_n hx hb dX12_sign_75 rfl (lv_at hl 2 rfl) ?_
          refine lv_bipush (v := 47) hx hb dX12_sign_76 (by decide) ?_
          have jn39 : ∀ (zi37 : Int32) (H : Heap) (locs : List Loc) (ls : Array Slot), ((3 : Int) ≤ zi37.toInt ∧ zi37.toInt ≤ 15) → lv_has ls 5 [(0, .ref qa900), (1, .int zi901), (4, .int zi37)] → PW G cy K ln Ls A hp0 H → va_S A s.heap H locs → W p l e ({ frames := 1, cells := 0, slots := 0, locals := 25 } : Room) s m ([.ref qa900, .int zi901, .int zi902, .int zi903] : List Value).toArray below meth c H locs 0 0 Q (F0 m 85 ls []) := by
            intro zi37 H locs ls bd38 hl hw hS
            refine lv_aload_n hx hb dX12_sign_85 rfl (lv_at hl 0 rfl) ?_
            refine lv_iload hx hb dX12_sign_86 (lv_at hl 2 rfl) ?_
            refine lv_iload_n hx hb dX12_sign_88 rfl (lv_at hl 1 rfl) ?_
            refine lv_iconst (v := 0) hx hb dX12_sign_89 (by decide) ?_
            refine lv_lconst (v := 0) hx hb dX12_sign_90 (by decide) ?_
            refine kq_v hw hS hA (va_runV (As := [.int zi37, .int zi901, .int 0, .long 0]) (rest := []) ⟨hx, hb, hml, hown, hT⟩ (cX12_token_1 l G cy ev K ln Ls hW _ hp0 ok0 qa900 zi37 zi901 0 0 zi960 kd900 eq960 (b_wid2 bd960 (by decide) (by decide))) (cwV 4 hT (good_V tb_1609 tb_1606 tb_1608 tb_50 tb_122) rfl rfl rfl (by decide +kernel) ⟨Nat.le_of_ble_eq_true rfl, Nat.le_of_ble_eq_true rfl⟩) (pool_preV (ci := 12) hK hE hS hA hw hW kd900 (by decide) rfl) rfl rfl hl.1 rfl (lv_room (Nat.le_of_ble_eq_true rfl)) dX12_sign_91 ⟨Nat.le_of_ble_eq_true rfl, Nat.le_of_ble_eq_true rfl⟩) (fun hp40 H locs hq43 hw hS => ?_)
            obtain ⟨ok41, F42, ⟨zi45, eq46, bd47⟩, rh48⟩ := hq43
            have hw : PW G cy K ln Ls A hp40 H := hw
            simp only [gi_of eq46, gi_of eq960] at rh48
            refine lv_iconst (v := 1) hx hb dX12_sign_94 (by decide) ?_
            rw [hQ]
            exact kz_i hx hb hr hlocks hS rfl hp40 hw ⟨ok41, (Fr.tr (Fr.rf) F42 (by decide)), (b_wid2 bc_1 (by decide) (by decide)), ⟨_, eq46, b_wid2 bd47 (by decide) (by decide)⟩, (by simp only [gi_of eq46, gi_of eq960]; omega)⟩ (Nat.le_of_ble_eq_true rfl) (Nat.le_of_ble_eq_true rfl) dX12_sign_95
          refine lv_icmp_ne (tgt := 85) hx hb dX12_sign_78 (by decide) (fun cn34 => ?_) (fun cn34 => ?_)
          · skip
            have tf49 : (zi902 : Int32).toInt ≠ (47 : Int32).toInt := fun e => cn34 (Int32.toInt_inj.mp e)
            have := toi bc_47
            exact jn39 zi31 _ _ ls (b_wid2 bd32 (by decide) (by decide)) (lv_sub hl [0, 1, 3] rfl) hw hS
          · skip
            have bd50 : (47 : Int) ≤ zi902.toInt ∧ zi902.toInt ≤ 47 := r_eq_x cn34 (b_all zi902) bc_47 (by decide) (by decide)
            refine lv_bipush (v := 15) hx hb dX12_sign_81 (by decide) ?_
            refine lv_istore (lv' := [(4, .int 15), (0, .ref qa900), (1, .int zi901), (2, .int zi902)]) hx hb dX12_sign_83 hl (by decide) rfl (fun ls hl => ?_)
            exact jn39 15 _ _ ls (b_wid2 bc_15 (by decide) (by decide)) (lv_sub hl [1, 2, 0] rfl) hw hS
        refine lv_icmp_ne (tgt := 75) hx hb dX12_sign_68 (by decide) (fun cn28 => ?_) (fun cn28 => ?_)
        · skip
          have tf51 : (zi902 : Int32).toInt ≠ (42 : Int32).toInt := fun e => cn28 (Int32.toInt_inj.mp e)
          have := toi bc_42
          exact jn33 zi25 _ _ ls (b_wid2 bd26 (by decide) (by decide)) (lv_sub hl [0, 1, 2, 3] rfl) hw hS
        · skip
          have bd52 : (42 : Int) ≤ zi902.toInt ∧ zi902.toInt ≤ 42 := r_eq_x cn28 (b_all zi902) bc_42 (by decide) (by decide)
          refine lv_bipush (v := 10) hx hb dX12_sign_71 (by decide) ?_
          refine lv_istore (lv' := [(4, .int 10), (0, .ref qa900), (1, .int zi901), (2, .int zi902)]) hx hb dX12_sign_73 hl (by decide) rfl (fun ls hl => ?_)
          exact jn33 10 _ _ ls (b_wid2 bc_10 (by decide) (by decide)) (lv_sub hl [1, 2, 3, 0] rfl) hw hS
      refine lv_icmp_ne (tgt := 65) hx hb dX12_sign_58 (by decide) (fun cn22 => ?_) (fun cn22 => ?_)
      · skip
        have tf53 : (zi902 : Int32).toInt ≠ (45 : Int32).toInt := fun e => cn22 (Int32.toInt_inj.mp e)
        have := toi bc_45
        exact jn27 zi19 _ _ ls (b_wid2 bd20 (by decide) (by decide)) (lv_sub hl [0, 1, 2, 3] rfl) hw hS
      · skip
        have bd54 : (45 : Int) ≤ zi902.toInt ∧ zi902.toInt ≤ 45 := r_eq_x cn22 (b_all zi902) bc_45 (by decide) (by decide)
        refine lv_bipush (v := 9) hx hb dX12_sign_61 (by decide) ?_
        refine lv_istore (lv' := [(4, .int 9), (0, .ref qa900), (1, .int zi901), (2, .int zi902)]) hx hb dX12_sign_63 hl (by decide) rfl (fun ls hl => ?_)
        exact jn27 9 _ _ ls (b_wid2 bc_9 (by decide) (by decide)) (lv_sub hl [1, 2, 3, 0] rfl) hw hS
    refine lv_icmp_ne (tgt := 55) hx hb dX12_sign_48 (by decide) (fun cn16 => ?_) (fun cn16 => ?_)
    · skip
      have tf55 : (zi902 : Int32).toInt ≠ (43 : Int32).toInt := fun e => cn16 (Int32.toInt_inj.mp e)
      have := toi bc_43
      exact jn21 zi13 _ _ ls (b_wid2 bd14 (by decide) (by decide)) (lv_sub hl [1, 2, 3, 0] rfl) hw hS
    · skip
      have bd56 : (43 : Int) ≤ zi902.toInt ∧ zi902.toInt ≤ 43 := r_eq_x cn16 (b_all zi902) bc_43 (by decide) (by decide)
      refine lv_bipush (v := 8) hx hb dX12_sign_51 (by decide) ?_
      refine lv_istore (lv' := [(4, .int 8), (0, .ref qa900), (1, .int zi901), (2, .int zi902)]) hx hb dX12_sign_53 hl (by decide) rfl (fun ls hl => ?_)
      exact jn21 8 _ _ ls (b_wid2 bc_8 (by decide) (by decide)) (lv_sub hl [1, 2, 3, 0] rfl) hw hS
  refine lv_icmp_ne (tgt := 10) hx hb dX12_sign_3 (by decide) (fun cn1 => ?_) (fun cn1 => ?_)
  · skip
    have tf57 : (zi902 : Int32).toInt ≠ (59 : Int32).toInt := fun e => cn1 (Int32.toInt_inj.mp e)
    have := toi bc_59
    refine lv_iload_n hx hb dX12_sign_10 rfl (lv_at hl 2 rfl) ?_
    refine lv_bipush (v := 61) hx hb dX12_sign_11 (by decide) ?_
    refine lv_icmp_ne (tgt := 20) hx hb dX12_sign_13 (by decide) (fun cn58 => ?_) (fun cn58 => ?_)
    · skip
      have tf59 : (zi902 : Int32).toInt ≠ (61 : Int32).toInt := fun e => cn58 (Int32.toInt_inj.mp e)
      have := toi bc_61
      refine lv_iload_n hx hb dX12_sign_20 rfl (lv_at hl 2 rfl) ?_
      refine lv_bipush (v := 40) hx hb dX12_sign_21 (by decide) ?_
      refine lv_icmp_ne (tgt := 31) hx hb dX12_sign_23 (by decide) (fun cn60 => ?_) (fun cn60 => ?_)
      · skip
        have tf61 : (zi902 : Int32).toInt ≠ (40 : Int32).toInt := fun e => cn60 (Int32.toInt_inj.mp e)
        have := toi bc_40
        refine lv_iload_n hx hb dX12_sign_31 rfl (lv_at hl 2 rfl) ?_
        refine lv_bipush (v := 41) hx hb dX12_sign_32 (by decide) ?_
        refine lv_icmp_ne (tgt := 42) hx hb dX12_sign_34 (by decide) (fun cn62 => ?_) (fun cn62 => ?_)
        · skip
          have tf63 : (zi902 : Int32).toInt ≠ (41 : Int32).toInt := fun e => cn62 (Int32.toInt_inj.mp e)
          have := toi bc_41
          refine lv_iconst (v := 3) hx hb dX12_sign_42 (by decide) ?_
          exact jn15 3 _ _ ls (b_wid2 bc_3 (by decide) (by decide)) (lv_sub hl [0, 1, 2] rfl) hw hS
        · skip
          have bd64 : (41 : Int) ≤ zi902.toInt ∧ zi902.toInt ≤ 41 := r_eq_x cn62 (b_all zi902) bc_41 (by decide) (by decide)
          refine lv_bipush (v := 7) hx hb dX12_sign_37 (by decide) ?_
          refine lv_goto (tgt := 43) hx hb dX12_sign_39 (by decide) ?_
          exact jn15 7 _ _ ls (b_wid2 bc_7 (by decide) (by decide)) (lv_sub hl [0, 1, 2] rfl) hw hS
      · skip
        have bd65 : (40 : Int) ≤ zi902.toInt ∧ zi902.toInt ≤ 40 := r_eq_x cn60 (b_all zi902) bc_40 (by decide) (by decide)
        refine lv_bipush (v := 6) hx hb dX12_sign_26 (by decide) ?_
        refine lv_goto (tgt := 43) hx hb dX12_sign_28 (by decide) ?_
        exact jn15 6 _ _ ls (b_wid2 bc_6 (by decide) (by decide)) (lv_sub hl [0, 1, 2] rfl) hw hS
    · skip
      have bd66 : (61 : Int) ≤ zi902.toInt ∧ zi902.toInt ≤ 61 := r_eq_x cn58 (b_all zi902) bc_61 (by decide) (by decide)
      refine lv_iconst (v := 5) hx hb dX12_sign_16 (by decide) ?_
      refine lv_goto (tgt := 43) hx hb dX12_sign_17 (by decide) ?_
      exact jn15 5 _ _ ls (b_wid2 bc_5 (by decide) (by decide)) (lv_sub hl [0, 1, 2] rfl) hw hS
  · skip
    have bd67 : (59 : Int) ≤ zi902.toInt ∧ zi902.toInt ≤ 59 := r_eq_x cn1 (b_all zi902) bc_59 (by decide) (by decide)
    refine lv_iconst (v := 4) hx hb dX12_sign_6 (by decide) ?_
    refine lv_goto (tgt := 43) hx hb dX12_sign_7 (by decide) ?_
    exact jn15 4 _ _ ls (b_wid2 bc_4 (by decide) (by decide)) (lv_sub hl [0, 1, 2] rfl) hw hS
