set_option maxRecDepth 100000 in
set_option maxHeartbeats 4000000 in
theorem cJ13_bitCount_95d88_0 (l : Launch) (G : va_G) (cy : Nat → ClassId) (ev : Ew) (K ln : Nat → Nat) (Ls : List Nat) (hW : SW K ln Ls) (sz : Nat) (hp0 : Nat → Nat → Value) (ok0 : Ok K hp0) (wl900 : Int64)  : Met l yJ13_bitCount_95d88 (WS yJ13_bitCount_95d88 cJ13_bitCount_95d88 2 (some .int)) { frames := 0, cells := 0, slots := 0, locals := 0 } (PB2 [.long wl900] sz G cy ev (va_pl Ls (cellOf cy K ln hp0))) (QBi (S := (Nat → Nat → Value)) (fun (r : Int32) (u : (Nat → Nat → Value)) => Ok K u ∧ Fr [] K hp0 u ∧ ((0 : Int) ≤ r.toInt ∧ r.toInt ≤ 127)) G (fun u => va_pl Ls (cellOf cy K ln u)) (va_A (va_pl Ls (cellOf cy K ln hp0)) sz)) 0 0 (va_A (va_pl Ls (cellOf cy K ln hp0)) sz) := by
  refine met_of2 (y := yJ13_bitCount_95d88) (L := 2) (av := [.long wl900]) (Qc := fun A => QBi (S := (Nat → Nat → Value)) (fun (r : Int32) (u : (Nat → Nat → Value)) => Ok K u ∧ Fr [] K hp0 u ∧ ((0 : Int) ≤ r.toInt ∧ r.toInt ≤ 127)) G (fun u => va_pl Ls (cellOf cy K ln u)) A) (plainFor_of_name (by decide)) (Nat.le_of_ble_eq_true rfl) ?_
  intro p e s m below meth c hsz hx hb hr hml hown hT hlocks hin hK A hA hE hw hS ls hl
  have hw : PW G cy K ln Ls A hp0 s.heap := hw
  have hown : s.vm.findClass "java/lang/Long" = some m.cls := hown
  have hl : lv_has ls 2 [(0, .long wl900)] := hl
  obtain ⟨Q, hQ⟩ : ∃ Q : State → Prop, Q = MQ below (QBi (S := (Nat → Nat → Value)) (fun (r : Int32) (u : (Nat → Nat → Value)) => Ok K u ∧ Fr [] K hp0 u ∧ ((0 : Int) ≤ r.toInt ∧ r.toInt ≤ 127)) G (fun u => va_pl Ls (cellOf cy K ln u)) A) ([.long wl900] : List Value).toArray s 0 0 A := ⟨_, rfl⟩
  rw [← hQ]
  refine lv_lload_n hx hb dJ13_bitCount_95d88_0 rfl (lv_at hl 0 rfl) ?_
  refine lv_lload_n hx hb dJ13_bitCount_95d88_1 rfl (lv_at hl 0 rfl) ?_
  refine lv_iconst (v := 1) hx hb dJ13_bitCount_95d88_2 (by decide) ?_
  refine lv_lushr hx hb dJ13_bitCount_95d88_3 rfl (lv_topl (fun wl1 _ => ?_))
  refine lv_ldc2 (v := 6148914691236517205) hx hb hown (hT _ tb_1001) dJ13_bitCount_95d88_4 ?_
  refine lv_land hx hb dJ13_bitCount_95d88_7 (lv_topl (fun wl2 _ => ?_))
  refine lv_lsub hx hb dJ13_bitCount_95d88_8 (lv_topl (fun wl3 _ => ?_))
  refine lv_lstore_n (lv' := [(0, .long wl3)]) hx hb dJ13_bitCount_95d88_9 rfl hl (by decide) rfl (fun ls hl => ?_)
  refine lv_lload_n hx hb dJ13_bitCount_95d88_10 rfl (lv_at hl 0 rfl) ?_
  refine lv_ldc2 (v := 3689348814741910323) hx hb hown (hT _ tb_1002) dJ13_bitCount_95d88_11 ?_
  refine lv_land hx hb dJ13_bitCount_95d88_14 (lv_topl (fun wl4 _ => ?_))
  refine lv_lload_n hx hb dJ13_bitCount_95d88_15 rfl (lv_at hl 0 rfl) ?_
  refine lv_iconst (v := 2) hx hb dJ13_bitCount_95d88_16 (by decide) ?_
  refine lv_lushr hx hb dJ13_bitCount_95d88_17 rfl (lv_topl (fun wl5 _ => ?_))
  refine lv_ldc2 (v := 3689348814741910323) hx hb hown (hT _ tb_1002) dJ13_bitCount_95d88_18 ?_
  refine lv_land hx hb dJ13_bitCount_95d88_21 (lv_topl (fun wl6 _ => ?_))
  refine lv_ladd hx hb dJ13_bitCount_95d88_22 (lv_topl (fun wl7 _ => ?_))
  refine lv_lstore_n (lv' := [(0, .long wl7)]) hx hb dJ13_bitCount_95d88_23 rfl hl (by decide) rfl (fun ls hl => ?_)
  refine lv_lload_n hx hb dJ13_bitCount_95d88_24 rfl (lv_at hl 0 rfl) ?_
  refine lv_lload_n hx hb dJ13_bitCount_95d88_25 rfl (lv_at hl 0 rfl) ?_
  refine lv_iconst (v := 4) hx hb dJ13_bitCount_95d88_26 (by decide) ?_
  refine lv_lushr hx hb dJ13_bitCount_95d88_27 rfl (lv_topl (fun wl8 _ => ?_))
  refine lv_ladd hx hb dJ13_bitCount_95d88_28 (lv_topl (fun wl9 _ => ?_))
  refine lv_ldc2 (v := 1085102592571150095) hx hb hown (hT _ tb_1003) dJ13_bitCount_95d88_29 ?_
  refine lv_land hx hb dJ13_bitCount_95d88_32 (lv_topl (fun wl10 _ => ?_))
  refine lv_lstore_n (lv' := [(0, .long wl10)]) hx hb dJ13_bitCount_95d88_33 rfl hl (by decide) rfl (fun ls hl => ?_)
  refine lv_lload_n hx hb dJ13_bitCount_95d88_34 rfl (lv_at hl 0 rfl) ?_
  refine lv_lload_n hx hb dJ13_bitCount_95d88_35 rfl (lv_at hl 0 rfl) ?_
  refine lv_bipush (v := 8) hx hb dJ13_bitCount_95d88_36 (by decide) ?_
  refine lv_lushr hx hb dJ13_bitCount_95d88_38 rfl (lv_topl (fun wl11 _ => ?_))
  refine lv_ladd hx hb dJ13_bitCount_95d88_39 (lv_topl (fun wl12 _ => ?_))
  refine lv_lstore_n (lv' := [(0, .long wl12)]) hx hb dJ13_bitCount_95d88_40 rfl hl (by decide) rfl (fun ls hl => ?_)
  refine lv_lload_n hx hb dJ13_bitCount_95d88_41 rfl (lv_at hl 0 rfl) ?_
  refine lv_lload_n hx hb dJ13_bitCount_95d88_42 rfl (lv_at hl 0 rfl) ?_
  refine lv_bipush (v := 16) hx hb dJ13_bitCount_95d88_43 (by decide) ?_
  refine lv_lushr hx hb dJ13_bitCount_95d88_45 rfl (lv_topl (fun wl13 _ => ?_))
  refine lv_ladd hx hb dJ13_bitCount_95d88_46 (lv_topl (fun wl14 _ => ?_))
  refine lv_lstore_n (lv' := [(0, .long wl14)]) hx hb dJ13_bitCount_95d88_47 rfl hl (by decide) rfl (fun ls hl => ?_)
  refine lv_lload_n hx hb dJ13_bitCount_95d88_48 rfl (lv_at hl 0 rfl) ?_
  refine lv_lload_n hx hb dJ13_bitCount_95d88_49 rfl (lv_at hl 0 rfl) ?_
  refine lv_bipush (v := 32) hx hb dJ13_bitCount_95d88_50 (by decide) ?_
  refine lv_lushr hx hb dJ13_bitCount_95d88_52 rfl (lv_topl (fun wl15 _ => ?_))
  refine lv_ladd hx hb dJ13_bitCount_95d88_53 (lv_topl (fun wl16 _ => ?_))
  refine lv_lstore_n (lv' := [(0, .long wl16)]) hx hb dJ13_bitCount_95d88_54 rfl hl (by decide) rfl (fun ls hl => ?_)
  refine lv_lload_n hx hb dJ13_bitCount_95d88_55 rfl (lv_at hl 0 rfl) ?_
  refine lv_l2i hx hb dJ13_bitCount_95d88_56 rfl (lv_topi (fun zi17 ea18 => ?_))
  refine lv_bipush (v := 127) hx hb dJ13_bitCount_95d88_57 (by decide) ?_
  refine lv_iand hx hb dJ13_bitCount_95d88_59 (lv_topi (fun zi19 ea20 => ?_))
  have bd21 : (0 : Int) ≤ zi19.toInt ∧ zi19.toInt ≤ 127 := b_and_r ea20 bc_127 (by decide) (by decide) (by decide)
  rw [hQ]
  exact kz_i hx hb hr hlocks hS rfl hp0 hw ⟨ok0, (Fr.rf), (b_wid2 bd21 (by decide) (by decide))⟩ (Nat.le_of_ble_eq_true rfl) (Nat.le_of_ble_eq_true rfl) dJ13_bitCount_95d88_60

set_option maxRecDepth 100000 in
set_option maxHeartbeats 4000000 in
theorem cX11_word_0 (l : Launch) (G : va_G) (cy : Nat → ClassId) (ev : Ew) (K ln : Nat → Nat) (Ls : List Nat) (hW : SW K ln Ls) (sz : Nat) (hp0 : Nat → Nat → Value) (ok0 : Ok K hp0) (qa900 : Nat) (zi901 : Int32) (zi902 : Int32) (kd900 : K qa900 = 12) : Met l yX11_word (WS yX11_word cX11_word 3 (some .int)) { frames := 1, cells := 0, slots := 0, locals := 21 } (PB2 [.ref qa900, .int zi901, .int zi902] sz G cy ev (va_pl Ls (cellOf cy K ln hp0))) (QBi (S := (Nat → Nat → Value)) (fun (r : Int32) (u : (Nat → Nat → Value)) => Ok K u ∧ Fr [] K hp0 u ∧ ((-1 : Int) ≤ r.toInt ∧ r.toInt ≤ 127)) G (fun u => va_pl Ls (cellOf cy K ln u)) (va_A (va_pl Ls (cellOf cy K ln hp0)) sz)) 0 0 (va_A (va_pl Ls (cellOf cy K ln hp0)) sz) := by
  refine met_of2 (y := yX11_word) (L := 3) (av := [.ref qa900, .int zi901, .int zi902]) (Qc := fun A => QBi (S := (Nat → Nat → Value)) (fun (r : Int32) (u : (Nat → Nat → Value)) => Ok K u ∧ Fr [] K hp0 u ∧ ((-1 : Int) ≤ r.toInt ∧ r.toInt ≤ 127)) G (fun u => va_pl Ls (cellOf cy K ln u)) A) (plainFor_of_name (by decide)) (Nat.le_of_ble_eq_true rfl) ?_
  intro p e s m below meth c hsz hx hb hr hml hown hT hlocks hin hK A hA hE hw hS ls hl
  have hw : PW G cy K ln Ls A hp0 s.heap := hw
  have hown : s.vm.findClass "LieClock" = some m.cls := hown
  have hl : lv_has ls 3 [(0, .ref qa900), (1, .int zi901), (2, .int zi902)] := hl
  obtain ⟨Q, hQ⟩ : ∃ Q : State → Prop, Q = MQ below (QBi (S := (Nat → Nat → Value)) (fun (r : Int32) (u : (Nat → Nat → Value)) => Ok K u ∧ Fr [] K hp0 u ∧ ((-1 : Int) ≤ r.toInt ∧ r.toInt ≤ 127)) G (fun u => va_pl Ls (cellOf cy K ln u)) A) ([.ref qa900, .int zi901, .int zi902] : List Value).toArray s 0 0 A := ⟨_, rfl⟩
  rw [← hQ]
  refine lv_aload_n hx hb dX11_word_0 rfl (lv_at hl 0 rfl) ?_
  obtain ⟨qa2, eq1, kd3⟩ := rd_12003 ok0 kd900
  refine p_get (ci := 11) (v := .ref qa2) (C := RX11) (T := TX11) (N := 17) hx hb hT iw_X11 hown hK hw hW kd900 (by decide) rfl rfl 3 (by decide) eq1 (hT _ tb_660) (fun _ h9 => h9) dX11_word_1 ?_
  refine lv_iload_n hx hb dX11_word_4 rfl (lv_at hl 1 rfl) ?_
  refine kq_i hw hS hA (va_runV (As := [.int zi901]) (rest := []) ⟨hx, hb, hml, hown, hT⟩ (cX10_hasWord_0 l G cy ev K ln Ls hW _ hp0 ok0 qa2 zi901 kd3) (cwV 1 hT (good_V tb_997 tb_994 tb_995 tb_996 tb_107) rfl rfl rfl (by decide +kernel) ⟨Nat.le_of_ble_eq_true rfl, Nat.le_of_ble_eq_true rfl⟩) (pool_preV (ci := 10) hK hE hS hA hw hW kd3 (by decide) rfl) rfl rfl hl.1 rfl (lv_room (Nat.le_of_ble_eq_true rfl)) dX11_word_5 ⟨Nat.le_of_ble_eq_true rfl, Nat.le_of_ble_eq_true rfl⟩) (fun zi8 hp4 H locs hq7 hw hS => ?_)
  obtain ⟨ok5, F6, bd9, hc10⟩ := hq7
  obtain rfl : hp0 = hp4 := (Fr.nil F6).symm
  have hw : PW G cy K ln Ls A hp0 H := hw
  rcases b01 bd9 with cn11 | cn11
  · skip
    subst cn11
    refine lv_if_ne (tgt := 13) hx hb dX11_word_8 (by decide) (fun c => absurd (d_eq bc_0 bc_0) c) (fun _ => ?_)
    refine lv_iconst (v := (-1)) hx hb dX11_word_11 (by decide) ?_
    rw [hQ]
    exact kz_i hx hb hr hlocks hS rfl hp0 hw ⟨ok0, (Fr.rf), (b_wid2 bc_m1 (by decide) (by decide))⟩ (Nat.le_of_ble_eq_true rfl) (Nat.le_of_ble_eq_true rfl) dX11_word_12
  · skip
    subst cn11
    have bd12 : (0 : Int) ≤ zi901.toInt ∧ zi901.toInt ≤ 15 := b_meet (b_all zi901) (hc10 rfl) (by decide) (by decide)
    refine lv_if_ne (tgt := 13) hx hb dX11_word_8 (by decide) (fun _ => ?_) (fun c => absurd c (d_ne bc_1 bc_0 (by decide)))
    refine lv_iload_n hx hb dX11_word_13 rfl (lv_at hl 2 rfl) ?_
    by_cases cn13 : zi902 = 0
    · skip
      refine lv_tableIn (tgt := 52) hx hb dX11_word_14 (by rw [cn13]; decide) (by rw [cn13]; decide) (by rw [cn13]; rfl) (by decide) ?_
      have bd25 : (0 : Int) ≤ zi902.toInt ∧ zi902.toInt ≤ 0 := r_eq_x cn13 (b_all zi902) bc_0 (by decide) (by decide)
      refine lv_aload_n hx hb dX11_word_52 rfl (lv_at hl 0 rfl) ?_
      refine p_get (ci := 11) (v := .ref qa2) (C := RX11) (T := TX11) (N := 17) hx hb hT iw_X11 hown hK hw hW kd900 (by decide) rfl rfl 3 (by decide) eq1 (hT _ tb_660) (fun _ h9 => h9) dX11_word_53 ?_
      obtain ⟨qa27, eq26, kd28⟩ := rd_11013 ok0 kd3
      refine p_getN (ci := 10) (v := .ref qa27) (C := RX10) (T := TX10) (N := 20) hx hb hT iw_X10 hown hK hw hW kd3 (by decide) rfl rfl 13 (by decide) eq26 (hK.fl nw_125) (fun _ h9 => h9) dX11_word_56 ?_
      refine lv_iload_n hx hb dX11_word_59 rfl (lv_at hl 1 rfl) ?_
      obtain ⟨zi30, eq29, bd31⟩ := rd_51000 ok0 kd28 ((zi901 : Int32).toNatClampNeg)
      refine p_iald (v := zi30) hx hb hK hw hW kd28 (by decide) rfl (hW.len kd28 (n := 16) rfl (by decide)) (vp_b bd12 (by decide) (by decide)) eq29 dX11_word_60 ?_
      rw [hQ]
      exact kz_i hx hb hr hlocks hS rfl hp0 hw ⟨ok0, (Fr.rf), (b_wid2 bd31 (by decide) (by decide))⟩ (Nat.le_of_ble_eq_true rfl) (Nat.le_of_ble_eq_true rfl) dX11_word_61
    by_cases cn14 : zi902 = 1
    · skip
      refine lv_tableIn (tgt := 62) hx hb dX11_word_14 (by rw [cn14]; decide) (by rw [cn14]; decide) (by rw [cn14]; rfl) (by decide) ?_
      have bd32 : (1 : Int) ≤ zi902.toInt ∧ zi902.toInt ≤ 1 := r_eq_x cn14 (b_all zi902) bc_1 (by decide) (by decide)
      refine lv_aload_n hx hb dX11_word_62 rfl (lv_at hl 0 rfl) ?_
      refine p_get (ci := 11) (v := .ref qa2) (C := RX11) (T := TX11) (N := 17) hx hb hT iw_X11 hown hK hw hW kd900 (by decide) rfl rfl 3 (by decide) eq1 (hT _ tb_660) (fun _ h9 => h9) dX11_word_63 ?_
      obtain ⟨zi34, eq33⟩ := rd_11005 ok0 kd3
      refine p_getN (ci := 10) (v := .int zi34) (C := RX10) (T := TX10) (N := 20) hx hb hT iw_X10 hown hK hw hW kd3 (by decide) rfl rfl 5 (by decide) eq33 (hK.fl nw_103) (fun _ h9 => h9) dX11_word_66 ?_
      refine lv_iload_n hx hb dX11_word_69 rfl (lv_at hl 1 rfl) ?_
      refine lv_ishr hx hb dX11_word_70 (lv_topi (fun zi35 ea36 => ?_))
      refine lv_iconst (v := 1) hx hb dX11_word_71 (by decide) ?_
      refine lv_iand hx hb dX11_word_72 (lv_topi (fun zi37 ea38 => ?_))
      have bd39 : (0 : Int) ≤ zi37.toInt ∧ zi37.toInt ≤ 1 := b_and_r ea38 bc_1 (by decide) (by decide) (by decide)
      rw [hQ]
      exact kz_i hx hb hr hlocks hS rfl hp0 hw ⟨ok0, (Fr.rf), (b_wid2 bd39 (by decide) (by decide))⟩ (Nat.le_of_ble_eq_true rfl) (Nat.le_of_ble_eq_true rfl) dX11_word_73
    by_cases cn15 : zi902 = 2
    · skip
      refine lv_tableIn (tgt := 74) hx hb dX11_word_14 (by rw [cn15]; decide) (by rw [cn15]; decide) (by rw [cn15]; rfl) (by decide) ?_
      have bd40 : (2 : Int) ≤ zi902.toInt ∧ zi902.toInt ≤ 2 := r_eq_x cn15 (b_all zi902) bc_2 (by decide) (by decide)
      refine lv_aload_n hx hb dX11_word_74 rfl (lv_at hl 0 rfl) ?_
      refine p_get (ci := 11) (v := .ref qa2) (C := RX11) (T := TX11) (N := 17) hx hb hT iw_X11 hown hK hw hW kd900 (by decide) rfl rfl 3 (by decide) eq1 (hT _ tb_660) (fun _ h9 => h9) dX11_word_75 ?_
      obtain ⟨zi42, eq41⟩ := rd_11006 ok0 kd3
      refine p_getN (ci := 10) (v := .int zi42) (C := RX10) (T := TX10) (N := 20) hx hb hT iw_X10 hown hK hw hW kd3 (by decide) rfl rfl 6 (by decide) eq41 (hK.fl nw_107) (fun _ h9 => h9) dX11_word_78 ?_
      refine lv_iload_n hx hb dX11_word_81 rfl (lv_at hl 1 rfl) ?_
      refine lv_ishr hx hb dX11_word_82 (lv_topi (fun zi43 ea44 => ?_))
      refine lv_iconst (v := 1) hx hb dX11_word_83 (by decide) ?_
      refine lv_iand hx hb dX11_word_84 (lv_topi (fun zi45 ea46 => ?_))
      have bd47 : (0 : Int) ≤ zi45.toInt ∧ zi45.toInt ≤ 1 := b_and_r ea46 bc_1 (by decide) (by decide) (by decide)
      rw [hQ]
      exact kz_i hx hb hr hlocks hS rfl hp0 hw ⟨ok0, (Fr.rf), (b_wid2 bd47 (by decide) (by decide))⟩ (Nat.le_of_ble_eq_true rfl) (Nat.le_of_ble_eq_true rfl) dX11_word_85
    by_cases cn16 : zi902 = 3
    · skip
      refine lv_tableIn (tgt := 86) hx hb dX11_word_14 (by rw [cn16]; decide) (by rw [cn16]; decide) (by rw [cn16]; rfl) (by decide) ?_
      have bd48 : (3 : Int) ≤ zi902.toInt ∧ zi902.toInt ≤ 3 := r_eq_x cn16 (b_all zi902) bc_3 (by decide) (by decide)
      refine lv_aload_n hx hb dX11_word_86 rfl (lv_at hl 0 rfl) ?_
      obtain ⟨qa50, eq49, kd51⟩ := rd_12005 ok0 kd900
      refine p_get (ci := 11) (v := .ref qa50) (C := RX11) (T := TX11) (N := 17) hx hb hT iw_X11 hown hK hw hW kd900 (by decide) rfl rfl 5 (by decide) eq49 (hT _ tb_662) (fun _ h9 => h9) dX11_word_87 ?_
      obtain ⟨zi53, eq52⟩ := rd_8001 ok0 kd51
      refine p_getN (ci := 7) (v := .int zi53) (C := RX7) (T := TX7) (N := 13) hx hb hT iw_X7 hown hK hw hW kd51 (by decide) rfl rfl 1 (by decide) eq52 (hK.fl nw_315) (fun _ h9 => h9) dX11_word_90 ?_
      refine lv_iload_n hx hb dX11_word_93 rfl (lv_at hl 1 rfl) ?_
      refine lv_ishr hx hb dX11_word_94 (lv_topi (fun zi54 ea55 => ?_))
      refine lv_iconst (v := 1) hx hb dX11_word_95 (by decide) ?_
      refine lv_iand hx hb dX11_word_96 (lv_topi (fun zi56 ea57 => ?_))
      have bd58 : (0 : Int) ≤ zi56.toInt ∧ zi56.toInt ≤ 1 := b_and_r ea57 bc_1 (by decide) (by decide) (by decide)
      rw [hQ]
      exact kz_i hx hb hr hlocks hS rfl hp0 hw ⟨ok0, (Fr.rf), (b_wid2 bd58 (by decide) (by decide))⟩ (Nat.le_of_ble_eq_true rfl) (Nat.le_of_ble_eq_true rfl) dX11_word_97
    by_cases cn17 : zi902 = 4
    · skip
      refine lv_tableIn (tgt := 98) hx hb dX11_word_14 (by rw [cn17]; decide) (by rw [cn17]; decide) (by rw [cn17]; rfl) (by decide) ?_
      have bd59 : (4 : Int) ≤ zi902.toInt ∧ zi902.toInt ≤ 4 := r_eq_x cn17 (b_all zi902) bc_4 (by decide) (by decide)
      refine lv_aload_n hx hb dX11_word_98 rfl (lv_at hl 0 rfl) ?_
      obtain ⟨qa61, eq60, kd62⟩ := rd_12005 ok0 kd900
      refine p_get (ci := 11) (v := .ref qa61) (C := RX11) (T := TX11) (N := 17) hx hb hT iw_X11 hown hK hw hW kd900 (by decide) rfl rfl 5 (by decide) eq60 (hT _ tb_662) (fun _ h9 => h9) dX11_word_99 ?_
      obtain ⟨zi64, eq63⟩ := rd_8002 ok0 kd62
      refine p_getN (ci := 7) (v := .int zi64) (C := RX7) (T := TX7) (N := 13) hx hb hT iw_X7 hown hK hw hW kd62 (by decide) rfl rfl 2 (by decide) eq63 (hK.fl nw_319) (fun _ h9 => h9) dX11_word_102 ?_
      refine lv_iload_n hx hb dX11_word_105 rfl (lv_at hl 1 rfl) ?_
      refine lv_ishr hx hb dX11_word_106 (lv_topi (fun zi65 ea66 => ?_))
      refine lv_iconst (v := 1) hx hb dX11_word_107 (by decide) ?_
      refine lv_iand hx hb dX11_word_108 (lv_topi (fun zi67 ea68 => ?_))
      have bd69 : (0 : Int) ≤ zi67.toInt ∧ zi67.toInt ≤ 1 := b_and_r ea68 bc_1 (by decide) (by decide) (by decide)
      rw [hQ]
      exact kz_i hx hb hr hlocks hS rfl hp0 hw ⟨ok0, (Fr.rf), (b_wid2 bd69 (by decide) (by decide))⟩ (Nat.le_of_ble_eq_true rfl) (Nat.le_of_ble_eq_true rfl) dX11_word_109
    by_cases cn18 : zi902 = 5
    · skip
      refine lv_tableIn (tgt := 110) hx hb dX11_word_14 (by rw [cn18]; decide) (by rw [cn18]; decide) (by rw [cn18]; rfl) (by decide) ?_
      have bd70 : (5 : Int) ≤ zi902.toInt ∧ zi902.toInt ≤ 5 := r_eq_x cn18 (b_all zi902) bc_5 (by decide) (by decide)
      refine lv_aload_n hx hb dX11_word_110 rfl (lv_at hl 0 rfl) ?_
      refine p_get (ci := 11) (v := .ref qa2) (C := RX11) (T := TX11) (N := 17) hx hb hT iw_X11 hown hK hw hW kd900 (by decide) rfl rfl 3 (by decide) eq1 (hT _ tb_660) (fun _ h9 => h9) dX11_word_111 ?_
      obtain ⟨qa72, eq71, kd73⟩ := rd_11014 ok0 kd3
      refine p_getN (ci := 10) (v := .ref qa72) (C := RX10) (T := TX10) (N := 20) hx hb hT iw_X10 hown hK hw hW kd3 (by decide) rfl rfl 14 (by decide) eq71 (hK.fl nw_128) (fun _ h9 => h9) dX11_word_114 ?_
      refine lv_iload_n hx hb dX11_word_117 rfl (lv_at hl 1 rfl) ?_
      obtain ⟨wl75, eq74⟩ := rd_52000 ok0 kd73 ((zi901 : Int32).toNatClampNeg)
      refine p_lald (v := wl75) hx hb hK hw hW kd73 (by decide) rfl (hW.len kd73 (n := 16) rfl (by decide)) (vp_b bd12 (by decide) (by decide)) eq74 dX11_word_118 ?_
      refine lv_aload_n hx hb dX11_word_119 rfl (lv_at hl 0 rfl) ?_
      refine p_get (ci := 11) (v := .ref qa2) (C := RX11) (T := TX11) (N := 17) hx hb hT iw_X11 hown hK hw hW kd900 (by decide) rfl rfl 3 (by decide) eq1 (hT _ tb_660) (fun _ h9 => h9) dX11_word_120 ?_
      obtain ⟨wl77, eq76⟩ := rd_11009 ok0 kd3
      refine p_getN (ci := 10) (v := .long wl77) (C := RX10) (T := TX10) (N := 20) hx hb hT iw_X10 hown hK hw hW kd3 (by decide) rfl rfl 9 (by decide) eq76 (hK.fl nw_117) (fun _ h9 => h9) dX11_word_123 ?_
      refine lv_land hx hb dX11_word_126 (lv_topl (fun wl78 _ => ?_))
      refine kq_i hw hS hA (va_runS (As := [.long wl78]) (rest := []) ⟨hx, hb, hml, hown, hT⟩ (cJ13_bitCount_95d88_0 l G cy ev K ln Ls hW _ hp0 ok0 wl78) (va_cwS 1 hT (good_S tb_1000 tb_998 tb_999 tb_125) rfl rfl rfl (by decide +kernel) ⟨Nat.le_of_ble_eq_true rfl, Nat.le_of_ble_eq_true rfl⟩) (PB2.preS hK hE hS hA hw) rfl rfl hl.1 rfl (lv_room (Nat.le_of_ble_eq_true rfl)) dX11_word_127 ⟨Nat.le_of_ble_eq_true rfl, Nat.le_of_ble_eq_true rfl⟩) (fun zi83 hp79 H locs hq82 hw hS => ?_)
      obtain ⟨ok80, F81, bd84⟩ := hq82
      obtain rfl : hp0 = hp79 := (Fr.nil F81).symm
      have hw : PW G cy K ln Ls A hp0 H := hw
      rw [hQ]
      exact kz_i hx hb hr hlocks hS rfl hp0 hw ⟨ok0, (Fr.rf), (b_wid2 bd84 (by decide) (by decide))⟩ (Nat.le_of_ble_eq_true rfl) (Nat.le_of_ble_eq_true rfl) dX11_word_130
    have nn19 : zi902.toInt ≠ 0 := fun e => cn13 (Int32.toInt_inj.mp (e.trans (by decide)))
    have nn20 : zi902.toInt ≠ 1 := fun e => cn14 (Int32.toInt_inj.mp (e.trans (by decide)))
    have nn21 : zi902.toInt ≠ 2 := fun e => cn15 (Int32.toInt_inj.mp (e.trans (by decide)))
    have nn22 : zi902.toInt ≠ 3 := fun e => cn16 (Int32.toInt_inj.mp (e.trans (by decide)))
    have nn23 : zi902.toInt ≠ 4 := fun e => cn17 (Int32.toInt_inj.mp (e.trans (by decide)))
    have nn24 : zi902.toInt ≠ 5 := fun e => cn18 (Int32.toInt_inj.mp (e.trans (by decide)))
    refine lv_tableOut (tgt := 131) hx hb dX11_word_14 (by have := (b_all zi902); omega) (by decide) ?_
    refine lv_iconst (v := (-1)) hx hb dX11_word_131 (by decide) ?_
    rw [hQ]
    exact kz_i hx hb hr hlocks hS rfl hp0 hw ⟨ok0, (Fr.rf), (b_wid2 bc_m1 (by decide) (by decide))⟩ (Nat.le_of_ble_eq_true rfl) (Nat.le_of_ble_eq_true rfl) dX11_word_132

set_option maxRecDepth 100000 in
set_option maxHeartbeats 4000000 in
theorem cX11_witness_0 (l : Launch) (G : va_G) (cy : Nat → ClassId) (ev : Ew) (K ln : Nat → Nat) (Ls : List Nat) (hW : SW K ln Ls) (sz : Nat) (hp0 : Nat → Nat → Value) (ok0 : Ok K hp0) (qa900 : Nat) (zi901 : Int32) (zi902 : Int32) (kd900 : K qa900 = 12) : Met l yX11_witness (WS yX11_witness cX11_witness 4 (some .int)) { frames := 1, cells := 0, slots := 0, locals := 24 } (PB2 [.ref qa900, .int zi901, .int zi902] sz G cy ev (va_pl Ls (cellOf cy K ln hp0))) (QBi (S := (Nat → Nat → Value)) (fun (r : Int32) (u : (Nat → Nat → Value)) => Ok K u ∧ Fr [] K hp0 u ∧ ((-1 : Int) ≤ r.toInt ∧ r.toInt ≤ 63)) G (fun u => va_pl Ls (cellOf cy K ln u)) (va_A (va_pl Ls (cellOf cy K ln hp0)) sz)) 0 0 (va_A (va_pl Ls (cellOf cy K ln hp0)) sz) := by
  refine met_of2 (y := yX11_witness) (L := 4) (av := [.ref qa900, .int zi901, .int zi902]) (Qc := fun A => QBi (S := (Nat → Nat → Value)) (fun (r : Int32) (u : (Nat → Nat → Value)) => Ok K u ∧ Fr [] K hp0 u ∧ ((-1 : Int) ≤ r.toInt ∧ r.toInt ≤ 63)) G (fun u => va_pl Ls (cellOf cy K ln u)) A) (plainFor_of_name (by decide)) (Nat.le_of_ble_eq_true rfl) ?_
  intro p e s m below meth c hsz hx hb hr hml hown hT hlocks hin hK A hA hE hw hS ls hl
  have hw : PW G cy K ln Ls A hp0 s.heap := hw
  have hown : s.vm.findClass "LieClock" = some m.cls := hown
  have hl : lv_has ls 4 [(0, .ref qa900), (1, .int zi901), (2, .int zi902)] := hl
  obtain ⟨Q, hQ⟩ : ∃ Q : State → Prop, Q = MQ below (QBi (S := (Nat → Nat → Value)) (fun (r : Int32) (u : (Nat → Nat → Value)) => Ok K u ∧ Fr [] K hp0 u ∧ ((-1 : Int) ≤ r.toInt ∧ r.toInt ≤ 63)) G (fun u => va_pl Ls (cellOf cy K ln u)) A) ([.ref qa900, .int zi901, .int zi902] : List Value).toArray s 0 0 A := ⟨_, rfl⟩
  rw [← hQ]
  refine lv_iload_n hx hb dX11_witness_0 rfl (lv_at hl 1 rfl) ?_
  refine lv_if_lt (tgt := 15) hx hb dX11_witness_1 (by decide) (fun cn1 => ?_) (fun cn1 => ?_)
  · skip
    have bd2 : (-2147483648 : Int) ≤ zi901.toInt ∧ zi901.toInt ≤ -1 := r_lt_x cn1 (b_all zi901) bc_0 (by decide) (by decide)
    refine lv_iconst (v := (-1)) hx hb dX11_witness_15 (by decide) ?_
    rw [hQ]
    exact kz_i hx hb hr hlocks hS rfl hp0 hw ⟨ok0, (Fr.rf), (b_wid2 bc_m1 (by decide) (by decide))⟩ (Nat.le_of_ble_eq_true rfl) (Nat.le_of_ble_eq_true rfl) dX11_witness_16
  · skip
    have bd3 : (0 : Int) ≤ zi901.toInt ∧ zi901.toInt ≤ 2147483647 := r_le_y (Int32.not_lt.mp cn1) bc_0 (b_all zi901) (by decide) (by decide)
    refine lv_iload_n hx hb dX11_witness_4 rfl (lv_at hl 1 rfl) ?_
    refine lv_aload_n hx hb dX11_witness_5 rfl (lv_at hl 0 rfl) ?_
    obtain ⟨qa5, eq4, kd6⟩ := rd_12003 ok0 kd900
    refine p_get (ci := 11) (v := .ref qa5) (C := RX11) (T := TX11) (N := 17) hx hb hT iw_X11 hown hK hw hW kd900 (by decide) rfl rfl 3 (by decide) eq4 (hT _ tb_660) (fun _ h9 => h9) dX11_witness_6 ?_
    obtain ⟨zi8, eq7, bd9⟩ := rd_11003 ok0 kd6
    refine p_getN (ci := 10) (v := .int zi8) (C := RX10) (T := TX10) (N := 20) hx hb hT iw_X10 hown hK hw hW kd6 (by decide) rfl rfl 3 (by decide) eq7 (hK.fl nw_91) (fun _ h9 => h9) dX11_witness_9 ?_
    refine lv_icmp_lt (tgt := 17) hx hb dX11_witness_12 (by decide) (fun cn10 => ?_) (fun cn10 => ?_)
    · skip
      have bd11 : (0 : Int) ≤ zi901.toInt ∧ zi901.toInt ≤ 5 := r_lt_x cn10 bd3 bd9 (by decide) (by decide)
      have bd12 : (1 : Int) ≤ zi8.toInt ∧ zi8.toInt ≤ 6 := r_lt_y cn10 bd3 bd9 (by decide) (by decide)
      refine lv_aload_n hx hb dX11_witness_17 rfl (lv_at hl 0 rfl) ?_
      refine p_get (ci := 11) (v := .ref qa5) (C := RX11) (T := TX11) (N := 17) hx hb hT iw_X11 hown hK hw hW kd900 (by decide) rfl rfl 3 (by decide) eq4 (hT _ tb_660) (fun _ h9 => h9) dX11_witness_18 ?_
      obtain ⟨qa14, eq13, kd15⟩ := rd_11012 ok0 kd6
      refine p_getN (ci := 10) (v := .ref qa14) (C := RX10) (T := TX10) (N := 20) hx hb hT iw_X10 hown hK hw hW kd6 (by decide) rfl rfl 12 (by decide) eq13 (hK.fl nw_122) (fun _ h9 => h9) dX11_witness_21 ?_
      refine lv_iload_n hx hb dX11_witness_24 rfl (lv_at hl 1 rfl) ?_
      obtain ⟨zi17, eq16⟩ := rd_50000 ok0 kd15 ((zi901 : Int32).toNatClampNeg)
      refine p_iald (v := zi17) hx hb hK hw hW kd15 (by decide) rfl (hW.len kd15 (n := 6) rfl (by decide)) (vp_b bd11 (by decide) (by decide)) eq16 dX11_witness_25 ?_
      refine lv_istore_n (lv' := [(3, .int zi17), (0, .ref qa900), (1, .int zi901), (2, .int zi902)]) hx hb dX11_witness_26 rfl hl (by decide) rfl (fun ls hl => ?_)
      refine lv_iload_n hx hb dX11_witness_27 rfl (lv_at hl 3 rfl) ?_
      by_cases cn18 : zi902 = 0
      · skip
        refine lv_tableIn (tgt := 60) hx hb dX11_witness_28 (by rw [cn18]; decide) (by rw [cn18]; decide) (by rw [cn18]; rfl) (by decide) ?_
        have bd26 : (0 : Int) ≤ zi902.toInt ∧ zi902.toInt ≤ 0 := r_eq_x cn18 (b_all zi902) bc_0 (by decide) (by decide)
        refine lv_iload_n hx hb dX11_witness_60 rfl (lv_at hl 0 rfl) ?_
        refine lv_aload_n hx hb dX11_witness_61 rfl (lv_at hl 1 rfl) ?_
        obtain ⟨qa28, eq27, kd29⟩ := rd_12005 ok0 kd900
        refine p_get (ci := 11) (v := .ref qa28) (C := RX11) (T := TX11) (N := 17) hx hb hT iw_X11 hown hK hw hW kd900 (by decide) rfl rfl 5 (by decide) eq27 (hT _ tb_662) (fun _ h9 => h9) dX11_witness_62 ?_
        obtain ⟨zi31, eq30⟩ := rd_8001 ok0 kd29
        refine p_getN (ci := 7) (v := .int zi31) (C := RX7) (T := TX7) (N := 13) hx hb hT iw_X7 hown hK hw hW kd29 (by decide) rfl rfl 1 (by decide) eq30 (hK.fl nw_315) (fun _ h9 => h9) dX11_witness_65 ?_
        refine lv_iand hx hb dX11_witness_68 (lv_topi (fun zi32 ea33 => ?_))
        refine kq_i hw hS hA (va_runS (As := [.int zi32]) (rest := []) ⟨hx, hb, hml, hown, hT⟩ (cJ6_bitCount_0f7a4_0 l G cy ev K ln Ls hW _ hp0 ok0 zi32) (va_cwS 1 hT (good_S tb_1010 tb_1008 tb_1009 tb_126) rfl rfl rfl (by decide +kernel) ⟨Nat.le_of_ble_eq_true rfl, Nat.le_of_ble_eq_true rfl⟩) (PB2.preS hK hE hS hA hw) rfl rfl hl.1 rfl (lv_room (Nat.le_of_ble_eq_true rfl)) dX11_witness_69 ⟨Nat.le_of_ble_eq_true rfl, Nat.le_of_ble_eq_true rfl⟩) (fun zi38 hp34 H locs hq37 hw hS => ?_)
        obtain ⟨ok35, F36, bd39, ef40⟩ := hq37
        obtain rfl : hp0 = hp34 := (Fr.nil F36).symm
        have hw : PW G cy K ln Ls A hp0 H := hw
        rw [hQ]
        exact kz_i hx hb hr hlocks hS rfl hp0 hw ⟨ok0, (Fr.rf), (b_wid2 bd39 (by decide) (by decide))⟩ (Nat.le_of_ble_eq_true rfl) (Nat.le_of_ble_eq_true rfl) dX11_witness_72
      by_cases cn19 : zi902 = 1
      · skip
        refine lv_tableIn (tgt := 73) hx hb dX11_witness_28 (by rw [cn19]; decide) (by rw [cn19]; decide) (by rw [cn19]; rfl) (by decide) ?_
        have bd41 : (1 : Int) ≤ zi902.toInt ∧ zi902.toInt ≤ 1 := r_eq_x cn19 (b_all zi902) bc_1 (by decide) (by decide)
        refine lv_iload_n hx hb dX11_witness_73 rfl (lv_at hl 0 rfl) ?_
        refine lv_aload_n hx hb dX11_witness_74 rfl (lv_at hl 1 rfl) ?_
        obtain ⟨qa43, eq42, kd44⟩ := rd_12005 ok0 kd900
        refine p_get (ci := 11) (v := .ref qa43) (C := RX11) (T := TX11) (N := 17) hx hb hT iw_X11 hown hK hw hW kd900 (by decide) rfl rfl 5 (by decide) eq42 (hT _ tb_662) (fun _ h9 => h9) dX11_witness_75 ?_
        obtain ⟨zi46, eq45⟩ := rd_8002 ok0 kd44
        refine p_getN (ci := 7) (v := .int zi46) (C := RX7) (T := TX7) (N := 13) hx hb hT iw_X7 hown hK hw hW kd44 (by decide) rfl rfl 2 (by decide) eq45 (hK.fl nw_319) (fun _ h9 => h9) dX11_witness_78 ?_
        refine lv_iand hx hb dX11_witness_81 (lv_topi (fun zi47 ea48 => ?_))
        refine kq_i hw hS hA (va_runS (As := [.int zi47]) (rest := []) ⟨hx, hb, hml, hown, hT⟩ (cJ6_bitCount_0f7a4_0 l G cy ev K ln Ls hW _ hp0 ok0 zi47) (va_cwS 1 hT (good_S tb_1010 tb_1008 tb_1009 tb_126) rfl rfl rfl (by decide +kernel) ⟨Nat.le_of_ble_eq_true rfl, Nat.le_of_ble_eq_true rfl⟩) (PB2.preS hK hE hS hA hw) rfl rfl hl.1 rfl (lv_room (Nat.le_of_ble_eq_true rfl)) dX11_witness_82 ⟨Nat.le_of_ble_eq_true rfl, Nat.le_of_ble_eq_true rfl⟩) (fun zi53 hp49 H locs hq52 hw hS => ?_)
        obtain ⟨ok50, F51, bd54, ef55⟩ := hq52
        obtain rfl : hp0 = hp49 := (Fr.nil F51).symm
        have hw : PW G cy K ln Ls A hp0 H := hw
        rw [hQ]
        exact kz_i hx hb hr hlocks hS rfl hp0 hw ⟨ok0, (Fr.rf), (b_wid2 bd54 (by decide) (by decide))⟩ (Nat.le_of_ble_eq_true rfl) (Nat.le_of_ble_eq_true rfl) dX11_witness_85
      by_cases cn20 : zi902 = 2
      · skip
        refine lv_tableIn (tgt := 86) hx hb dX11_witness_28 (by rw [cn20]; decide) (by rw [cn20]; decide) (by rw [cn20]; rfl) (by decide) ?_
        have bd56 : (2 : Int) ≤ zi902.toInt ∧ zi902.toInt ≤ 2 := r_eq_x cn20 (b_all zi902) bc_2 (by decide) (by decide)
        refine lv_iload_n hx hb dX11_witness_86 rfl (lv_at hl 0 rfl) ?_
        refine kq_i hw hS hA (va_runS (As := [.int zi17]) (rest := []) ⟨hx, hb, hml, hown, hT⟩ (cJ6_bitCount_0f7a4_0 l G cy ev K ln Ls hW _ hp0 ok0 zi17) (va_cwS 1 hT (good_S tb_1010 tb_1008 tb_1009 tb_126) rfl rfl rfl (by decide +kernel) ⟨Nat.le_of_ble_eq_true rfl, Nat.le_of_ble_eq_true rfl⟩) (PB2.preS hK hE hS hA hw) rfl rfl hl.1 rfl (lv_room (Nat.le_of_ble_eq_true rfl)) dX11_witness_87 ⟨Nat.le_of_ble_eq_true rfl, Nat.le_of_ble_eq_true rfl⟩) (fun zi61 hp57 H locs hq60 hw hS => ?_)
        obtain ⟨ok58, F59, bd62, ef63⟩ := hq60
        obtain rfl : hp0 = hp57 := (Fr.nil F59).symm
        have hw : PW G cy K ln Ls A hp0 H := hw
        rw [hQ]
        exact kz_i hx hb hr hlocks hS rfl hp0 hw ⟨ok0, (Fr.rf), (b_wid2 bd62 (by decide) (by decide))⟩ (Nat.le_of_ble_eq_true rfl) (Nat.le_of_ble_eq_true rfl) dX11_witness_90
      by_cases cn21 : zi902 = 3
      · skip
        refine lv_tableIn (tgt := 91) hx hb dX11_witness_28 (by rw [cn21]; decide) (by rw [cn21]; decide) (by rw [cn21]; rfl) (by decide) ?_
        have bd64 : (3 : Int) ≤ zi902.toInt ∧ zi902.toInt ≤ 3 := r_eq_x cn21 (b_all zi902) bc_3 (by decide) (by decide)
        refine lv_aload_n hx hb dX11_witness_91 rfl (lv_at hl 1 rfl) ?_
        obtain ⟨qa66, eq65, kd67⟩ := rd_12005 ok0 kd900
        refine p_get (ci := 11) (v := .ref qa66) (C := RX11) (T := TX11) (N := 17) hx hb hT iw_X11 hown hK hw hW kd900 (by decide) rfl rfl 5 (by decide) eq65 (hT _ tb_662) (fun _ h9 => h9) dX11_witness_92 ?_
        obtain ⟨wl69, eq68⟩ := rd_8005 ok0 kd67
        refine p_getN (ci := 7) (v := .long wl69) (C := RX7) (T := TX7) (N := 13) hx hb hT iw_X7 hown hK hw hW kd67 (by decide) rfl rfl 5 (by decide) eq68 (hK.fl nw_326) (fun _ h9 => h9) dX11_witness_95 ?_
        refine lv_aload_n hx hb dX11_witness_98 rfl (lv_at hl 1 rfl) ?_
        refine p_get (ci := 11) (v := .ref qa5) (C := RX11) (T := TX11) (N := 17) hx hb hT iw_X11 hown hK hw hW kd900 (by decide) rfl rfl 3 (by decide) eq4 (hT _ tb_660) (fun _ h9 => h9) dX11_witness_99 ?_
        refine lv_iload_n hx hb dX11_witness_102 rfl (lv_at hl 0 rfl) ?_
        refine lv_aload_n hx hb dX11_witness_103 rfl (lv_at hl 1 rfl) ?_
        refine p_get (ci := 11) (v := .ref qa66) (C := RX11) (T := TX11) (N := 17) hx hb hT iw_X11 hown hK hw hW kd900 (by decide) rfl rfl 5 (by decide) eq65 (hT _ tb_662) (fun _ h9 => h9) dX11_witness_104 ?_
        obtain ⟨zi71, eq70⟩ := rd_8001 ok0 kd67
        refine p_getN (ci := 7) (v := .int zi71) (C := RX7) (T := TX7) (N := 13) hx hb hT iw_X7 hown hK hw hW kd67 (by decide) rfl rfl 1 (by decide) eq70 (hK.fl nw_315) (fun _ h9 => h9) dX11_witness_107 ?_
        refine lv_iand hx hb dX11_witness_110 (lv_topi (fun zi72 ea73 => ?_))
        refine lv_aload_n hx hb dX11_witness_111 rfl (lv_at hl 1 rfl) ?_
        refine p_get (ci := 11) (v := .ref qa66) (C := RX11) (T := TX11) (N := 17) hx hb hT iw_X11 hown hK hw hW kd900 (by decide) rfl rfl 5 (by decide) eq65 (hT _ tb_662) (fun _ h9 => h9) dX11_witness_112 ?_
        obtain ⟨zi75, eq74⟩ := rd_8002 ok0 kd67
        refine p_getN (ci := 7) (v := .int zi75) (C := RX7) (T := TX7) (N := 13) hx hb hT iw_X7 hown hK hw hW kd67 (by decide) rfl rfl 2 (by decide) eq74 (hK.fl nw_319) (fun _ h9 => h9) dX11_witness_115 ?_
        refine lv_iconst (v := (-1)) hx hb dX11_witness_118 (by decide) ?_
        refine lv_ixor hx hb dX11_witness_119 (lv_topi (fun zi76 ea77 => ?_))
        refine lv_iand hx hb dX11_witness_120 (lv_topi (fun zi78 ea79 => ?_))
        refine kq_l hw hS hA (va_runV (As := [.int zi78]) (rest := [.long wl69]) ⟨hx, hb, hml, hown, hT⟩ (cX10_together_0 l G cy ev K ln Ls hW _ hp0 ok0 qa5 zi78 kd6) (cwV 1 hT (good_V tb_1017 tb_1014 tb_1015 tb_1016 tb_107) rfl rfl rfl (by decide +kernel) ⟨Nat.le_of_ble_eq_true rfl, Nat.le_of_ble_eq_true rfl⟩) (pool_preV (ci := 10) hK hE hS hA hw hW kd6 (by decide) rfl) rfl rfl hl.1 rfl (lv_room (Nat.le_of_ble_eq_true rfl)) dX11_witness_121 ⟨Nat.le_of_ble_eq_true rfl, Nat.le_of_ble_eq_true rfl⟩) (fun wl84 hp80 H locs hq83 hw hS => ?_)
        obtain ⟨ok81, F82⟩ := hq83
        obtain rfl : hp0 = hp80 := (Fr.nil F82).symm
        have hw : PW G cy K ln Ls A hp0 H := hw
        refine lv_land hx hb dX11_witness_124 (lv_topl (fun wl85 _ => ?_))
        refine lv_lconst (v := 0) hx hb dX11_witness_125 (by decide) ?_
        refine W.lcmp hx hb dX11_witness_126 (lv_topi (fun zi86 ea87 => ?_))
        refine lv_if_eq (tgt := 134) hx hb dX11_witness_127 (by decide) (fun cn88 => ?_) (fun cn88 => ?_)
        · skip
          have bd89 : (0 : Int) ≤ zi86.toInt ∧ zi86.toInt ≤ 0 := r_eq_x cn88 (b_all zi86) bc_0 (by decide) (by decide)
          refine lv_iconst (v := 0) hx hb dX11_witness_134 (by decide) ?_
          rw [hQ]
          exact kz_i hx hb hr hlocks hS rfl hp0 hw ⟨ok0, (Fr.rf), (b_wid2 bc_0 (by decide) (by decide))⟩ (Nat.le_of_ble_eq_true rfl) (Nat.le_of_ble_eq_true rfl) dX11_witness_135
        · skip
          refine lv_iconst (v := 1) hx hb dX11_witness_130 (by decide) ?_
          refine lv_goto (tgt := 135) hx hb dX11_witness_131 (by decide) ?_
          rw [hQ]
          exact kz_i hx hb hr hlocks hS rfl hp0 hw ⟨ok0, (Fr.rf), (b_wid2 bc_1 (by decide) (by decide))⟩ (Nat.le_of_ble_eq_true rfl) (Nat.le_of_ble_eq_true rfl) dX11_witness_135
      have nn22 : zi902.toInt ≠ 0 := fun e => cn18 (Int32.toInt_inj.mp (e.trans (by decide)))
      have nn23 : zi902.toInt ≠ 1 := fun e => cn19 (Int32.toInt_inj.mp (e.trans (by decide)))
      have nn24 : zi902.toInt ≠ 2 := fun e => cn20 (Int32.toInt_inj.mp (e.trans (by decide)))
      have nn25 : zi902.toInt ≠ 3 := fun e => cn21 (Int32.toInt_inj.mp (e.trans (by decide)))
      refine lv_tableOut (tgt := 136) hx hb dX11_witness_28 (by have := (b_all zi902); omega) (by decide) ?_
      refine lv_iconst (v := (-1)) hx hb dX11_witness_136 (by decide) ?_
      rw [hQ]
      exact kz_i hx hb hr hlocks hS rfl hp0 hw ⟨ok0, (Fr.rf), (b_wid2 bc_m1 (by decide) (by decide))⟩ (Nat.le_of_ble_eq_true rfl) (Nat.le_of_ble_eq_true rfl) dX11_witness_137
    · skip
      refine lv_iconst (v := (-1)) hx hb dX11_witness_15 (by decide) ?_
      rw [hQ]
      exact kz_i hx hb hr hlocks hS rfl hp0 hw ⟨ok0, (Fr.rf), (b_wid2 bc_m1 (by decide) (by decide))⟩ (Nat.le_of_ble_eq_true rfl) (Nat.le_of_ble_eq_true rfl) dX11_witness_16

set_option maxRecDepth 100000 in
set_option maxHeartbeats 4000000 in
theorem cX11_share_0 (l : Launch) (G : va_G) (cy : Nat → ClassId) (ev : Ew) (K ln : Nat → Nat) (Ls : List Nat) (hW : SW K ln Ls) (sz : Nat) (hp0 : Nat → Nat → Value) (ok0 : Ok K hp0) (qa900 : Nat) (zi901 : Int32) (kd900 : K qa900 = 12) : Met l yX11_share (WS yX11_share cX11_share 2 (some .int)) { frames := 0, cells := 0, slots := 0, locals := 0 } (PB2 [.ref qa900, .int zi901] sz G cy ev (va_pl Ls (cellOf cy K ln hp0))) (QBi (S := (Nat → Nat → Value)) (fun (r : Int32) (u : (Nat → Nat → Value)) => Ok K u ∧ Fr [] K hp0 u) G (fun u => va_pl Ls (cellOf cy K ln u)) (va_A (va_pl Ls (cellOf cy K ln hp0)) sz)) 0 0 (va_A (va_pl Ls (cellOf cy K ln hp0)) sz) := by
  refine met_of2 (y := yX11_share) (L := 2) (av := [.ref qa900, .int zi901]) (Qc := fun A => QBi (S := (Nat → Nat → Value)) (fun (r : Int32) (u : (Nat → Nat → Value)) => Ok K u ∧ Fr [] K hp0 u) G (fun u => va_pl Ls (cellOf cy K ln u)) A) (plainFor_of_name (by decide)) (Nat.le_of_ble_eq_true rfl) ?_
  intro p e s m below meth c hsz hx hb hr hml hown hT hlocks hin hK A hA hE hw hS ls hl
  have hw : PW G cy K ln Ls A hp0 s.heap := hw
  have hown : s.vm.findClass "LieClock" = some m.cls := hown
  have hl : lv_has ls 2 [(0, .ref qa900), (1, .int zi901)] := hl
  obtain ⟨Q, hQ⟩ : ∃ Q : State → Prop, Q = MQ below (QBi (S := (Nat → Nat → Value)) (fun (r : Int32) (u : (Nat → Nat → Value)) => Ok K u ∧ Fr [] K hp0 u) G (fun u => va_pl Ls (cellOf cy K ln u)) A) ([.ref qa900, .int zi901] : List Value).toArray s 0 0 A := ⟨_, rfl⟩
  rw [← hQ]
  refine lv_iload_n hx hb dX11_share_0 rfl (lv_at hl 1 rfl) ?_
  refine lv_if_lt (tgt := 15) hx hb dX11_share_1 (by decide) (fun cn1 => ?_) (fun cn1 => ?_)
  · skip
    have bd2 : (-2147483648 : Int) ≤ zi901.toInt ∧ zi901.toInt ≤ -1 := r_lt_x cn1 (b_all zi901) bc_0 (by decide) (by decide)
    refine lv_ldc (v := (-1000000)) hx hb hown (hT _ tb_1022) dX11_share_15 ?_
    rw [hQ]
    exact kz_i hx hb hr hlocks hS rfl hp0 hw ⟨ok0, (Fr.rf)⟩ (Nat.le_of_ble_eq_true rfl) (Nat.le_of_ble_eq_true rfl) dX11_share_17
  · skip
    have bd3 : (0 : Int) ≤ zi901.toInt ∧ zi901.toInt ≤ 2147483647 := r_le_y (Int32.not_lt.mp cn1) bc_0 (b_all zi901) (by decide) (by decide)
    refine lv_iload_n hx hb dX11_share_4 rfl (lv_at hl 1 rfl) ?_
    refine lv_aload_n hx hb dX11_share_5 rfl (lv_at hl 0 rfl) ?_
    obtain ⟨qa5, eq4, kd6⟩ := rd_12003 ok0 kd900
    refine p_get (ci := 11) (v := .ref qa5) (C := RX11) (T := TX11) (N := 17) hx hb hT iw_X11 hown hK hw hW kd900 (by decide) rfl rfl 3 (by decide) eq4 (hT _ tb_660) (fun _ h9 => h9) dX11_share_6 ?_
    obtain ⟨zi8, eq7, bd9⟩ := rd_11003 ok0 kd6
    refine p_getN (ci := 10) (v := .int zi8) (C := RX10) (T := TX10) (N := 20) hx hb hT iw_X10 hown hK hw hW kd6 (by decide) rfl rfl 3 (by decide) eq7 (hK.fl nw_91) (fun _ h9 => h9) dX11_share_9 ?_
    refine lv_icmp_lt (tgt := 18) hx hb dX11_share_12 (by decide) (fun cn10 => ?_) (fun cn10 => ?_)
    · skip
      have bd11 : (0 : Int) ≤ zi901.toInt ∧ zi901.toInt ≤ 5 := r_lt_x cn10 bd3 bd9 (by decide) (by decide)
      have bd12 : (1 : Int) ≤ zi8.toInt ∧ zi8.toInt ≤ 6 := r_lt_y cn10 bd3 bd9 (by decide) (by decide)
      refine lv_aload_n hx hb dX11_share_18 rfl (lv_at hl 0 rfl) ?_
      obtain ⟨qa14, eq13, kd15⟩ := rd_12005 ok0 kd900
      refine p_get (ci := 11) (v := .ref qa14) (C := RX11) (T := TX11) (N := 17) hx hb hT iw_X11 hown hK hw hW kd900 (by decide) rfl rfl 5 (by decide) eq13 (hT _ tb_662) (fun _ h9 => h9) dX11_share_19 ?_
      obtain ⟨qa17, eq16, kd18⟩ := rd_8012 ok0 kd15
      refine p_getN (ci := 7) (v := .ref qa17) (C := RX7) (T := TX7) (N := 13) hx hb hT iw_X7 hown hK hw hW kd15 (by decide) rfl rfl 12 (by decide) eq16 (hK.fl nw_339) (fun _ h9 => h9) dX11_share_22 ?_
      refine lv_iload_n hx hb dX11_share_25 rfl (lv_at hl 1 rfl) ?_
      obtain ⟨zi20, eq19⟩ := rd_42000 ok0 kd18 ((zi901 : Int32).toNatClampNeg)
      refine p_iald (v := zi20) hx hb hK hw hW kd18 (by decide) rfl (hW.len kd18 (n := 6) rfl (by decide)) (vp_b bd11 (by decide) (by decide)) eq19 dX11_share_26 ?_
      rw [hQ]
      exact kz_i hx hb hr hlocks hS rfl hp0 hw ⟨ok0, (Fr.rf)⟩ (Nat.le_of_ble_eq_true rfl) (Nat.le_of_ble_eq_true rfl) dX11_share_27
    · skip
      refine lv_ldc (v := (-1000000)) hx hb hown (hT _ tb_1022) dX11_share_15 ?_
      rw [hQ]
      exact kz_i hx hb hr hlocks hS rfl hp0 hw ⟨ok0, (Fr.rf)⟩ (Nat.le_of_ble_eq_true rfl) (Nat.le_of_ble_eq_true rfl) dX11_share_17

set_option maxRecDepth 100000 in
set_option maxHeartbeats 4000000 in
theorem cX11_hearing_0 (l : Launch) (G : va_G) (cy : Nat → ClassId) (ev : Ew) (K ln : Nat → Nat) (Ls : List Nat) (hW : SW K ln Ls) (sz : Nat) (hp0 : Nat → Nat → Value) (ok0 : Ok K hp0) (qa900 : Nat) (zi901 : Int32) (zi902 : Int32) (kd900 : K qa900 = 12) : Met l yX11_hearing (WS yX11_hearing cX11_hearing 3 (some .int)) { frames := 2, cells := 0, slots := 0, locals := 50 } (PB2 [.ref qa900, .int zi901, .int zi902] sz G cy ev (va_pl Ls (cellOf cy K ln hp0))) (QBi (S := (Nat → Nat → Value)) (fun (r : Int32) (u : (Nat → Nat → Value)) => Ok K u ∧ Fr [] K hp0 u) G (fun u => va_pl Ls (cellOf cy K ln u)) (va_A (va_pl Ls (cellOf cy K ln hp0)) sz)) 0 0 (va_A (va_pl Ls (cellOf cy K ln hp0)) sz) := by
  refine met_of2 (y := yX11_hearing) (L := 3) (av := [.ref qa900, .int zi901, .int zi902]) (Qc := fun A => QBi (S := (Nat → Nat → Value)) (fun (r : Int32) (u : (Nat → Nat → Value)) => Ok K u ∧ Fr [] K hp0 u) G (fun u => va_pl Ls (cellOf cy K ln u)) A) (plainFor_of_name (by decide)) (Nat.le_of_ble_eq_true rfl) ?_
  intro p e s m below meth c hsz hx hb hr hml hown hT hlocks hin hK A hA hE hw hS ls hl
  have hw : PW G cy K ln Ls A hp0 s.heap := hw
  have hown : s.vm.findClass "LieClock" = some m.cls := hown
  have hl : lv_has ls 3 [(0, .ref qa900), (1, .int zi901), (2, .int zi902)] := hl
  obtain ⟨Q, hQ⟩ : ∃ Q : State → Prop, Q = MQ below (QBi (S := (Nat → Nat → Value)) (fun (r : Int32) (u : (Nat → Nat → Value)) => Ok K u ∧ Fr [] K hp0 u) G (fun u => va_pl Ls (cellOf cy K ln u)) A) ([.ref qa900, .int zi901, .int zi902] : List Value).toArray s 0 0 A := ⟨_, rfl⟩
  rw [← hQ]
  refine lv_aload_n hx hb dX11_hearing_0 rfl (lv_at hl 0 rfl) ?_
  obtain ⟨qa2, eq1, kd3⟩ := rd_12003 ok0 kd900
  refine p_get (ci := 11) (v := .ref qa2) (C := RX11) (T := TX11) (N := 17) hx hb hT iw_X11 hown hK hw hW kd900 (by decide) rfl rfl 3 (by decide) eq1 (hT _ tb_660) (fun _ h9 => h9) dX11_hearing_1 ?_
  refine lv_iload_n hx hb dX11_hearing_4 rfl (lv_at hl 1 rfl) ?_
  refine kq_i hw hS hA (va_runV (As := [.int zi901]) (rest := []) ⟨hx, hb, hml, hown, hT⟩ (cX10_hasCase_0 l G cy ev K ln Ls hW _ hp0 ok0 qa2 zi901 kd3) (cwV 1 hT (good_V tb_1030 tb_1027 tb_1028 tb_1029 tb_107) rfl rfl rfl (by decide +kernel) ⟨Nat.le_of_ble_eq_true rfl, Nat.le_of_ble_eq_true rfl⟩) (pool_preV (ci := 10) hK hE hS hA hw hW kd3 (by decide) rfl) rfl rfl hl.1 rfl (lv_room (Nat.le_of_ble_eq_true rfl)) dX11_hearing_5 ⟨Nat.le_of_ble_eq_true rfl, Nat.le_of_ble_eq_true rfl⟩) (fun zi8 hp4 H locs hq7 hw hS => ?_)
  obtain ⟨ok5, F6, bd9, hc10⟩ := hq7
  obtain rfl : hp0 = hp4 := (Fr.nil F6).symm
  have hw : PW G cy K ln Ls A hp0 H := hw
  rcases b01 bd9 with cn11 | cn11
  · skip
    subst cn11
    refine lv_if_ne (tgt := 13) hx hb dX11_hearing_8 (by decide) (fun c => absurd (d_eq bc_0 bc_0) c) (fun _ => ?_)
    refine lv_iconst (v := (-1)) hx hb dX11_hearing_11 (by decide) ?_
    rw [hQ]
    exact kz_i hx hb hr hlocks hS rfl hp0 hw ⟨ok0, (Fr.rf)⟩ (Nat.le_of_ble_eq_true rfl) (Nat.le_of_ble_eq_true rfl) dX11_hearing_12
  · skip
    subst cn11
    have bd12 : (0 : Int) ≤ zi901.toInt ∧ zi901.toInt ≤ 7 := b_meet (b_all zi901) (hc10 rfl) (by decide) (by decide)
    refine lv_if_ne (tgt := 13) hx hb dX11_hearing_8 (by decide) (fun _ => ?_) (fun c => absurd c (d_ne bc_1 bc_0 (by decide)))
    refine lv_iload_n hx hb dX11_hearing_13 rfl (lv_at hl 2 rfl) ?_
    by_cases cn13 : zi902 = 0
    · skip
      refine lv_tableIn (tgt := 44) hx hb dX11_hearing_14 (by rw [cn13]; decide) (by rw [cn13]; decide) (by rw [cn13]; rfl) (by decide) ?_
      have bd21 : (0 : Int) ≤ zi902.toInt ∧ zi902.toInt ≤ 0 := r_eq_x cn13 (b_all zi902) bc_0 (by decide) (by decide)
      refine lv_aload_n hx hb dX11_hearing_44 rfl (lv_at hl 0 rfl) ?_
      refine p_get (ci := 11) (v := .ref qa2) (C := RX11) (T := TX11) (N := 17) hx hb hT iw_X11 hown hK hw hW kd900 (by decide) rfl rfl 3 (by decide) eq1 (hT _ tb_660) (fun _ h9 => h9) dX11_hearing_45 ?_
      obtain ⟨qa23, eq22, kd24⟩ := rd_11016 ok0 kd3
      refine p_getN (ci := 10) (v := .ref qa23) (C := RX10) (T := TX10) (N := 20) hx hb hT iw_X10 hown hK hw hW kd3 (by decide) rfl rfl 16 (by decide) eq22 (hK.fl nw_133) (fun _ h9 => h9) dX11_hearing_48 ?_
      refine lv_iload_n hx hb dX11_hearing_51 rfl (lv_at hl 1 rfl) ?_
      obtain ⟨zi26, eq25⟩ := rd_54000 ok0 kd24 ((zi901 : Int32).toNatClampNeg)
      refine p_iald (v := zi26) hx hb hK hw hW kd24 (by decide) rfl (hW.len kd24 (n := 8) rfl (by decide)) (vp_b bd12 (by decide) (by decide)) eq25 dX11_hearing_52 ?_
      rw [hQ]
      exact kz_i hx hb hr hlocks hS rfl hp0 hw ⟨ok0, (Fr.rf)⟩ (Nat.le_of_ble_eq_true rfl) (Nat.le_of_ble_eq_true rfl) dX11_hearing_53
    by_cases cn14 : zi902 = 1
    · skip
      refine lv_tableIn (tgt := 54) hx hb dX11_hearing_14 (by rw [cn14]; decide) (by rw [cn14]; decide) (by rw [cn14]; rfl) (by decide) ?_
      have bd27 : (1 : Int) ≤ zi902.toInt ∧ zi902.toInt ≤ 1 := r_eq_x cn14 (b_all zi902) bc_1 (by decide) (by decide)
      refine lv_aload_n hx hb dX11_hearing_54 rfl (lv_at hl 0 rfl) ?_
      obtain ⟨qa29, eq28, kd30⟩ := rd_12005 ok0 kd900
      refine p_get (ci := 11) (v := .ref qa29) (C := RX11) (T := TX11) (N := 17) hx hb hT iw_X11 hown hK hw hW kd900 (by decide) rfl rfl 5 (by decide) eq28 (hT _ tb_662) (fun _ h9 => h9) dX11_hearing_55 ?_
      obtain ⟨qa32, eq31, kd33⟩ := rd_8010 ok0 kd30
      refine p_getN (ci := 7) (v := .ref qa32) (C := RX7) (T := TX7) (N := 13) hx hb hT iw_X7 hown hK hw hW kd30 (by decide) rfl rfl 10 (by decide) eq31 (hK.fl nw_335) (fun _ h9 => h9) dX11_hearing_58 ?_
      refine lv_iload_n hx hb dX11_hearing_61 rfl (lv_at hl 1 rfl) ?_
      obtain ⟨zi35, eq34⟩ := rd_40000 ok0 kd33 ((zi901 : Int32).toNatClampNeg)
      refine p_iald (v := zi35) hx hb hK hw hW kd33 (by decide) rfl (hW.len kd33 (n := 8) rfl (by decide)) (vp_b bd12 (by decide) (by decide)) eq34 dX11_hearing_62 ?_
      rw [hQ]
      exact kz_i hx hb hr hlocks hS rfl hp0 hw ⟨ok0, (Fr.rf)⟩ (Nat.le_of_ble_eq_true rfl) (Nat.le_of_ble_eq_true rfl) dX11_hearing_63
    by_cases cn15 : zi902 = 2
    · skip
      refine lv_tableIn (tgt := 64) hx hb dX11_hearing_14 (by rw [cn15]; decide) (by rw [cn15]; decide) (by rw [cn15]; rfl) (by decide) ?_
      have bd36 : (2 : Int) ≤ zi902.toInt ∧ zi902.toInt ≤ 2 := r_eq_x cn15 (b_all zi902) bc_2 (by decide) (by decide)
      refine lv_aload_n hx hb dX11_hearing_64 rfl (lv_at hl 0 rfl) ?_
      obtain ⟨qa38, eq37, kd39⟩ := rd_12005 ok0 kd900
      refine p_get (ci := 11) (v := .ref qa38) (C := RX11) (T := TX11) (N := 17) hx hb hT iw_X11 hown hK hw hW kd900 (by decide) rfl rfl 5 (by decide) eq37 (hT _ tb_662) (fun _ h9 => h9) dX11_hearing_65 ?_
      obtain ⟨qa41, eq40, kd42⟩ := rd_8011 ok0 kd39
      refine p_getN (ci := 7) (v := .ref qa41) (C := RX7) (T := TX7) (N := 13) hx hb hT iw_X7 hown hK hw hW kd39 (by decide) rfl rfl 11 (by decide) eq40 (hK.fl nw_337) (fun _ h9 => h9) dX11_hearing_68 ?_
      refine lv_iload_n hx hb dX11_hearing_71 rfl (lv_at hl 1 rfl) ?_
      obtain ⟨zi44, eq43⟩ := rd_41000 ok0 kd42 ((zi901 : Int32).toNatClampNeg)
      refine p_iald (v := zi44) hx hb hK hw hW kd42 (by decide) rfl (hW.len kd42 (n := 8) rfl (by decide)) (vp_b bd12 (by decide) (by decide)) eq43 dX11_hearing_72 ?_
      rw [hQ]
      exact kz_i hx hb hr hlocks hS rfl hp0 hw ⟨ok0, (Fr.rf)⟩ (Nat.le_of_ble_eq_true rfl) (Nat.le_of_ble_eq_true rfl) dX11_hearing_73
    by_cases cn16 : zi902 = 3
    · skip
      refine lv_tableIn (tgt := 74) hx hb dX11_hearing_14 (by rw [cn16]; decide) (by rw [cn16]; decide) (by rw [cn16]; rfl) (by decide) ?_
      have bd45 : (3 : Int) ≤ zi902.toInt ∧ zi902.toInt ≤ 3 := r_eq_x cn16 (b_all zi902) bc_3 (by decide) (by decide)
      refine lv_aload_n hx hb dX11_hearing_74 rfl (lv_at hl 0 rfl) ?_
      obtain ⟨qa47, eq46, kd48⟩ := rd_12005 ok0 kd900
      refine p_get (ci := 11) (v := .ref qa47) (C := RX11) (T := TX11) (N := 17) hx hb hT iw_X11 hown hK hw hW kd900 (by decide) rfl rfl 5 (by decide) eq46 (hT _ tb_662) (fun _ h9 => h9) dX11_hearing_75 ?_
      refine lv_aload_n hx hb dX11_hearing_78 rfl (lv_at hl 0 rfl) ?_
      refine p_get (ci := 11) (v := .ref qa2) (C := RX11) (T := TX11) (N := 17) hx hb hT iw_X11 hown hK hw hW kd900 (by decide) rfl rfl 3 (by decide) eq1 (hT _ tb_660) (fun _ h9 => h9) dX11_hearing_79 ?_
      refine lv_iload_n hx hb dX11_hearing_82 rfl (lv_at hl 1 rfl) ?_
      refine kq_i hw hS hA (va_runV (As := [.ref qa2, .int zi901]) (rest := []) ⟨hx, hb, hml, hown, hT⟩ (cX7_verdictOf_0 l G cy ev K ln Ls hW _ hp0 ok0 qa47 qa2 zi901 kd48 kd3 (b_wid2 bd12 (by decide) (by decide))) (cwV 2 hT (good_V tb_1034 tb_1031 tb_1032 tb_1033 tb_115) rfl rfl rfl (by decide +kernel) ⟨Nat.le_of_ble_eq_true rfl, Nat.le_of_ble_eq_true rfl⟩) (pool_preV (ci := 7) hK hE hS hA hw hW kd48 (by decide) rfl) rfl rfl hl.1 rfl (lv_room (Nat.le_of_ble_eq_true rfl)) dX11_hearing_83 ⟨Nat.le_of_ble_eq_true rfl, Nat.le_of_ble_eq_true rfl⟩) (fun zi53 hp49 H locs hq52 hw hS => ?_)
      obtain ⟨ok50, F51, bd54⟩ := hq52
      obtain rfl : hp0 = hp49 := (Fr.nil F51).symm
      have hw : PW G cy K ln Ls A hp0 H := hw
      rw [hQ]
      exact kz_i hx hb hr hlocks hS rfl hp0 hw ⟨ok0, (Fr.rf)⟩ (Nat.le_of_ble_eq_true rfl) (Nat.le_of_ble_eq_true rfl) dX11_hearing_86
    have nn17 : zi902.toInt ≠ 0 := fun e => cn13 (Int32.toInt_inj.mp (e.trans (by decide)))
    have nn18 : zi902.toInt ≠ 1 := fun e => cn14 (Int32.toInt_inj.mp (e.trans (by decide)))
    have nn19 : zi902.toInt ≠ 2 := fun e => cn15 (Int32.toInt_inj.mp (e.trans (by decide)))
    have nn20 : zi902.toInt ≠ 3 := fun e => cn16 (Int32.toInt_inj.mp (e.trans (by decide)))
    refine lv_tableOut (tgt := 87) hx hb dX11_hearing_14 (by have := (b_all zi902); omega) (by decide) ?_
    refine lv_iconst (v := (-1)) hx hb dX11_hearing_87 (by decide) ?_
    rw [hQ]
    exact kz_i hx hb hr hlocks hS rfl hp0 hw ⟨ok0, (Fr.rf)⟩ (Nat.le_of_ble_eq_true rfl) (Nat.le_of_ble_eq_true rfl) dX11_hearing_88

set_option maxRecDepth 100000 in
set_option maxHeartbeats 4000000 in
theorem cX11_keepForUndo_0 (l : Launch) (G : va_G) (cy : Nat → ClassId) (ev : Ew) (K ln : Nat → Nat) (Ls : List Nat) (hW : SW K ln Ls) (sz : Nat) (hp0 : Nat → Nat → Value) (ok0 : Ok K hp0) (qa900 : Nat) (kd900 : K qa900 = 12) : Met l yX11_keepForUndo (WS yX11_keepForUndo cX11_keepForUndo 1 none) { frames := 2, cells := 0, slots := 0, locals := 61 } (PB2 [.ref qa900] sz G cy ev (va_pl Ls (cellOf cy K ln hp0))) (QBv (S := (Nat → Nat → Value)) (fun u : (Nat → Nat → Value) => Ok K u ∧ Fr [1005, 5005, 8000, 8001, 8002, 8003, 8004, 8005, 12008, 12009, 40000, 41000, 42000] K hp0 u) G (fun u => va_pl Ls (cellOf cy K ln u)) (va_A (va_pl Ls (cellOf cy K ln hp0)) sz)) 0 0 (va_A (va_pl Ls (cellOf cy K ln hp0)) sz) := by
  refine met_of2 (y := yX11_keepForUndo) (L := 1) (av := [.ref qa900]) (Qc := fun A => QBv (S := (Nat → Nat → Value)) (fun u : (Nat → Nat → Value) => Ok K u ∧ Fr [1005, 5005, 8000, 8001, 8002, 8003, 8004, 8005, 12008, 12009, 40000, 41000, 42000] K hp0 u) G (fun u => va_pl Ls (cellOf cy K ln u)) A) (plainFor_of_name (by decide)) (Nat.le_of_ble_eq_true rfl) ?_
  intro p e s m below meth c hsz hx hb hr hml hown hT hlocks hin hK A hA hE hw hS ls hl
  have hw : PW G cy K ln Ls A hp0 s.heap := hw
  have hown : s.vm.findClass "LieClock" = some m.cls := hown
  have hl : lv_has ls 1 [(0, .ref qa900)] := hl
  obtain ⟨Q, hQ⟩ : ∃ Q : State → Prop, Q = MQ below (QBv (S := (Nat → Nat → Value)) (fun u : (Nat → Nat → Value) => Ok K u ∧ Fr [1005, 5005, 8000, 8001, 8002, 8003, 8004, 8005, 12008, 12009, 40000, 41000, 42000] K hp0 u) G (fun u => va_pl Ls (cellOf cy K ln u)) A) ([.ref qa900] : List Value).toArray s 0 0 A := ⟨_, rfl⟩
  rw [← hQ]
  refine lv_aload_n hx hb dX11_keepForUndo_0 rfl (lv_at hl 0 rfl) ?_
  obtain ⟨qa2, eq1, kd3⟩ := rd_12007 ok0 kd900
  refine p_get (ci := 11) (v := .ref qa2) (C := RX11) (T := TX11) (N := 17) hx hb hT iw_X11 hown hK hw hW kd900 (by decide) rfl rfl 7 (by decide) eq1 (hT _ tb_664) (fun _ h9 => h9) dX11_keepForUndo_1 ?_
  refine lv_aload_n hx hb dX11_keepForUndo_4 rfl (lv_at hl 0 rfl) ?_
  obtain ⟨zi5, eq4, bd6⟩ := rd_12009 ok0 kd900
  refine p_get (ci := 11) (v := .int zi5) (C := RX11) (T := TX11) (N := 17) hx hb hT iw_X11 hown hK hw hW kd900 (by decide) rfl rfl 9 (by decide) eq4 (hT _ tb_666) (fun _ h9 => h9) dX11_keepForUndo_5 ?_
  obtain ⟨qa8, eq7, kd9⟩ := rd_56000 ok0 kd3 ((zi5 : Int32).toNatClampNeg)
  refine p_aald (v := qa8) hx hb hK hw hW kd3 (by decide) rfl (by decide) (by decide) rfl (hW.len kd3 (n := 40) rfl (by decide)) (vp_b bd6 (by decide) (by decide)) eq7 dX11_keepForUndo_8 ?_
  refine lv_aload_n hx hb dX11_keepForUndo_9 rfl (lv_at hl 0 rfl) ?_
  obtain ⟨qa11, eq10, kd12⟩ := rd_12005 ok0 kd900
  refine p_get (ci := 11) (v := .ref qa11) (C := RX11) (T := TX11) (N := 17) hx hb hT iw_X11 hown hK hw hW kd900 (by decide) rfl rfl 5 (by decide) eq10 (hT _ tb_662) (fun _ h9 => h9) dX11_keepForUndo_10 ?_
  refine kq_v hw hS hA (va_runV (As := [.ref qa11]) (rest := []) ⟨hx, hb, hml, hown, hT⟩ (cX7_copyFrom_0 l G cy ev K ln Ls hW _ hp0 ok0 qa8 qa11 kd9 kd12) (cwV 1 hT (good_V tb_1047 tb_1044 tb_1045 tb_1046 tb_115) rfl rfl rfl (by decide +kernel) ⟨Nat.le_of_ble_eq_true rfl, Nat.le_of_ble_eq_true rfl⟩) (pool_preV (ci := 7) hK hE hS hA hw hW kd9 (by decide) rfl) rfl rfl hl.1 rfl (lv_room (Nat.le_of_ble_eq_true rfl)) dX11_keepForUndo_13 ⟨Nat.le_of_ble_eq_true rfl, Nat.le_of_ble_eq_true rfl⟩) (fun hp13 H locs hq16 hw hS => ?_)
  obtain ⟨ok14, F15⟩ := hq16
  have hw : PW G cy K ln Ls A hp13 H := hw
  refine lv_aload_n hx hb dX11_keepForUndo_16 rfl (lv_at hl 0 rfl) ?_
  refine lv_aload_n hx hb dX11_keepForUndo_17 rfl (lv_at hl 0 rfl) ?_
  have eq18 : hp13 qa900 9 = .int zi5 := Eq.trans (Fr.at (cq := 12009) F15 kd900 (cd_o (by decide)) (by decide)) eq4
  refine p_get (ci := 11) (v := .int zi5) (C := RX11) (T := TX11) (N := 17) hx hb hT iw_X11 hown hK hw hW kd900 (by decide) rfl rfl 9 (by decide) eq18 (hT _ tb_666) (fun _ h9 => h9) dX11_keepForUndo_18 ?_
  refine lv_iconst (v := 1) hx hb dX11_keepForUndo_21 (by decide) ?_
  refine lv_iadd hx hb dX11_keepForUndo_22 (lv_topi (fun zi19 ea20 => ?_))
  have bd21 : (1 : Int) ≤ zi19.toInt ∧ zi19.toInt ≤ 40 := b_iadd ea20 bd6 bc_1 (by decide) (by decide) (by decide) (by decide)
  have qe22 : zi19.toInt = (zi5 : Int32).toInt + (1 : Int32).toInt := e_iadd ea20 bd6 bc_1 (by decide) (by decide)
  have qe23 : zi19.toInt = zi5.toInt + 1 := by have ha : (1 : Int32).toInt = 1 := (by decide); rw [ha] at qe22; exact qe22
  refine lv_bipush (v := 40) hx hb dX11_keepForUndo_23 (by decide) ?_
  refine lv_irem hx hb dX11_keepForUndo_25 (ne_z bc_40 (by decide)) (lv_topi (fun zi24 ea25 => ?_))
  have bd26 : (0 : Int) ≤ zi24.toInt ∧ zi24.toInt ≤ 39 := b_rem ea25 bd21 (by decide) (toi bc_40) (by decide) (by decide) (by decide)
  refine p_put (ci := 11) (v := .int zi24) (ty := .int) (C := RX11) (T := TX11) (N := 17) hx hb hT iw_X11 tyX11 tyX11_ok nmX11 hown hK hw hS hW kd900 (by decide) rfl rfl 9 (by decide) (hT _ tb_666) (fun _ h9 => h9) rfl (by decide +kernel) rfl rfl dX11_keepForUndo_26 (fun hp27 eh28 H locs hw hS => ?_)
  have ok29 := wr_12009 bd26 (by decide) (by decide) ok14 kd900 eh28
  refine lv_aload_n hx hb dX11_keepForUndo_29 rfl (lv_at hl 0 rfl) ?_
  refine lv_aload_n hx hb dX11_keepForUndo_30 rfl (lv_at hl 0 rfl) ?_
  obtain ⟨zi31, eq30, bd32⟩ := rd_12008 ok29 kd900
  refine p_get (ci := 11) (v := .int zi31) (C := RX11) (T := TX11) (N := 17) hx hb hT iw_X11 hown hK hw hW kd900 (by decide) rfl rfl 8 (by decide) eq30 (hT _ tb_665) (fun _ h9 => h9) dX11_keepForUndo_31 ?_
  refine lv_iconst (v := 1) hx hb dX11_keepForUndo_34 (by decide) ?_
  refine lv_iadd hx hb dX11_keepForUndo_35 (lv_topi (fun zi33 ea34 => ?_))
  have bd35 : (1 : Int) ≤ zi33.toInt ∧ zi33.toInt ≤ 41 := b_iadd ea34 bd32 bc_1 (by decide) (by decide) (by decide) (by decide)
  have qe36 : zi33.toInt = (zi31 : Int32).toInt + (1 : Int32).toInt := e_iadd ea34 bd32 bc_1 (by decide) (by decide)
  have qe37 : zi33.toInt = zi31.toInt + 1 := by have ha : (1 : Int32).toInt = 1 := (by decide); rw [ha] at qe36; exact qe36
  refine lv_bipush (v := 40) hx hb dX11_keepForUndo_36 (by decide) ?_
  refine va_mmin hx hb (hml.trans hl.1.symm) hown (hT _ tb_1055) (hT _ tb_791) (hT _ tb_123) (hT _ tb_792) (Nat.le_of_ble_eq_true rfl) (Nat.le_of_ble_eq_true rfl) (Nat.le_of_ble_eq_true rfl) (Nat.le_of_ble_eq_true rfl) dX11_keepForUndo_38 (lv_topi (fun zi38 ea39 => ?_))
  have bd40 : (1 : Int) ≤ zi38.toInt ∧ zi38.toInt ≤ 40 := b_min ea39 bd35 bc_40 (by decide) (by decide) (by decide)
  refine p_put (ci := 11) (v := .int zi38) (ty := .int) (C := RX11) (T := TX11) (N := 17) hx hb hT iw_X11 tyX11 tyX11_ok nmX11 hown hK hw hS hW kd900 (by decide) rfl rfl 8 (by decide) (hT _ tb_665) (fun _ h9 => h9) rfl (by decide +kernel) rfl rfl dX11_keepForUndo_41 (fun hp41 eh42 H locs hw hS => ?_)
  have ok43 := wr_12008 bd40 (by decide) (by decide) ok29 kd900 eh42
  refine lv_aload_n hx hb dX11_keepForUndo_44 rfl (lv_at hl 0 rfl) ?_
  refine kq_v hw hS hA (va_runV (As := []) (rest := []) ⟨hx, hb, hml, hown, hT⟩ (cX11_forgetSearches_0 l G cy ev K ln Ls hW _ hp41 ok43 qa900 kd900) (cwV 0 hT (good_V tb_977 tb_974 tb_976 tb_26 tb_105) rfl rfl rfl (by decide +kernel) ⟨Nat.le_of_ble_eq_true rfl, Nat.le_of_ble_eq_true rfl⟩) (pool_preV (ci := 11) hK hE hS hA hw hW kd900 (by decide) rfl) rfl rfl hl.1 rfl (lv_room (Nat.le_of_ble_eq_true rfl)) dX11_keepForUndo_45 ⟨Nat.le_of_ble_eq_true rfl, Nat.le_of_ble_eq_true rfl⟩) (fun hp44 H locs hq47 hw hS => ?_)
  obtain ⟨ok45, F46⟩ := hq47
  have hw : PW G cy K ln Ls A hp44 H := hw
  rw [hQ]
  exact kz_v hx hb hr hlocks hS hp44 hw ⟨ok45, (Fr.tr (Fr.put (cq := 12008) (Fr.put (cq := 12009) (Fr.tr (Fr.rf) F15 (by decide)) eh28 kd900 (cd_o (by decide)) (by decide)) eh42 kd900 (cd_o (by decide)) (by decide)) F46 (by decide))⟩ (Nat.le_of_ble_eq_true rfl) (Nat.le_of_ble_eq_true rfl) dX11_keepForUndo_48

set_option maxRecDepth 100000 in
set_option maxHeartbeats 4000000 in
theorem cX11_say_0 (l : Launch) (G : va_G) (cy : Nat → ClassId) (ev : Ew) (K ln : Nat → Nat) (Ls : List Nat) (hW : SW K ln Ls) (sz : Nat) (hp0 : Nat → Nat → Value) (ok0 : Ok K hp0) (qa900 : Nat) (zi901 : Int32) (kd900 : K qa900 = 12) : Met l yX11_say (WS yX11_say cX11_say 2 (some .int)) { frames := 5, cells := 0, slots := 0, locals := 124 } (PB2 [.ref qa900, .int zi901] sz G cy ev (va_pl Ls (cellOf cy K ln hp0))) (QBi (S := (Nat → Nat → Value)) (fun (r : Int32) (u : (Nat → Nat → Value)) => Ok K u ∧ Fr [1005, 3003, 3004, 5005, 8000, 8001, 8002, 8003, 8004, 8005, 8006, 8008, 12008, 12009, 27000, 40000, 41000, 42000] K hp0 u ∧ ((-1 : Int) ≤ r.toInt ∧ r.toInt ≤ 2)) G (fun u => va_pl Ls (cellOf cy K ln u)) (va_A (va_pl Ls (cellOf cy K ln hp0)) sz)) 0 0 (va_A (va_pl Ls (cellOf cy K ln hp0)) sz) := by
  refine met_of2 (y := yX11_say) (L := 2) (av := [.ref qa900, .int zi901]) (Qc := fun A => QBi (S := (Nat → Nat → Value)) (fun (r : Int32) (u : (Nat → Nat → Value)) => Ok K u ∧ Fr [1005, 3003, 3004, 5005, 8000, 8001, 8002, 8003, 8004, 8005, 8006, 8008, 12008, 12009, 27000, 40000, 41000, 42000] K hp0 u ∧ ((-1 : Int) ≤ r.toInt ∧ r.toInt ≤ 2)) G (fun u => va_pl Ls (cellOf cy K ln u)) A) (plainFor_of_name (by decide)) (Nat.le_of_ble_eq_true rfl) ?_
  intro p e s m below meth c hsz hx hb hr hml hown hT hlocks hin hK A hA hE hw hS ls hl
  have hw : PW G cy K ln Ls A hp0 s.heap := hw
  have hown : s.vm.findClass "LieClock" = some m.cls := hown
  have hl : lv_has ls 2 [(0, .ref qa900), (1, .int zi901)] := hl
  obtain ⟨Q, hQ⟩ : ∃ Q : State → Prop, Q = MQ below (QBi (S := (Nat → Nat → Value)) (fun (r : Int32) (u : (Nat → Nat → Value)) => Ok K u ∧ Fr [1005, 3003, 3004, 5005, 8000, 8001, 8002, 8003, 8004, 8005, 8006, 8008, 12008, 12009, 27000, 40000, 41000, 42000] K hp0 u ∧ ((-1 : Int) ≤ r.toInt ∧ r.toInt ≤ 2)) G (fun u => va_pl Ls (cellOf cy K ln u)) A) ([.ref qa900, .int zi901] : List Value).toArray s 0 0 A := ⟨_, rfl⟩
  rw [← hQ]
  refine lv_aload_n hx hb dX11_say_0 rfl (lv_at hl 0 rfl) ?_
  obtain ⟨qa2, eq1, kd3⟩ := rd_12003 ok0 kd900
  refine p_get (ci := 11) (v := .ref qa2) (C := RX11) (T := TX11) (N := 17) hx hb hT iw_X11 hown hK hw hW kd900 (by decide) rfl rfl 3 (by decide) eq1 (hT _ tb_660) (fun _ h9 => h9) dX11_say_1 ?_
  refine lv_iload_n hx hb dX11_say_4 rfl (lv_at hl 1 rfl) ?_
  refine kq_i hw hS hA (va_runV (As := [.int zi901]) (rest := []) ⟨hx, hb, hml, hown, hT⟩ (cX10_hasWord_0 l G cy ev K ln Ls hW _ hp0 ok0 qa2 zi901 kd3) (cwV 1 hT (good_V tb_997 tb_994 tb_995 tb_996 tb_107) rfl rfl rfl (by decide +kernel) ⟨Nat.le_of_ble_eq_true rfl, Nat.le_of_ble_eq_true rfl⟩) (pool_preV (ci := 10) hK hE hS hA hw hW kd3 (by decide) rfl) rfl rfl hl.1 rfl (lv_room (Nat.le_of_ble_eq_true rfl)) dX11_say_5 ⟨Nat.le_of_ble_eq_true rfl, Nat.le_of_ble_eq_true rfl⟩) (fun zi8 hp4 H locs hq7 hw hS => ?_)
  obtain ⟨ok5, F6, bd9, hc10⟩ := hq7
  obtain rfl : hp0 = hp4 := (Fr.nil F6).symm
  have hw : PW G cy K ln Ls A hp0 H := hw
  rcases b01 bd9 with cn11 | cn11
  · skip
    subst cn11
    refine lv_if_ne (tgt := 13) hx hb dX11_say_8 (by decide) (fun c => absurd (d_eq bc_0 bc_0) c) (fun _ => ?_)
    refine lv_iconst (v := (-1)) hx hb dX11_say_11 (by decide) ?_
    rw [hQ]
    exact kz_i hx hb hr hlocks hS rfl hp0 hw ⟨ok0, (Fr.rf), (b_wid2 bc_m1 (by decide) (by decide))⟩ (Nat.le_of_ble_eq_true rfl) (Nat.le_of_ble_eq_true rfl) dX11_say_12
  · skip
    subst cn11
    have bd12 : (0 : Int) ≤ zi901.toInt ∧ zi901.toInt ≤ 15 := b_meet (b_all zi901) (hc10 rfl) (by decide) (by decide)
    refine lv_if_ne (tgt := 13) hx hb dX11_say_8 (by decide) (fun _ => ?_) (fun c => absurd c (d_ne bc_1 bc_0 (by decide)))
    refine lv_aload_n hx hb dX11_say_13 rfl (lv_at hl 0 rfl) ?_
    refine kq_v hw hS hA (va_runV (As := []) (rest := []) ⟨hx, hb, hml, hown, hT⟩ (cX11_keepForUndo_0 l G cy ev K ln Ls hW _ hp0 ok0 qa900 kd900) (cwV 0 hT (good_V tb_1043 tb_1040 tb_1042 tb_27 tb_105) rfl rfl rfl (by decide +kernel) ⟨Nat.le_of_ble_eq_true rfl, Nat.le_of_ble_eq_true rfl⟩) (pool_preV (ci := 11) hK hE hS hA hw hW kd900 (by decide) rfl) rfl rfl hl.1 rfl (lv_room (Nat.le_of_ble_eq_true rfl)) dX11_say_14 ⟨Nat.le_of_ble_eq_true rfl, Nat.le_of_ble_eq_true rfl⟩) (fun hp13 H locs hq16 hw hS => ?_)
    obtain ⟨ok14, F15⟩ := hq16
    have hw : PW G cy K ln Ls A hp13 H := hw
    refine lv_aload_n hx hb dX11_say_17 rfl (lv_at hl 0 rfl) ?_
    obtain ⟨qa19, eq18, kd20⟩ := rd_12005 ok14 kd900
    refine p_get (ci := 11) (v := .ref qa19) (C := RX11) (T := TX11) (N := 17) hx hb hT iw_X11 hown hK hw hW kd900 (by decide) rfl rfl 5 (by decide) eq18 (hT _ tb_662) (fun _ h9 => h9) dX11_say_18 ?_
    refine lv_aload_n hx hb dX11_say_21 rfl (lv_at hl 0 rfl) ?_
    have eq21 : hp13 qa900 3 = .ref qa2 := Eq.trans (Fr.at (cq := 12003) F15 kd900 (cd_o (by decide)) (by decide)) eq1
    refine p_get (ci := 11) (v := .ref qa2) (C := RX11) (T := TX11) (N := 17) hx hb hT iw_X11 hown hK hw hW kd900 (by decide) rfl rfl 3 (by decide) eq21 (hT _ tb_660) (fun _ h9 => h9) dX11_say_22 ?_
    refine lv_iload_n hx hb dX11_say_25 rfl (lv_at hl 1 rfl) ?_
    refine kq_i hw hS hA (va_runV (As := [.ref qa2, .int zi901]) (rest := []) ⟨hx, hb, hml, hown, hT⟩ (cX7_utter_0 l G cy ev K ln Ls hW _ hp13 ok14 qa19 qa2 zi901 kd20 kd3 (b_wid2 bd12 (by decide) (by decide))) (cwV 2 hT (good_V tb_1059 tb_1056 tb_1057 tb_1058 tb_115) rfl rfl rfl (by decide +kernel) ⟨Nat.le_of_ble_eq_true rfl, Nat.le_of_ble_eq_true rfl⟩) (pool_preV (ci := 7) hK hE hS hA hw hW kd20 (by decide) rfl) rfl rfl hl.1 rfl (lv_room (Nat.le_of_ble_eq_true rfl)) dX11_say_26 ⟨Nat.le_of_ble_eq_true rfl, Nat.le_of_ble_eq_true rfl⟩) (fun zi26 hp22 H locs hq25 hw hS => ?_)
    obtain ⟨ok23, F24, bd27⟩ := hq25
    have hw : PW G cy K ln Ls A hp22 H := hw
    rw [hQ]
    exact kz_i hx hb hr hlocks hS rfl hp22 hw ⟨ok23, (Fr.tr (Fr.tr (Fr.rf) F15 (by decide)) F24 (by decide)), (b_wid2 bd27 (by decide) (by decide))⟩ (Nat.le_of_ble_eq_true rfl) (Nat.le_of_ble_eq_true rfl) dX11_say_29

set_option maxRecDepth 100000 in
set_option maxHeartbeats 4000000 in
theorem cX11_look_0 (l : Launch) (G : va_G) (cy : Nat → ClassId) (ev : Ew) (K ln : Nat → Nat) (Ls : List Nat) (hW : SW K ln Ls) (sz : Nat) (hp0 : Nat → Nat → Value) (ok0 : Ok K hp0) (qa900 : Nat) (zi901 : Int32) (kd900 : K qa900 = 12) : Met l yX11_look (WS yX11_look cX11_look 2 (some .int)) { frames := 5, cells := 0, slots := 0, locals := 121 } (PB2 [.ref qa900, .int zi901] sz G cy ev (va_pl Ls (cellOf cy K ln hp0))) (QBi (S := (Nat → Nat → Value)) (fun (r : Int32) (u : (Nat → Nat → Value)) => Ok K u ∧ Fr [1005, 3003, 3004, 5005, 8000, 8001, 8002, 8003, 8004, 8005, 8006, 8008, 12008, 12009, 27000, 40000, 41000, 42000] K hp0 u) G (fun u => va_pl Ls (cellOf cy K ln u)) (va_A (va_pl Ls (cellOf cy K ln hp0)) sz)) 0 0 (va_A (va_pl Ls (cellOf cy K ln hp0)) sz) := by
  refine met_of2 (y := yX11_look) (L := 2) (av := [.ref qa900, .int zi901]) (Qc := fun A => QBi (S := (Nat → Nat → Value)) (fun (r : Int32) (u : (Nat → Nat → Value)) => Ok K u ∧ Fr [1005, 3003, 3004, 5005, 8000, 8001, 8002, 8003, 8004, 8005, 8006, 8008, 12008, 12009, 27000, 40000, 41000, 42000] K hp0 u) G (fun u => va_pl Ls (cellOf cy K ln u)) A) (plainFor_of_name (by decide)) (Nat.le_of_ble_eq_true rfl) ?_
  intro p e s m below meth c hsz hx hb hr hml hown hT hlocks hin hK A hA hE hw hS ls hl
  have hw : PW G cy K ln Ls A hp0 s.heap := hw
  have hown : s.vm.findClass "LieClock" = some m.cls := hown
  have hl : lv_has ls 2 [(0, .ref qa900), (1, .int zi901)] := hl
  obtain ⟨Q, hQ⟩ : ∃ Q : State → Prop, Q = MQ below (QBi (S := (Nat → Nat → Value)) (fun (r : Int32) (u : (Nat → Nat → Value)) => Ok K u ∧ Fr [1005, 3003, 3004, 5005, 8000, 8001, 8002, 8003, 8004, 8005, 8006, 8008, 12008, 12009, 27000, 40000, 41000, 42000] K hp0 u) G (fun u => va_pl Ls (cellOf cy K ln u)) A) ([.ref qa900, .int zi901] : List Value).toArray s 0 0 A := ⟨_, rfl⟩
  rw [← hQ]
  refine lv_iload_n hx hb dX11_look_0 rfl (lv_at hl 1 rfl) ?_
  refine lv_if_lt (tgt := 15) hx hb dX11_look_1 (by decide) (fun cn1 => ?_) (fun cn1 => ?_)
  · skip
    have bd2 : (-2147483648 : Int) ≤ zi901.toInt ∧ zi901.toInt ≤ -1 := r_lt_x cn1 (b_all zi901) bc_0 (by decide) (by decide)
    refine lv_iconst (v := (-1)) hx hb dX11_look_15 (by decide) ?_
    rw [hQ]
    exact kz_i hx hb hr hlocks hS rfl hp0 hw ⟨ok0, (Fr.rf)⟩ (Nat.le_of_ble_eq_true rfl) (Nat.le_of_ble_eq_true rfl) dX11_look_16
  · skip
    have bd3 : (0 : Int) ≤ zi901.toInt ∧ zi901.toInt ≤ 2147483647 := r_le_y (Int32.not_lt.mp cn1) bc_0 (b_all zi901) (by decide) (by decide)
    refine lv_iload_n hx hb dX11_look_4 rfl (lv_at hl 1 rfl) ?_
    refine lv_aload_n hx hb dX11_look_5 rfl (lv_at hl 0 rfl) ?_
    obtain ⟨qa5, eq4, kd6⟩ := rd_12003 ok0 kd900
    refine p_get (ci := 11) (v := .ref qa5) (C := RX11) (T := TX11) (N := 17) hx hb hT iw_X11 hown hK hw hW kd900 (by decide) rfl rfl 3 (by decide) eq4 (hT _ tb_660) (fun _ h9 => h9) dX11_look_6 ?_
    obtain ⟨zi8, eq7, bd9⟩ := rd_11000 ok0 kd6
    refine p_getN (ci := 10) (v := .int zi8) (C := RX10) (T := TX10) (N := 20) hx hb hT iw_X10 hown hK hw hW kd6 (by decide) rfl rfl 0 (by decide) eq7 (hK.fl nw_82) (fun _ h9 => h9) dX11_look_9 ?_
    refine lv_icmp_lt (tgt := 17) hx hb dX11_look_12 (by decide) (fun cn10 => ?_) (fun cn10 => ?_)
    · skip
      have bd11 : (0 : Int) ≤ zi901.toInt ∧ zi901.toInt ≤ 5 := r_lt_x cn10 bd3 bd9 (by decide) (by decide)
      have bd12 : (1 : Int) ≤ zi8.toInt ∧ zi8.toInt ≤ 6 := r_lt_y cn10 bd3 bd9 (by decide) (by decide)
      refine lv_aload_n hx hb dX11_look_17 rfl (lv_at hl 0 rfl) ?_
      obtain ⟨qa14, eq13, kd15⟩ := rd_12005 ok0 kd900
      refine p_get (ci := 11) (v := .ref qa14) (C := RX11) (T := TX11) (N := 17) hx hb hT iw_X11 hown hK hw hW kd900 (by decide) rfl rfl 5 (by decide) eq13 (hT _ tb_662) (fun _ h9 => h9) dX11_look_18 ?_
      obtain ⟨zi17, eq16⟩ := rd_8003 ok0 kd15
      refine p_getN (ci := 7) (v := .int zi17) (C := RX7) (T := TX7) (N := 13) hx hb hT iw_X7 hown hK hw hW kd15 (by decide) rfl rfl 3 (by decide) eq16 (hK.fl nw_321) (fun _ h9 => h9) dX11_look_21 ?_
      refine lv_iload_n hx hb dX11_look_24 rfl (lv_at hl 1 rfl) ?_
      refine lv_ishr hx hb dX11_look_25 (lv_topi (fun zi18 ea19 => ?_))
      refine lv_iconst (v := 1) hx hb dX11_look_26 (by decide) ?_
      refine lv_iand hx hb dX11_look_27 (lv_topi (fun zi20 ea21 => ?_))
      have bd22 : (0 : Int) ≤ zi20.toInt ∧ zi20.toInt ≤ 1 := b_and_r ea21 bc_1 (by decide) (by decide) (by decide)
      refine lv_if_eq (tgt := 34) hx hb dX11_look_28 (by decide) (fun cn23 => ?_) (fun cn23 => ?_)
      · skip
        have bd24 : (0 : Int) ≤ zi20.toInt ∧ zi20.toInt ≤ 0 := r_eq_x cn23 bd22 bc_0 (by decide) (by decide)
        refine lv_aload_n hx hb dX11_look_34 rfl (lv_at hl 0 rfl) ?_
        refine kq_v hw hS hA (va_runV (As := []) (rest := []) ⟨hx, hb, hml, hown, hT⟩ (cX11_keepForUndo_0 l G cy ev K ln Ls hW _ hp0 ok0 qa900 kd900) (cwV 0 hT (good_V tb_1043 tb_1040 tb_1042 tb_27 tb_105) rfl rfl rfl (by decide +kernel) ⟨Nat.le_of_ble_eq_true rfl, Nat.le_of_ble_eq_true rfl⟩) (pool_preV (ci := 11) hK hE hS hA hw hW kd900 (by decide) rfl) rfl rfl hl.1 rfl (lv_room (Nat.le_of_ble_eq_true rfl)) dX11_look_35 ⟨Nat.le_of_ble_eq_true rfl, Nat.le_of_ble_eq_true rfl⟩) (fun hp25 H locs hq28 hw hS => ?_)
        obtain ⟨ok26, F27⟩ := hq28
        have hw : PW G cy K ln Ls A hp25 H := hw
        refine lv_aload_n hx hb dX11_look_38 rfl (lv_at hl 0 rfl) ?_
        have eq30 : hp25 qa900 5 = .ref qa14 := Eq.trans (Fr.at (cq := 12005) F27 kd900 (cd_o (by decide)) (by decide)) eq13
        refine p_get (ci := 11) (v := .ref qa14) (C := RX11) (T := TX11) (N := 17) hx hb hT iw_X11 hown hK hw hW kd900 (by decide) rfl rfl 5 (by decide) eq30 (hT _ tb_662) (fun _ h9 => h9) dX11_look_39 ?_
        refine lv_aload_n hx hb dX11_look_42 rfl (lv_at hl 0 rfl) ?_
        have eq31 : hp25 qa900 3 = .ref qa5 := Eq.trans (Fr.at (cq := 12003) F27 kd900 (cd_o (by decide)) (by decide)) eq4
        refine p_get (ci := 11) (v := .ref qa5) (C := RX11) (T := TX11) (N := 17) hx hb hT iw_X11 hown hK hw hW kd900 (by decide) rfl rfl 3 (by decide) eq31 (hT _ tb_660) (fun _ h9 => h9) dX11_look_43 ?_
        refine lv_iload_n hx hb dX11_look_46 rfl (lv_at hl 1 rfl) ?_
        refine kq_i hw hS hA (va_runV (As := [.ref qa5, .int zi901]) (rest := []) ⟨hx, hb, hml, hown, hT⟩ (cX7_reveal_0 l G cy ev K ln Ls hW _ hp25 ok26 qa14 qa5 zi901 kd15 kd6 (b_wid2 bd11 (by decide) (by decide))) (cwV 2 hT (good_V tb_1106 tb_1103 tb_1104 tb_1105 tb_115) rfl rfl rfl (by decide +kernel) ⟨Nat.le_of_ble_eq_true rfl, Nat.le_of_ble_eq_true rfl⟩) (pool_preV (ci := 7) hK hE hS hA hw hW kd15 (by decide) rfl) rfl rfl hl.1 rfl (lv_room (Nat.le_of_ble_eq_true rfl)) dX11_look_47 ⟨Nat.le_of_ble_eq_true rfl, Nat.le_of_ble_eq_true rfl⟩) (fun zi36 hp32 H locs hq35 hw hS => ?_)
        obtain ⟨ok33, F34⟩ := hq35
        have hw : PW G cy K ln Ls A hp32 H := hw
        rw [hQ]
        exact kz_i hx hb hr hlocks hS rfl hp32 hw ⟨ok33, (Fr.tr (Fr.tr (Fr.rf) F27 (by decide)) F34 (by decide))⟩ (Nat.le_of_ble_eq_true rfl) (Nat.le_of_ble_eq_true rfl) dX11_look_50
      · skip
        have bd37 : (1 : Int) ≤ zi20.toInt ∧ zi20.toInt ≤ 1 := r_ne_lo cn23 bd22 (toi bc_0) (by decide) (by decide)
        refine lv_bipush (v := (-2)) hx hb dX11_look_31 (by decide) ?_
        rw [hQ]
        exact kz_i hx hb hr hlocks hS rfl hp0 hw ⟨ok0, (Fr.rf)⟩ (Nat.le_of_ble_eq_true rfl) (Nat.le_of_ble_eq_true rfl) dX11_look_33
    · skip
      refine lv_iconst (v := (-1)) hx hb dX11_look_15 (by decide) ?_
      rw [hQ]
      exact kz_i hx hb hr hlocks hS rfl hp0 hw ⟨ok0, (Fr.rf)⟩ (Nat.le_of_ble_eq_true rfl) (Nat.le_of_ble_eq_true rfl) dX11_look_16

set_option maxRecDepth 100000 in
set_option maxHeartbeats 4000000 in
theorem cX11_pause_0 (l : Launch) (G : va_G) (cy : Nat → ClassId) (ev : Ew) (K ln : Nat → Nat) (Ls : List Nat) (hW : SW K ln Ls) (sz : Nat) (hp0 : Nat → Nat → Value) (ok0 : Ok K hp0) (qa900 : Nat) (zi901 : Int32) (kd900 : K qa900 = 12) : Met l yX11_pause (WS yX11_pause cX11_pause 2 (some .int)) { frames := 4, cells := 0, slots := 0, locals := 97 } (PB2 [.ref qa900, .int zi901] sz G cy ev (va_pl Ls (cellOf cy K ln hp0))) (QBi (S := (Nat → Nat → Value)) (fun (r : Int32) (u : (Nat → Nat → Value)) => Ok K u ∧ Fr [1005, 5005, 8000, 8001, 8002, 8003, 8004, 8005, 8006, 8008, 12008, 12009, 40000, 41000, 42000] K hp0 u) G (fun u => va_pl Ls (cellOf cy K ln u)) (va_A (va_pl Ls (cellOf cy K ln hp0)) sz)) 0 0 (va_A (va_pl Ls (cellOf cy K ln hp0)) sz) := by
  refine met_of2 (y := yX11_pause) (L := 2) (av := [.ref qa900, .int zi901]) (Qc := fun A => QBi (S := (Nat → Nat → Value)) (fun (r : Int32) (u : (Nat → Nat → Value)) => Ok K u ∧ Fr [1005, 5005, 8000, 8001, 8002, 8003, 8004, 8005, 8006, 8008, 12008, 12009, 40000, 41000, 42000] K hp0 u) G (fun u => va_pl Ls (cellOf cy K ln u)) A) (plainFor_of_name (by decide)) (Nat.le_of_ble_eq_true rfl) ?_
  intro p e s m below meth c hsz hx hb hr hml hown hT hlocks hin hK A hA hE hw hS ls hl
  have hw : PW G cy K ln Ls A hp0 s.heap := hw
  have hown : s.vm.findClass "LieClock" = some m.cls := hown
  have hl : lv_has ls 2 [(0, .ref qa900), (1, .int zi901)] := hl
  obtain ⟨Q, hQ⟩ : ∃ Q : State → Prop, Q = MQ below (QBi (S := (Nat → Nat → Value)) (fun (r : Int32) (u : (Nat → Nat → Value)) => Ok K u ∧ Fr [1005, 5005, 8000, 8001, 8002, 8003, 8004, 8005, 8006, 8008, 12008, 12009, 40000, 41000, 42000] K hp0 u) G (fun u => va_pl Ls (cellOf cy K ln u)) A) ([.ref qa900, .int zi901] : List Value).toArray s 0 0 A := ⟨_, rfl⟩
  rw [← hQ]
  refine lv_iload_n hx hb dX11_pause_0 rfl (lv_at hl 1 rfl) ?_
  refine lv_if_lt (tgt := 11) hx hb dX11_pause_1 (by decide) (fun cn1 => ?_) (fun cn1 => ?_)
  · skip
    have bd2 : (-2147483648 : Int) ≤ zi901.toInt ∧ zi901.toInt ≤ -1 := r_lt_x cn1 (b_all zi901) bc_0 (by decide) (by decide)
    refine lv_ldc (v := (-1000000)) hx hb hown (hT _ tb_1022) dX11_pause_11 ?_
    rw [hQ]
    exact kz_i hx hb hr hlocks hS rfl hp0 hw ⟨ok0, (Fr.rf)⟩ (Nat.le_of_ble_eq_true rfl) (Nat.le_of_ble_eq_true rfl) dX11_pause_13
  · skip
    have bd3 : (0 : Int) ≤ zi901.toInt ∧ zi901.toInt ≤ 2147483647 := r_le_y (Int32.not_lt.mp cn1) bc_0 (b_all zi901) (by decide) (by decide)
    refine lv_iload_n hx hb dX11_pause_4 rfl (lv_at hl 1 rfl) ?_
    refine lv_sipush (v := 3000) hx hb dX11_pause_5 (by decide) ?_
    refine lv_icmp_le (tgt := 14) hx hb dX11_pause_8 (by decide) (fun cn4 => ?_) (fun cn4 => ?_)
    · skip
      have bd5 : (0 : Int) ≤ zi901.toInt ∧ zi901.toInt ≤ 3000 := r_le_x cn4 bd3 bc_3000 (by decide) (by decide)
      refine lv_iload_n hx hb dX11_pause_14 rfl (lv_at hl 1 rfl) ?_
      have jn28 : ∀ (hp25 : Nat → Nat → Value)  (H : Heap) (locs : List Loc) (ls : Array Slot), Ok K hp25 → Fr [1005, 5005, 8000, 8001, 8002, 8003, 8004, 8005, 8006, 8008, 12008, 12009, 40000, 41000, 42000] K hp0 hp25 → lv_has ls 2 [(0, .ref qa900)] → PW G cy K ln Ls A hp25 H → va_S A s.heap H locs → W p l e ({ frames := 4, cells := 0, slots := 0, locals := 97 } : Room) s m ([.ref qa900, .int zi901] : List Value).toArray below meth c H locs 0 0 Q (F0 m 34 ls []) := by
        intro hp25 H locs ls ok27 F26 hl hw hS
        refine lv_aload_n hx hb dX11_pause_34 rfl (lv_at hl 0 rfl) ?_
        obtain ⟨qa30, eq29, kd31⟩ := rd_12005 ok27 kd900
        refine p_get (ci := 11) (v := .ref qa30) (C := RX11) (T := TX11) (N := 17) hx hb hT iw_X11 hown hK hw hW kd900 (by decide) rfl rfl 5 (by decide) eq29 (hT _ tb_662) (fun _ h9 => h9) dX11_pause_35 ?_
        obtain ⟨zi33, eq32⟩ := rd_8000 ok27 kd31
        refine p_getN (ci := 7) (v := .int zi33) (C := RX7) (T := TX7) (N := 13) hx hb hT iw_X7 hown hK hw hW kd31 (by decide) rfl rfl 0 (by decide) eq32 (hK.fl nw_311) (fun _ h9 => h9) dX11_pause_38 ?_
        rw [hQ]
        exact kz_i hx hb hr hlocks hS rfl hp25 hw ⟨ok27, (Fr.tr (Fr.rf) F26 (by decide))⟩ (Nat.le_of_ble_eq_true rfl) (Nat.le_of_ble_eq_true rfl) dX11_pause_41
      refine lv_if_le (tgt := 34) hx hb dX11_pause_15 (by decide) (fun cn6 => ?_) (fun cn6 => ?_)
      · skip
        have bd34 : (0 : Int) ≤ zi901.toInt ∧ zi901.toInt ≤ 0 := r_le_x cn6 bd5 bc_0 (by decide) (by decide)
        exact jn28 hp0 _ _ ls ok0 (Fr.rf) (lv_sub hl [0] rfl) hw hS
      · skip
        have bd35 : (1 : Int) ≤ zi901.toInt ∧ zi901.toInt ≤ 3000 := r_lt_y (Int32.not_le.mp cn6) bc_0 bd5 (by decide) (by decide)
        refine lv_aload_n hx hb dX11_pause_18 rfl (lv_at hl 0 rfl) ?_
        refine kq_v hw hS hA (va_runV (As := []) (rest := []) ⟨hx, hb, hml, hown, hT⟩ (cX11_keepForUndo_0 l G cy ev K ln Ls hW _ hp0 ok0 qa900 kd900) (cwV 0 hT (good_V tb_1043 tb_1040 tb_1042 tb_27 tb_105) rfl rfl rfl (by decide +kernel) ⟨Nat.le_of_ble_eq_true rfl, Nat.le_of_ble_eq_true rfl⟩) (pool_preV (ci := 11) hK hE hS hA hw hW kd900 (by decide) rfl) rfl rfl hl.1 rfl (lv_room (Nat.le_of_ble_eq_true rfl)) dX11_pause_19 ⟨Nat.le_of_ble_eq_true rfl, Nat.le_of_ble_eq_true rfl⟩) (fun hp36 H locs hq39 hw hS => ?_)
        obtain ⟨ok37, F38⟩ := hq39
        have hw : PW G cy K ln Ls A hp36 H := hw
        refine lv_aload_n hx hb dX11_pause_22 rfl (lv_at hl 0 rfl) ?_
        obtain ⟨qa42, eq41, kd43⟩ := rd_12005 ok37 kd900
        refine p_get (ci := 11) (v := .ref qa42) (C := RX11) (T := TX11) (N := 17) hx hb hT iw_X11 hown hK hw hW kd900 (by decide) rfl rfl 5 (by decide) eq41 (hT _ tb_662) (fun _ h9 => h9) dX11_pause_23 ?_
        refine lv_aload_n hx hb dX11_pause_26 rfl (lv_at hl 0 rfl) ?_
        obtain ⟨qa45, eq44, kd46⟩ := rd_12003 ok37 kd900
        refine p_get (ci := 11) (v := .ref qa45) (C := RX11) (T := TX11) (N := 17) hx hb hT iw_X11 hown hK hw hW kd900 (by decide) rfl rfl 3 (by decide) eq44 (hT _ tb_660) (fun _ h9 => h9) dX11_pause_27 ?_
        refine lv_iload_n hx hb dX11_pause_30 rfl (lv_at hl 1 rfl) ?_
        refine kq_v hw hS hA (va_runV (As := [.ref qa45, .int zi901]) (rest := []) ⟨hx, hb, hml, hown, hT⟩ (cX7_goForward_0 l G cy ev K ln Ls hW _ hp36 ok37 qa42 qa45 zi901 kd43 kd46) (cwV 2 hT (good_V tb_1063 tb_1111 tb_1061 tb_1062 tb_115) rfl rfl rfl (by decide +kernel) ⟨Nat.le_of_ble_eq_true rfl, Nat.le_of_ble_eq_true rfl⟩) (pool_preV (ci := 7) hK hE hS hA hw hW kd43 (by decide) rfl) rfl rfl hl.1 rfl (lv_room (Nat.le_of_ble_eq_true rfl)) dX11_pause_31 ⟨Nat.le_of_ble_eq_true rfl, Nat.le_of_ble_eq_true rfl⟩) (fun hp47 H locs hq50 hw hS => ?_)
        obtain ⟨ok48, F49⟩ := hq50
        have hw : PW G cy K ln Ls A hp47 H := hw
        exact jn28 hp47 _ _ ls ok48 (Fr.tr (Fr.tr (Fr.rf) F38 (by decide)) F49 (by decide)) (lv_sub hl [0] rfl) hw hS
    · skip
      have bd52 : (3001 : Int) ≤ zi901.toInt ∧ zi901.toInt ≤ 2147483647 := r_lt_y (Int32.not_le.mp cn4) bc_3000 bd3 (by decide) (by decide)
      refine lv_ldc (v := (-1000000)) hx hb hown (hT _ tb_1022) dX11_pause_11 ?_
      rw [hQ]
      exact kz_i hx hb hr hlocks hS rfl hp0 hw ⟨ok0, (Fr.rf)⟩ (Nat.le_of_ble_eq_true rfl) (Nat.le_of_ble_eq_true rfl) dX11_pause_13

set_option maxRecDepth 100000 in
set_option maxHeartbeats 4000000 in
theorem cX11_undo_0 (l : Launch) (G : va_G) (cy : Nat → ClassId) (ev : Ew) (K ln : Nat → Nat) (Ls : List Nat) (hW : SW K ln Ls) (sz : Nat) (hp0 : Nat → Nat → Value) (ok0 : Ok K hp0) (qa900 : Nat) (kd900 : K qa900 = 12) : Met l yX11_undo (WS yX11_undo cX11_undo 1 (some .boolean)) { frames := 2, cells := 0, slots := 0, locals := 61 } (PB2 [.ref qa900] sz G cy ev (va_pl Ls (cellOf cy K ln hp0))) (QBi (S := (Nat → Nat → Value)) (fun (r : Int32) (u : (Nat → Nat → Value)) => Ok K u ∧ Fr [1005, 5005, 8000, 8001, 8002, 8003, 8004, 8005, 12008, 12009, 40000, 41000, 42000] K hp0 u ∧ ((0 : Int) ≤ r.toInt ∧ r.toInt ≤ 1)) G (fun u => va_pl Ls (cellOf cy K ln u)) (va_A (va_pl Ls (cellOf cy K ln hp0)) sz)) 0 0 (va_A (va_pl Ls (cellOf cy K ln hp0)) sz) := by
  refine met_of2 (y := yX11_undo) (L := 1) (av := [.ref qa900]) (Qc := fun A => QBi (S := (Nat → Nat → Value)) (fun (r : Int32) (u : (Nat → Nat → Value)) => Ok K u ∧ Fr [1005, 5005, 8000, 8001, 8002, 8003, 8004, 8005, 12008, 12009, 40000, 41000, 42000] K hp0 u ∧ ((0 : Int) ≤ r.toInt ∧ r.toInt ≤ 1)) G (fun u => va_pl Ls (cellOf cy K ln u)) A) (plainFor_of_name (by decide)) (Nat.le_of_ble_eq_true rfl) ?_
  intro p e s m below meth c hsz hx hb hr hml hown hT hlocks hin hK A hA hE hw hS ls hl
  have hw : PW G cy K ln Ls A hp0 s.heap := hw
  have hown : s.vm.findClass "LieClock" = some m.cls := hown
  have hl : lv_has ls 1 [(0, .ref qa900)] := hl
  obtain ⟨Q, hQ⟩ : ∃ Q : State → Prop, Q = MQ below (QBi (S := (Nat → Nat → Value)) (fun (r : Int32) (u : (Nat → Nat → Value)) => Ok K u ∧ Fr [1005, 5005, 8000, 8001, 8002, 8003, 8004, 8005, 12008, 12009, 40000, 41000, 42000] K hp0 u ∧ ((0 : Int) ≤ r.toInt ∧ r.toInt ≤ 1)) G (fun u => va_pl Ls (cellOf cy K ln u)) A) ([.ref qa900] : List Value).toArray s 0 0 A := ⟨_, rfl⟩
  rw [← hQ]
  refine lv_aload_n hx hb dX11_undo_0 rfl (lv_at hl 0 rfl) ?_
  obtain ⟨zi2, eq1, bd3⟩ := rd_12008 ok0 kd900
  refine p_get (ci := 11) (v := .int zi2) (C := RX11) (T := TX11) (N := 17) hx hb hT iw_X11 hown hK hw hW kd900 (by decide) rfl rfl 8 (by decide) eq1 (hT _ tb_665) (fun _ h9 => h9) dX11_undo_1 ?_
  refine lv_if_gt (tgt := 9) hx hb dX11_undo_4 (by decide) (fun cn4 => ?_) (fun cn4 => ?_)
  · skip
    have bd5 : (1 : Int) ≤ zi2.toInt ∧ zi2.toInt ≤ 40 := r_lt_y cn4 bc_0 bd3 (by decide) (by decide)
    refine lv_aload_n hx hb dX11_undo_9 rfl (lv_at hl 0 rfl) ?_
    refine lv_dup hx hb dX11_undo_10 rfl ?_
    refine p_get (ci := 11) (v := .int zi2) (C := RX11) (T := TX11) (N := 17) hx hb hT iw_X11 hown hK hw hW kd900 (by decide) rfl rfl 8 (by decide) eq1 (hT _ tb_665) (fun _ h9 => h9) dX11_undo_11 ?_
    refine lv_iconst (v := 1) hx hb dX11_undo_14 (by decide) ?_
    refine lv_isub hx hb dX11_undo_15 (lv_topi (fun zi6 ea7 => ?_))
    have bd8 : (0 : Int) ≤ zi6.toInt ∧ zi6.toInt ≤ 39 := b_isub ea7 bd5 bc_1 (by decide) (by decide) (by decide) (by decide)
    have qe9 : zi6.toInt = (zi2 : Int32).toInt - (1 : Int32).toInt := e_isub ea7 bd5 bc_1 (by decide) (by decide)
    have qe10 : zi6.toInt = zi2.toInt - 1 := by have ha : (1 : Int32).toInt = 1 := (by decide); rw [ha] at qe9; exact qe9
    refine p_put (ci := 11) (v := .int zi6) (ty := .int) (C := RX11) (T := TX11) (N := 17) hx hb hT iw_X11 tyX11 tyX11_ok nmX11 hown hK hw hS hW kd900 (by decide) rfl rfl 8 (by decide) (hT _ tb_665) (fun _ h9 => h9) rfl (by decide +kernel) rfl rfl dX11_undo_16 (fun hp11 eh12 H locs hw hS => ?_)
    have ok13 := wr_12008 bd8 (by decide) (by decide) ok0 kd900 eh12
    refine lv_aload_n hx hb dX11_undo_19 rfl (lv_at hl 0 rfl) ?_
    refine lv_aload_n hx hb dX11_undo_20 rfl (lv_at hl 0 rfl) ?_
    obtain ⟨zi15, eq14, bd16⟩ := rd_12009 ok13 kd900
    refine p_get (ci := 11) (v := .int zi15) (C := RX11) (T := TX11) (N := 17) hx hb hT iw_X11 hown hK hw hW kd900 (by decide) rfl rfl 9 (by decide) eq14 (hT _ tb_666) (fun _ h9 => h9) dX11_undo_21 ?_
    refine lv_bipush (v := 40) hx hb dX11_undo_24 (by decide) ?_
    refine lv_iadd hx hb dX11_undo_26 (lv_topi (fun zi17 ea18 => ?_))
    have bd19 : (40 : Int) ≤ zi17.toInt ∧ zi17.toInt ≤ 79 := b_iadd ea18 bd16 bc_40 (by decide) (by decide) (by decide) (by decide)
    have qe20 : zi17.toInt = (zi15 : Int32).toInt + (40 : Int32).toInt := e_iadd ea18 bd16 bc_40 (by decide) (by decide)
    have qe21 : zi17.toInt = zi15.toInt + 40 := by have ha : (40 : Int32).toInt = 40 := (by decide); rw [ha] at qe20; exact qe20
    refine lv_iconst (v := 1) hx hb dX11_undo_27 (by decide) ?_
    refine lv_isub hx hb dX11_undo_28 (lv_topi (fun zi22 ea23 => ?_))
    have bd24 : (39 : Int) ≤ zi22.toInt ∧ zi22.toInt ≤ 78 := b_isub ea23 bd19 bc_1 (by decide) (by decide) (by decide) (by decide)
    have qe25 : zi22.toInt = (zi17 : Int32).toInt - (1 : Int32).toInt := e_isub ea23 bd19 bc_1 (by decide) (by decide)
    have qe26 : zi22.toInt = zi17.toInt - 1 := by have ha : (1 : Int32).toInt = 1 := (by decide); rw [ha] at qe25; exact qe25
    refine lv_bipush (v := 40) hx hb dX11_undo_29 (by decide) ?_
    refine lv_irem hx hb dX11_undo_31 (ne_z bc_40 (by decide)) (lv_topi (fun zi27 ea28 => ?_))
    have bd29 : (0 : Int) ≤ zi27.toInt ∧ zi27.toInt ≤ 39 := b_rem ea28 bd24 (by decide) (toi bc_40) (by decide) (by decide) (by decide)
    refine p_put (ci := 11) (v := .int zi27) (ty := .int) (C := RX11) (T := TX11) (N := 17) hx hb hT iw_X11 tyX11 tyX11_ok nmX11 hown hK hw hS hW kd900 (by decide) rfl rfl 9 (by decide) (hT _ tb_666) (fun _ h9 => h9) rfl (by decide +kernel) rfl rfl dX11_undo_32 (fun hp30 eh31 H locs hw hS => ?_)
    have ok32 := wr_12009 bd29 (by decide) (by decide) ok13 kd900 eh31
    refine lv_aload_n hx hb dX11_undo_35 rfl (lv_at hl 0 rfl) ?_
    obtain ⟨qa34, eq33, kd35⟩ := rd_12005 ok32 kd900
    refine p_get (ci := 11) (v := .ref qa34) (C := RX11) (T := TX11) (N := 17) hx hb hT iw_X11 hown hK hw hW kd900 (by decide) rfl rfl 5 (by decide) eq33 (hT _ tb_662) (fun _ h9 => h9) dX11_undo_36 ?_
    refine lv_aload_n hx hb dX11_undo_39 rfl (lv_at hl 0 rfl) ?_
    obtain ⟨qa37, eq36, kd38⟩ := rd_12007 ok32 kd900
    refine p_get (ci := 11) (v := .ref qa37) (C := RX11) (T := TX11) (N := 17) hx hb hT iw_X11 hown hK hw hW kd900 (by decide) rfl rfl 7 (by decide) eq36 (hT _ tb_664) (fun _ h9 => h9) dX11_undo_40 ?_
    refine lv_aload_n hx hb dX11_undo_43 rfl (lv_at hl 0 rfl) ?_
    refine p_get (ci := 11) (v := .int zi27) (C := RX11) (T := TX11) (N := 17) hx hb hT iw_X11 hown hK hw hW kd900 (by decide) rfl rfl 9 (by decide) (hp_self eh31) (hT _ tb_666) (fun _ h9 => h9) dX11_undo_44 ?_
    obtain ⟨qa40, eq39, kd41⟩ := rd_56000 ok32 kd38 ((zi27 : Int32).toNatClampNeg)
    refine p_aald (v := qa40) hx hb hK hw hW kd38 (by decide) rfl (by decide) (by decide) rfl (hW.len kd38 (n := 40) rfl (by decide)) (vp_b bd29 (by decide) (by decide)) eq39 dX11_undo_47 ?_
    refine kq_v hw hS hA (va_runV (As := [.ref qa40]) (rest := []) ⟨hx, hb, hml, hown, hT⟩ (cX7_copyFrom_0 l G cy ev K ln Ls hW _ hp30 ok32 qa34 qa40 kd35 kd41) (cwV 1 hT (good_V tb_1047 tb_1044 tb_1045 tb_1046 tb_115) rfl rfl rfl (by decide +kernel) ⟨Nat.le_of_ble_eq_true rfl, Nat.le_of_ble_eq_true rfl⟩) (pool_preV (ci := 7) hK hE hS hA hw hW kd35 (by decide) rfl) rfl rfl hl.1 rfl (lv_room (Nat.le_of_ble_eq_true rfl)) dX11_undo_48 ⟨Nat.le_of_ble_eq_true rfl, Nat.le_of_ble_eq_true rfl⟩) (fun hp42 H locs hq45 hw hS => ?_)
    obtain ⟨ok43, F44⟩ := hq45
    have hw : PW G cy K ln Ls A hp42 H := hw
    refine lv_aload_n hx hb dX11_undo_51 rfl (lv_at hl 0 rfl) ?_
    refine kq_v hw hS hA (va_runV (As := []) (rest := []) ⟨hx, hb, hml, hown, hT⟩ (cX11_forgetSearches_0 l G cy ev K ln Ls hW _ hp42 ok43 qa900 kd900) (cwV 0 hT (good_V tb_977 tb_974 tb_976 tb_26 tb_105) rfl rfl rfl (by decide +kernel) ⟨Nat.le_of_ble_eq_true rfl, Nat.le_of_ble_eq_true rfl⟩) (pool_preV (ci := 11) hK hE hS hA hw hW kd900 (by decide) rfl) rfl rfl hl.1 rfl (lv_room (Nat.le_of_ble_eq_true rfl)) dX11_undo_52 ⟨Nat.le_of_ble_eq_true rfl, Nat.le_of_ble_eq_true rfl⟩) (fun hp47 H locs hq50 hw hS => ?_)
    obtain ⟨ok48, F49⟩ := hq50
    have hw : PW G cy K ln Ls A hp47 H := hw
    refine lv_iconst (v := 1) hx hb dX11_undo_55 (by decide) ?_
    rw [hQ]
    exact kz_i hx hb hr hlocks hS (nz_n bc_1 (by decide) (by decide)) hp47 hw ⟨ok48, (Fr.tr (Fr.tr (Fr.put (cq := 12009) (Fr.put (cq := 12008) (Fr.rf) eh12 kd900 (cd_o (by decide)) (by decide)) eh31 kd900 (cd_o (by decide)) (by decide)) F44 (by decide)) F49 (by decide)), (b_wid2 bc_1 (by decide) (by decide))⟩ (Nat.le_of_ble_eq_true rfl) (Nat.le_of_ble_eq_true rfl) dX11_undo_56
  · skip
    have bd52 : (0 : Int) ≤ zi2.toInt ∧ zi2.toInt ≤ 0 := r_le_x (Int32.not_lt.mp cn4) bd3 bc_0 (by decide) (by decide)
    refine lv_iconst (v := 0) hx hb dX11_undo_7 (by decide) ?_
    rw [hQ]
    exact kz_i hx hb hr hlocks hS (nz_n bc_0 (by decide) (by decide)) hp0 hw ⟨ok0, (Fr.rf), (b_wid2 bc_0 (by decide) (by decide))⟩ (Nat.le_of_ble_eq_true rfl) (Nat.le_of_ble_eq_true rfl) dX11_undo_8

set_option maxRecDepth 100000 in
set_option maxHeartbeats 4000000 in
theorem cX11_would_0 (l : Launch) (G : va_G) (cy : Nat → ClassId) (ev : Ew) (K ln : Nat → Nat) (Ls : List Nat) (hW : SW K ln Ls) (sz : Nat) (hp0 : Nat → Nat → Value) (ok0 : Ok K hp0) (qa900 : Nat) (zi901 : Int32) (kd900 : K qa900 = 12) : Met l yX11_would (WS yX11_would cX11_would 2 (some .int)) { frames := 5, cells := 0, slots := 0, locals := 124 } (PB2 [.ref qa900, .int zi901] sz G cy ev (va_pl Ls (cellOf cy K ln hp0))) (QBi (S := (Nat → Nat → Value)) (fun (r : Int32) (u : (Nat → Nat → Value)) => Ok K u ∧ Fr [3003, 3004, 8000, 8001, 8002, 8003, 8004, 8005, 8006, 8008, 27000, 40000, 41000, 42000] K hp0 u) G (fun u => va_pl Ls (cellOf cy K ln u)) (va_A (va_pl Ls (cellOf cy K ln hp0)) sz)) 0 0 (va_A (va_pl Ls (cellOf cy K ln hp0)) sz) := by
  refine met_of2 (y := yX11_would) (L := 2) (av := [.ref qa900, .int zi901]) (Qc := fun A => QBi (S := (Nat → Nat → Value)) (fun (r : Int32) (u : (Nat → Nat → Value)) => Ok K u ∧ Fr [3003, 3004, 8000, 8001, 8002, 8003, 8004, 8005, 8006, 8008, 27000, 40000, 41000, 42000] K hp0 u) G (fun u => va_pl Ls (cellOf cy K ln u)) A) (plainFor_of_name (by decide)) (Nat.le_of_ble_eq_true rfl) ?_
  intro p e s m below meth c hsz hx hb hr hml hown hT hlocks hin hK A hA hE hw hS ls hl
  have hw : PW G cy K ln Ls A hp0 s.heap := hw
  have hown : s.vm.findClass "LieClock" = some m.cls := hown
  have hl : lv_has ls 2 [(0, .ref qa900), (1, .int zi901)] := hl
  obtain ⟨Q, hQ⟩ : ∃ Q : State → Prop, Q = MQ below (QBi (S := (Nat → Nat → Value)) (fun (r : Int32) (u : (Nat → Nat → Value)) => Ok K u ∧ Fr [3003, 3004, 8000, 8001, 8002, 8003, 8004, 8005, 8006, 8008, 27000, 40000, 41000, 42000] K hp0 u) G (fun u => va_pl Ls (cellOf cy K ln u)) A) ([.ref qa900, .int zi901] : List Value).toArray s 0 0 A := ⟨_, rfl⟩
  rw [← hQ]
  refine lv_aload_n hx hb dX11_would_0 rfl (lv_at hl 0 rfl) ?_
  obtain ⟨qa2, eq1, kd3⟩ := rd_12003 ok0 kd900
  refine p_get (ci := 11) (v := .ref qa2) (C := RX11) (T := TX11) (N := 17) hx hb hT iw_X11 hown hK hw hW kd900 (by decide) rfl rfl 3 (by decide) eq1 (hT _ tb_660) (fun _ h9 => h9) dX11_would_1 ?_
  refine lv_iload_n hx hb dX11_would_4 rfl (lv_at hl 1 rfl) ?_
  refine kq_i hw hS hA (va_runV (As := [.int zi901]) (rest := []) ⟨hx, hb, hml, hown, hT⟩ (cX10_hasWord_0 l G cy ev K ln Ls hW _ hp0 ok0 qa2 zi901 kd3) (cwV 1 hT (good_V tb_997 tb_994 tb_995 tb_996 tb_107) rfl rfl rfl (by decide +kernel) ⟨Nat.le_of_ble_eq_true rfl, Nat.le_of_ble_eq_true rfl⟩) (pool_preV (ci := 10) hK hE hS hA hw hW kd3 (by decide) rfl) rfl rfl hl.1 rfl (lv_room (Nat.le_of_ble_eq_true rfl)) dX11_would_5 ⟨Nat.le_of_ble_eq_true rfl, Nat.le_of_ble_eq_true rfl⟩) (fun zi8 hp4 H locs hq7 hw hS => ?_)
  obtain ⟨ok5, F6, bd9, hc10⟩ := hq7
  obtain rfl : hp0 = hp4 := (Fr.nil F6).symm
  have hw : PW G cy K ln Ls A hp0 H := hw
  rcases b01 bd9 with cn11 | cn11
  · skip
    subst cn11
    refine lv_if_ne (tgt := 14) hx hb dX11_would_8 (by decide) (fun c => absurd (d_eq bc_0 bc_0) c) (fun _ => ?_)
    refine lv_ldc (v := (-1000000)) hx hb hown (hT _ tb_1022) dX11_would_11 ?_
    rw [hQ]
    exact kz_i hx hb hr hlocks hS rfl hp0 hw ⟨ok0, (Fr.rf)⟩ (Nat.le_of_ble_eq_true rfl) (Nat.le_of_ble_eq_true rfl) dX11_would_13
  · skip
    subst cn11
    have bd12 : (0 : Int) ≤ zi901.toInt ∧ zi901.toInt ≤ 15 := b_meet (b_all zi901) (hc10 rfl) (by decide) (by decide)
    refine lv_if_ne (tgt := 14) hx hb dX11_would_8 (by decide) (fun _ => ?_) (fun c => absurd c (d_ne bc_1 bc_0 (by decide)))
    refine lv_aload_n hx hb dX11_would_14 rfl (lv_at hl 0 rfl) ?_
    obtain ⟨qa14, eq13, kd15⟩ := rd_12006 ok0 kd900
    refine p_get (ci := 11) (v := .ref qa14) (C := RX11) (T := TX11) (N := 17) hx hb hT iw_X11 hown hK hw hW kd900 (by decide) rfl rfl 6 (by decide) eq13 (hT _ tb_663) (fun _ h9 => h9) dX11_would_15 ?_
    refine lv_aload_n hx hb dX11_would_18 rfl (lv_at hl 0 rfl) ?_
    obtain ⟨qa17, eq16, kd18⟩ := rd_12005 ok0 kd900
    refine p_get (ci := 11) (v := .ref qa17) (C := RX11) (T := TX11) (N := 17) hx hb hT iw_X11 hown hK hw hW kd900 (by decide) rfl rfl 5 (by decide) eq16 (hT _ tb_662) (fun _ h9 => h9) dX11_would_19 ?_
    refine kq_v hw hS hA (va_runV (As := [.ref qa17]) (rest := []) ⟨hx, hb, hml, hown, hT⟩ (cX7_copyMoment_0 l G cy ev K ln Ls hW _ hp0 ok0 qa14 qa17 kd15 kd18) (cwV 1 hT (good_V tb_1051 tb_1120 tb_1049 tb_1050 tb_115) rfl rfl rfl (by decide +kernel) ⟨Nat.le_of_ble_eq_true rfl, Nat.le_of_ble_eq_true rfl⟩) (pool_preV (ci := 7) hK hE hS hA hw hW kd15 (by decide) rfl) rfl rfl hl.1 rfl (lv_room (Nat.le_of_ble_eq_true rfl)) dX11_would_22 ⟨Nat.le_of_ble_eq_true rfl, Nat.le_of_ble_eq_true rfl⟩) (fun hp19 H locs hq22 hw hS => ?_)
    obtain ⟨ok20, F21⟩ := hq22
    have hw : PW G cy K ln Ls A hp19 H := hw
    refine lv_aload_n hx hb dX11_would_25 rfl (lv_at hl 0 rfl) ?_
    have eq24 : hp19 qa900 6 = .ref qa14 := Eq.trans (Fr.at (cq := 12006) F21 kd900 (cd_o (by decide)) (by decide)) eq13
    refine p_get (ci := 11) (v := .ref qa14) (C := RX11) (T := TX11) (N := 17) hx hb hT iw_X11 hown hK hw hW kd900 (by decide) rfl rfl 6 (by decide) eq24 (hT _ tb_663) (fun _ h9 => h9) dX11_would_26 ?_
    refine lv_aload_n hx hb dX11_would_29 rfl (lv_at hl 0 rfl) ?_
    have eq25 : hp19 qa900 3 = .ref qa2 := Eq.trans (Fr.at (cq := 12003) F21 kd900 (cd_o (by decide)) (by decide)) eq1
    refine p_get (ci := 11) (v := .ref qa2) (C := RX11) (T := TX11) (N := 17) hx hb hT iw_X11 hown hK hw hW kd900 (by decide) rfl rfl 3 (by decide) eq25 (hT _ tb_660) (fun _ h9 => h9) dX11_would_30 ?_
    refine lv_iload_n hx hb dX11_would_33 rfl (lv_at hl 1 rfl) ?_
    refine kq_i hw hS hA (va_runV (As := [.ref qa2, .int zi901]) (rest := []) ⟨hx, hb, hml, hown, hT⟩ (cX7_utter_0 l G cy ev K ln Ls hW _ hp19 ok20 qa14 qa2 zi901 kd15 kd3 (b_wid2 bd12 (by decide) (by decide))) (cwV 2 hT (good_V tb_1059 tb_1056 tb_1057 tb_1058 tb_115) rfl rfl rfl (by decide +kernel) ⟨Nat.le_of_ble_eq_true rfl, Nat.le_of_ble_eq_true rfl⟩) (pool_preV (ci := 7) hK hE hS hA hw hW kd15 (by decide) rfl) rfl rfl hl.1 rfl (lv_room (Nat.le_of_ble_eq_true rfl)) dX11_would_34 ⟨Nat.le_of_ble_eq_true rfl, Nat.le_of_ble_eq_true rfl⟩) (fun zi30 hp26 H locs hq29 hw hS => ?_)
    obtain ⟨ok27, F28, bd31⟩ := hq29
    have hw : PW G cy K ln Ls A hp26 H := hw
    refine lv_pop hx hb dX11_would_37 rfl ?_
    refine lv_aload_n hx hb dX11_would_38 rfl (lv_at hl 0 rfl) ?_
    have eq32 : hp26 qa900 6 = .ref qa14 := Eq.trans (Fr.at (cq := 12006) F28 kd900 (cd_o (by decide)) (by decide)) eq24
    refine p_get (ci := 11) (v := .ref qa14) (C := RX11) (T := TX11) (N := 17) hx hb hT iw_X11 hown hK hw hW kd900 (by decide) rfl rfl 6 (by decide) eq32 (hT _ tb_663) (fun _ h9 => h9) dX11_would_39 ?_
    obtain ⟨zi34, eq33⟩ := rd_8000 ok27 kd15
    refine p_getN (ci := 7) (v := .int zi34) (C := RX7) (T := TX7) (N := 13) hx hb hT iw_X7 hown hK hw hW kd15 (by decide) rfl rfl 0 (by decide) eq33 (hK.fl nw_311) (fun _ h9 => h9) dX11_would_42 ?_
    rw [hQ]
    exact kz_i hx hb hr hlocks hS rfl hp26 hw ⟨ok27, (Fr.tr (Fr.tr (Fr.rf) F21 (by decide)) F28 (by decide))⟩ (Nat.le_of_ble_eq_true rfl) (Nat.le_of_ble_eq_true rfl) dX11_would_45

set_option maxRecDepth 100000 in
set_option maxHeartbeats 4000000 in
theorem cX11_areTwoCases_0 (l : Launch) (G : va_G) (cy : Nat → ClassId) (ev : Ew) (K ln : Nat → Nat) (Ls : List Nat) (hW : SW K ln Ls) (sz : Nat) (hp0 : Nat → Nat → Value) (ok0 : Ok K hp0) (qa900 : Nat) (zi901 : Int32) (zi902 : Int32) (kd900 : K qa900 = 12) : Met l yX11_areTwoCases (WS yX11_areTwoCases cX11_areTwoCases 3 (some .boolean)) { frames := 1, cells := 0, slots := 0, locals := 21 } (PB2 [.ref qa900, .int zi901, .int zi902] sz G cy ev (va_pl Ls (cellOf cy K ln hp0))) (QBi (S := (Nat → Nat → Value)) (fun (r : Int32) (u : (Nat → Nat → Value)) => Ok K u ∧ Fr [] K hp0 u ∧ ((0 : Int) ≤ r.toInt ∧ r.toInt ≤ 1) ∧ (r = 1 → ((0 : Int) ≤ zi901.toInt ∧ zi901.toInt ≤ 7)) ∧ (r = 1 → ((0 : Int) ≤ zi902.toInt ∧ zi902.toInt ≤ 7))) G (fun u => va_pl Ls (cellOf cy K ln u)) (va_A (va_pl Ls (cellOf cy K ln hp0)) sz)) 0 0 (va_A (va_pl Ls (cellOf cy K ln hp0)) sz) := by
  refine met_of2 (y := yX11_areTwoCases) (L := 3) (av := [.ref qa900, .int zi901, .int zi902]) (Qc := fun A => QBi (S := (Nat → Nat → Value)) (fun (r : Int32) (u : (Nat → Nat → Value)) => Ok K u ∧ Fr [] K hp0 u ∧ ((0 : Int) ≤ r.toInt ∧ r.toInt ≤ 1) ∧ (r = 1 → ((0 : Int) ≤ zi901.toInt ∧ zi901.toInt ≤ 7)) ∧ (r = 1 → ((0 : Int) ≤ zi902.toInt ∧ zi902.toInt ≤ 7))) G (fun u => va_pl Ls (cellOf cy K ln u)) A) (plainFor_of_name (by decide)) (Nat.le_of_ble_eq_true rfl) ?_
  intro p e s m below meth c hsz hx hb hr hml hown hT hlocks hin hK A hA hE hw hS ls hl
  have hw : PW G cy K ln Ls A hp0 s.heap := hw
  have hown : s.vm.findClass "LieClock" = some m.cls := hown
  have hl : lv_has ls 3 [(0, .ref qa900), (1, .int zi901), (2, .int zi902)] := hl
  obtain ⟨Q, hQ⟩ : ∃ Q : State → Prop, Q = MQ below (QBi (S := (Nat → Nat → Value)) (fun (r : Int32) (u : (Nat → Nat → Value)) => Ok K u ∧ Fr [] K hp0 u ∧ ((0 : Int) ≤ r.toInt ∧ r.toInt ≤ 1) ∧ (r = 1 → ((0 : Int) ≤ zi901.toInt ∧ zi901.toInt ≤ 7)) ∧ (r = 1 → ((0 : Int) ≤ zi902.toInt ∧ zi902.toInt ≤ 7))) G (fun u => va_pl Ls (cellOf cy K ln u)) A) ([.ref qa900, .int zi901, .int zi902] : List Value).toArray s 0 0 A := ⟨_, rfl⟩
  rw [← hQ]
  refine lv_aload_n hx hb dX11_areTwoCases_0 rfl (lv_at hl 0 rfl) ?_
  obtain ⟨qa2, eq1, kd3⟩ := rd_12003 ok0 kd900
  refine p_get (ci := 11) (v := .ref qa2) (C := RX11) (T := TX11) (N := 17) hx hb hT iw_X11 hown hK hw hW kd900 (by decide) rfl rfl 3 (by decide) eq1 (hT _ tb_660) (fun _ h9 => h9) dX11_areTwoCases_1 ?_
  refine lv_iload_n hx hb dX11_areTwoCases_4 rfl (lv_at hl 1 rfl) ?_
  refine kq_i hw hS hA (va_runV (As := [.int zi901]) (rest := []) ⟨hx, hb, hml, hown, hT⟩ (cX10_hasCase_0 l G cy ev K ln Ls hW _ hp0 ok0 qa2 zi901 kd3) (cwV 1 hT (good_V tb_1030 tb_1027 tb_1028 tb_1029 tb_107) rfl rfl rfl (by decide +kernel) ⟨Nat.le_of_ble_eq_true rfl, Nat.le_of_ble_eq_true rfl⟩) (pool_preV (ci := 10) hK hE hS hA hw hW kd3 (by decide) rfl) rfl rfl hl.1 rfl (lv_room (Nat.le_of_ble_eq_true rfl)) dX11_areTwoCases_5 ⟨Nat.le_of_ble_eq_true rfl, Nat.le_of_ble_eq_true rfl⟩) (fun zi8 hp4 H locs hq7 hw hS => ?_)
  obtain ⟨ok5, F6, bd9, hc10⟩ := hq7
  obtain rfl : hp0 = hp4 := (Fr.nil F6).symm
  have hw : PW G cy K ln Ls A hp0 H := hw
  rcases b01 bd9 with cn11 | cn11
  · skip
    subst cn11
    refine lv_if_eq (tgt := 31) hx hb dX11_areTwoCases_8 (by decide) (fun _ => ?_) (fun c => absurd (d_eq bc_0 bc_0) c)
    refine lv_iconst (v := 0) hx hb dX11_areTwoCases_31 (by decide) ?_
    rw [hQ]
    exact kz_i hx hb hr hlocks hS (nz_n bc_0 (by decide) (by decide)) hp0 hw ⟨ok0, (Fr.rf), (b_wid2 bc_0 (by decide) (by decide)), (fun h => absurd h (by decide)), (fun h => absurd h (by decide))⟩ (Nat.le_of_ble_eq_true rfl) (Nat.le_of_ble_eq_true rfl) dX11_areTwoCases_32
  · skip
    subst cn11
    have bd12 : (0 : Int) ≤ zi901.toInt ∧ zi901.toInt ≤ 7 := b_meet (b_all zi901) (hc10 rfl) (by decide) (by decide)
    refine lv_if_eq (tgt := 31) hx hb dX11_areTwoCases_8 (by decide) (fun c => absurd c (d_ne bc_1 bc_0 (by decide))) (fun _ => ?_)
    refine lv_aload_n hx hb dX11_areTwoCases_11 rfl (lv_at hl 0 rfl) ?_
    refine p_get (ci := 11) (v := .ref qa2) (C := RX11) (T := TX11) (N := 17) hx hb hT iw_X11 hown hK hw hW kd900 (by decide) rfl rfl 3 (by decide) eq1 (hT _ tb_660) (fun _ h9 => h9) dX11_areTwoCases_12 ?_
    refine lv_iload_n hx hb dX11_areTwoCases_15 rfl (lv_at hl 2 rfl) ?_
    refine kq_i hw hS hA (va_runV (As := [.int zi902]) (rest := []) ⟨hx, hb, hml, hown, hT⟩ (cX10_hasCase_0 l G cy ev K ln Ls hW _ hp0 ok0 qa2 zi902 kd3) (cwV 1 hT (good_V tb_1030 tb_1027 tb_1028 tb_1029 tb_107) rfl rfl rfl (by decide +kernel) ⟨Nat.le_of_ble_eq_true rfl, Nat.le_of_ble_eq_true rfl⟩) (pool_preV (ci := 10) hK hE hS hA hw hW kd3 (by decide) rfl) rfl rfl hl.1 rfl (lv_room (Nat.le_of_ble_eq_true rfl)) dX11_areTwoCases_16 ⟨Nat.le_of_ble_eq_true rfl, Nat.le_of_ble_eq_true rfl⟩) (fun zi17 hp13 H locs hq16 hw hS => ?_)
    obtain ⟨ok14, F15, bd18, hc19⟩ := hq16
    obtain rfl : hp0 = hp13 := (Fr.nil F15).symm
    have hw : PW G cy K ln Ls A hp0 H := hw
    rcases b01 bd18 with cn20 | cn20
    · skip
      subst cn20
      refine lv_if_eq (tgt := 31) hx hb dX11_areTwoCases_19 (by decide) (fun _ => ?_) (fun c => absurd (d_eq bc_0 bc_0) c)
      refine lv_iconst (v := 0) hx hb dX11_areTwoCases_31 (by decide) ?_
      rw [hQ]
      exact kz_i hx hb hr hlocks hS (nz_n bc_0 (by decide) (by decide)) hp0 hw ⟨ok0, (Fr.rf), (b_wid2 bc_0 (by decide) (by decide)), (fun h => absurd h (by decide)), (fun h => absurd h (by decide))⟩ (Nat.le_of_ble_eq_true rfl) (Nat.le_of_ble_eq_true rfl) dX11_areTwoCases_32
    · skip
      subst cn20
      have bd21 : (0 : Int) ≤ zi902.toInt ∧ zi902.toInt ≤ 7 := b_meet (b_all zi902) (hc19 rfl) (by decide) (by decide)
      refine lv_if_eq (tgt := 31) hx hb dX11_areTwoCases_19 (by decide) (fun c => absurd c (d_ne bc_1 bc_0 (by decide))) (fun _ => ?_)
      refine lv_iload_n hx hb dX11_areTwoCases_22 rfl (lv_at hl 1 rfl) ?_
      refine lv_iload_n hx hb dX11_areTwoCases_23 rfl (lv_at hl 2 rfl) ?_
      refine lv_icmp_eq (tgt := 31) hx hb dX11_areTwoCases_24 (by decide) (fun cn22 => ?_) (fun cn22 => ?_)
      · skip
        refine lv_iconst (v := 0) hx hb dX11_areTwoCases_31 (by decide) ?_
        rw [hQ]
        exact kz_i hx hb hr hlocks hS (nz_n bc_0 (by decide) (by decide)) hp0 hw ⟨ok0, (Fr.rf), (b_wid2 bc_0 (by decide) (by decide)), (fun h => absurd h (by decide)), (fun h => absurd h (by decide))⟩ (Nat.le_of_ble_eq_true rfl) (Nat.le_of_ble_eq_true rfl) dX11_areTwoCases_32
      · skip
        refine lv_iconst (v := 1) hx hb dX11_areTwoCases_27 (by decide) ?_
        refine lv_goto (tgt := 32) hx hb dX11_areTwoCases_28 (by decide) ?_
        rw [hQ]
        exact kz_i hx hb hr hlocks hS (nz_n bc_1 (by decide) (by decide)) hp0 hw ⟨ok0, (Fr.rf), (b_wid2 bc_1 (by decide) (by decide)), (fun _ => b_wid2 bd12 (by decide) (by decide)), (fun _ => b_wid2 bd21 (by decide) (by decide))⟩ (Nat.le_of_ble_eq_true rfl) (Nat.le_of_ble_eq_true rfl) dX11_areTwoCases_32

set_option maxRecDepth 100000 in
set_option maxHeartbeats 4000000 in
theorem cX11_canBeOrdered_0 (l : Launch) (G : va_G) (cy : Nat → ClassId) (ev : Ew) (K ln : Nat → Nat) (Ls : List Nat) (hW : SW K ln Ls) (sz : Nat) (hp0 : Nat → Nat → Value) (ok0 : Ok K hp0) (qa900 : Nat) (zi901 : Int32) (kd900 : K qa900 = 12) : Met l yX11_canBeOrdered (WS yX11_canBeOrdered cX11_canBeOrdered 2 (some .boolean)) { frames := 1, cells := 0, slots := 0, locals := 21 } (PB2 [.ref qa900, .int zi901] sz G cy ev (va_pl Ls (cellOf cy K ln hp0))) (QBi (S := (Nat → Nat → Value)) (fun (r : Int32) (u : (Nat → Nat → Value)) => Ok K u ∧ Fr [] K hp0 u ∧ ((0 : Int) ≤ r.toInt ∧ r.toInt ≤ 1) ∧ (r = 1 → ((0 : Int) ≤ zi901.toInt ∧ zi901.toInt ≤ 2147483647)) ∧ (r = 1 → ∃ z : Int32, z = bcnt zi901 ∧ ((0 : Int) ≤ z.toInt ∧ z.toInt ≤ 6))) G (fun u => va_pl Ls (cellOf cy K ln u)) (va_A (va_pl Ls (cellOf cy K ln hp0)) sz)) 0 0 (va_A (va_pl Ls (cellOf cy K ln hp0)) sz) := by
  refine met_of2 (y := yX11_canBeOrdered) (L := 2) (av := [.ref qa900, .int zi901]) (Qc := fun A => QBi (S := (Nat → Nat → Value)) (fun (r : Int32) (u : (Nat → Nat → Value)) => Ok K u ∧ Fr [] K hp0 u ∧ ((0 : Int) ≤ r.toInt ∧ r.toInt ≤ 1) ∧ (r = 1 → ((0 : Int) ≤ zi901.toInt ∧ zi901.toInt ≤ 2147483647)) ∧ (r = 1 → ∃ z : Int32, z = bcnt zi901 ∧ ((0 : Int) ≤ z.toInt ∧ z.toInt ≤ 6))) G (fun u => va_pl Ls (cellOf cy K ln u)) A) (plainFor_of_name (by decide)) (Nat.le_of_ble_eq_true rfl) ?_
  intro p e s m below meth c hsz hx hb hr hml hown hT hlocks hin hK A hA hE hw hS ls hl
  have hw : PW G cy K ln Ls A hp0 s.heap := hw
  have hown : s.vm.findClass "LieClock" = some m.cls := hown
  have hl : lv_has ls 2 [(0, .ref qa900), (1, .int zi901)] := hl
  obtain ⟨Q, hQ⟩ : ∃ Q : State → Prop, Q = MQ below (QBi (S := (Nat → Nat → Value)) (fun (r : Int32) (u : (Nat → Nat → Value)) => Ok K u ∧ Fr [] K hp0 u ∧ ((0 : Int) ≤ r.toInt ∧ r.toInt ≤ 1) ∧ (r = 1 → ((0 : Int) ≤ zi901.toInt ∧ zi901.toInt ≤ 2147483647)) ∧ (r = 1 → ∃ z : Int32, z = bcnt zi901 ∧ ((0 : Int) ≤ z.toInt ∧ z.toInt ≤ 6))) G (fun u => va_pl Ls (cellOf cy K ln u)) A) ([.ref qa900, .int zi901] : List Value).toArray s 0 0 A := ⟨_, rfl⟩
  rw [← hQ]
  refine lv_aload_n hx hb dX11_canBeOrdered_0 rfl (lv_at hl 0 rfl) ?_
  obtain ⟨qa2, eq1, kd3⟩ := rd_12003 ok0 kd900
  refine p_get (ci := 11) (v := .ref qa2) (C := RX11) (T := TX11) (N := 17) hx hb hT iw_X11 hown hK hw hW kd900 (by decide) rfl rfl 3 (by decide) eq1 (hT _ tb_660) (fun _ h9 => h9) dX11_canBeOrdered_1 ?_
  refine lv_iload_n hx hb dX11_canBeOrdered_4 rfl (lv_at hl 1 rfl) ?_
  refine kq_i hw hS hA (va_runV (As := [.int zi901]) (rest := []) ⟨hx, hb, hml, hown, hT⟩ (cX10_hasSet_0 l G cy ev K ln Ls hW _ hp0 ok0 qa2 zi901 kd3) (cwV 1 hT (good_V tb_1218 tb_1215 tb_1216 tb_1217 tb_107) rfl rfl rfl (by decide +kernel) ⟨Nat.le_of_ble_eq_true rfl, Nat.le_of_ble_eq_true rfl⟩) (pool_preV (ci := 10) hK hE hS hA hw hW kd3 (by decide) rfl) rfl rfl hl.1 rfl (lv_room (Nat.le_of_ble_eq_true rfl)) dX11_canBeOrdered_5 ⟨Nat.le_of_ble_eq_true rfl, Nat.le_of_ble_eq_true rfl⟩) (fun zi8 hp4 H locs hq7 hw hS => ?_)
  obtain ⟨ok5, F6, bd9, hc10⟩ := hq7
  obtain rfl : hp0 = hp4 := (Fr.nil F6).symm
  have hw : PW G cy K ln Ls A hp0 H := hw
  rcases b01 bd9 with cn11 | cn11
  · skip
    subst cn11
    refine lv_if_eq (tgt := 24) hx hb dX11_canBeOrdered_8 (by decide) (fun _ => ?_) (fun c => absurd (d_eq bc_0 bc_0) c)
    refine lv_iconst (v := 0) hx hb dX11_canBeOrdered_24 (by decide) ?_
    rw [hQ]
    exact kz_i hx hb hr hlocks hS (nz_n bc_0 (by decide) (by decide)) hp0 hw ⟨ok0, (Fr.rf), (b_wid2 bc_0 (by decide) (by decide)), (fun h => absurd h (by decide)), (fun h => absurd h (by decide))⟩ (Nat.le_of_ble_eq_true rfl) (Nat.le_of_ble_eq_true rfl) dX11_canBeOrdered_25
  · skip
    subst cn11
    have bd12 : (0 : Int) ≤ zi901.toInt ∧ zi901.toInt ≤ 2147483647 := b_meet (b_all zi901) (hc10 rfl) (by decide) (by decide)
    refine lv_if_eq (tgt := 24) hx hb dX11_canBeOrdered_8 (by decide) (fun c => absurd c (d_ne bc_1 bc_0 (by decide))) (fun _ => ?_)
    refine lv_iload_n hx hb dX11_canBeOrdered_11 rfl (lv_at hl 1 rfl) ?_
    refine kq_i hw hS hA (va_runS (As := [.int zi901]) (rest := []) ⟨hx, hb, hml, hown, hT⟩ (cJ6_bitCount_0f7a4_0 l G cy ev K ln Ls hW _ hp0 ok0 zi901) (va_cwS 1 hT (good_S tb_1010 tb_1008 tb_1009 tb_126) rfl rfl rfl (by decide +kernel) ⟨Nat.le_of_ble_eq_true rfl, Nat.le_of_ble_eq_true rfl⟩) (PB2.preS hK hE hS hA hw) rfl rfl hl.1 rfl (lv_room (Nat.le_of_ble_eq_true rfl)) dX11_canBeOrdered_12 ⟨Nat.le_of_ble_eq_true rfl, Nat.le_of_ble_eq_true rfl⟩) (fun zi17 hp13 H locs hq16 hw hS => ?_)
    obtain ⟨ok14, F15, bd18, ef19⟩ := hq16
    obtain rfl : hp0 = hp13 := (Fr.nil F15).symm
    have hw : PW G cy K ln Ls A hp0 H := hw
    refine lv_bipush (v := 6) hx hb dX11_canBeOrdered_15 (by decide) ?_
    refine lv_icmp_gt (tgt := 24) hx hb dX11_canBeOrdered_17 (by decide) (fun cn20 => ?_) (fun cn20 => ?_)
    · skip
      have bd21 : (7 : Int) ≤ zi17.toInt ∧ zi17.toInt ≤ 63 := r_lt_y cn20 bc_6 bd18 (by decide) (by decide)
      refine lv_iconst (v := 0) hx hb dX11_canBeOrdered_24 (by decide) ?_
      rw [hQ]
      exact kz_i hx hb hr hlocks hS (nz_n bc_0 (by decide) (by decide)) hp0 hw ⟨ok0, (Fr.rf), (b_wid2 bc_0 (by decide) (by decide)), (fun h => absurd h (by decide)), (fun h => absurd h (by decide))⟩ (Nat.le_of_ble_eq_true rfl) (Nat.le_of_ble_eq_true rfl) dX11_canBeOrdered_25
    · skip
      have bd22 : (0 : Int) ≤ zi17.toInt ∧ zi17.toInt ≤ 6 := r_le_x (Int32.not_lt.mp cn20) bd18 bc_6 (by decide) (by decide)
      refine lv_iconst (v := 1) hx hb dX11_canBeOrdered_20 (by decide) ?_
      refine lv_goto (tgt := 25) hx hb dX11_canBeOrdered_21 (by decide) ?_
      rw [hQ]
      exact kz_i hx hb hr hlocks hS (nz_n bc_1 (by decide) (by decide)) hp0 hw ⟨ok0, (Fr.rf), (b_wid2 bc_1 (by decide) (by decide)), (fun _ => b_wid2 bd12 (by decide) (by decide)), (fun _ => ⟨_, ef19, b_wid2 bd22 (by decide) (by decide)⟩)⟩ (Nat.le_of_ble_eq_true rfl) (Nat.le_of_ble_eq_true rfl) dX11_canBeOrdered_25

set_option maxRecDepth 100000 in
set_option maxHeartbeats 4000000 in
theorem cX11_order_0 (l : Launch) (G : va_G) (cy : Nat → ClassId) (ev : Ew) (K ln : Nat → Nat) (Ls : List Nat) (hW : SW K ln Ls) (sz : Nat) (hp0 : Nat → Nat → Value) (ok0 : Ok K hp0) (qa900 : Nat) (zi901 : Int32) (zi902 : Int32) (kd900 : K qa900 = 12) (bd902 : ((0 : Int) ≤ zi902.toInt ∧ zi902.toInt ≤ 1)) : Met l yX11_order (WS yX11_order cX11_order 3 (some .int)) { frames := 12, cells := 0, slots := 0, locals := 298 } (PB2 [.ref qa900, .int zi901, .int zi902] sz G cy ev (va_pl Ls (cellOf cy K ln hp0))) (QBi (S := (Nat → Nat → Value)) (fun (r : Int32) (u : (Nat → Nat → Value)) => Ok K u ∧ Fr [3003, 3004, 5003, 5004, 5005, 5006, 5007, 8000, 8001, 8002, 8003, 8004, 8005, 8006, 8008, 27000, 35000, 36000, 40000, 41000, 42000] K hp0 u) G (fun u => va_pl Ls (cellOf cy K ln u)) (va_A (va_pl Ls (cellOf cy K ln hp0)) sz)) 0 0 (va_A (va_pl Ls (cellOf cy K ln hp0)) sz) := by
  refine met_of2 (y := yX11_order) (L := 3) (av := [.ref qa900, .int zi901, .int zi902]) (Qc := fun A => QBi (S := (Nat → Nat → Value)) (fun (r : Int32) (u : (Nat → Nat → Value)) => Ok K u ∧ Fr [3003, 3004, 5003, 5004, 5005, 5006, 5007, 8000, 8001, 8002, 8003, 8004, 8005, 8006, 8008, 27000, 35000, 36000, 40000, 41000, 42000] K hp0 u) G (fun u => va_pl Ls (cellOf cy K ln u)) A) (plainFor_of_name (by decide)) (Nat.le_of_ble_eq_true rfl) ?_
  intro p e s m below meth c hsz hx hb hr hml hown hT hlocks hin hK A hA hE hw hS ls hl
  have hw : PW G cy K ln Ls A hp0 s.heap := hw
  have hown : s.vm.findClass "LieClock" = some m.cls := hown
  have hl : lv_has ls 3 [(0, .ref qa900), (1, .int zi901), (2, .int zi902)] := hl
  obtain ⟨Q, hQ⟩ : ∃ Q : State → Prop, Q = MQ below (QBi (S := (Nat → Nat → Value)) (fun (r : Int32) (u : (Nat → Nat → Value)) => Ok K u ∧ Fr [3003, 3004, 5003, 5004, 5005, 5006, 5007, 8000, 8001, 8002, 8003, 8004, 8005, 8006, 8008, 27000, 35000, 36000, 40000, 41000, 42000] K hp0 u) G (fun u => va_pl Ls (cellOf cy K ln u)) A) ([.ref qa900, .int zi901, .int zi902] : List Value).toArray s 0 0 A := ⟨_, rfl⟩
  rw [← hQ]
  refine lv_aload_n hx hb dX11_order_0 rfl (lv_at hl 0 rfl) ?_
  refine lv_iload_n hx hb dX11_order_1 rfl (lv_at hl 1 rfl) ?_
  refine kq_i hw hS hA (va_runV (As := [.int zi901]) (rest := []) ⟨hx, hb, hml, hown, hT⟩ (cX11_canBeOrdered_0 l G cy ev K ln Ls hW _ hp0 ok0 qa900 zi901 kd900) (cwV 1 hT (good_V tb_1214 tb_1211 tb_1213 tb_38 tb_105) rfl rfl rfl (by decide +kernel) ⟨Nat.le_of_ble_eq_true rfl, Nat.le_of_ble_eq_true rfl⟩) (pool_preV (ci := 11) hK hE hS hA hw hW kd900 (by decide) rfl) rfl rfl hl.1 rfl (lv_room (Nat.le_of_ble_eq_true rfl)) dX11_order_2 ⟨Nat.le_of_ble_eq_true rfl, Nat.le_of_ble_eq_true rfl⟩) (fun zi5 hp1 H locs hq4 hw hS => ?_)
  obtain ⟨ok2, F3, bd6, hc7, hc8⟩ := hq4
  obtain rfl : hp0 = hp1 := (Fr.nil F3).symm
  have hw : PW G cy K ln Ls A hp0 H := hw
  rcases b01 bd6 with cn9 | cn9
  · skip
    subst cn9
    refine lv_if_ne (tgt := 11) hx hb dX11_order_5 (by decide) (fun c => absurd (d_eq bc_0 bc_0) c) (fun _ => ?_)
    refine lv_ldc (v := (-1000000)) hx hb hown (hT _ tb_1022) dX11_order_8 ?_
    rw [hQ]
    exact kz_i hx hb hr hlocks hS rfl hp0 hw ⟨ok0, (Fr.rf)⟩ (Nat.le_of_ble_eq_true rfl) (Nat.le_of_ble_eq_true rfl) dX11_order_10
  · skip
    subst cn9
    have bd10 : (0 : Int) ≤ zi901.toInt ∧ zi901.toInt ≤ 2147483647 := b_meet (b_all zi901) (hc7 rfl) (by decide) (by decide)
    obtain ⟨zi11, ef12, bd13⟩ := hc8 rfl
    refine lv_if_ne (tgt := 11) hx hb dX11_order_5 (by decide) (fun _ => ?_) (fun c => absurd c (d_ne bc_1 bc_0 (by decide)))
    refine lv_aload_n hx hb dX11_order_11 rfl (lv_at hl 0 rfl) ?_
    obtain ⟨qa15, eq14, kd16⟩ := rd_12014 ok0 kd900
    refine p_get (ci := 11) (v := .ref qa15) (C := RX11) (T := TX11) (N := 17) hx hb hT iw_X11 hown hK hw hW kd900 (by decide) rfl rfl 14 (by decide) eq14 (hT _ tb_671) (fun _ h9 => h9) dX11_order_12 ?_
    refine lv_aload_n hx hb dX11_order_15 rfl (lv_at hl 0 rfl) ?_
    obtain ⟨qa18, eq17, kd19⟩ := rd_12003 ok0 kd900
    refine p_get (ci := 11) (v := .ref qa18) (C := RX11) (T := TX11) (N := 17) hx hb hT iw_X11 hown hK hw hW kd900 (by decide) rfl rfl 3 (by decide) eq17 (hT _ tb_660) (fun _ h9 => h9) dX11_order_16 ?_
    refine lv_aload_n hx hb dX11_order_19 rfl (lv_at hl 0 rfl) ?_
    obtain ⟨qa21, eq20, kd22⟩ := rd_12005 ok0 kd900
    refine p_get (ci := 11) (v := .ref qa21) (C := RX11) (T := TX11) (N := 17) hx hb hT iw_X11 hown hK hw hW kd900 (by decide) rfl rfl 5 (by decide) eq20 (hT _ tb_662) (fun _ h9 => h9) dX11_order_20 ?_
    refine lv_iload_n hx hb dX11_order_23 rfl (lv_at hl 1 rfl) ?_
    refine lv_iload_n hx hb dX11_order_24 rfl (lv_at hl 2 rfl) ?_
    refine kq_v hw hS hA (va_runV (As := [.ref qa18, .ref qa21, .int zi901, .int zi902]) (rest := []) ⟨hx, hb, hml, hown, hT⟩ (cX4_find_0 l G cy ev K ln Ls hW _ hp0 ok0 qa15 qa18 qa21 zi901 zi902 kd16 kd19 kd22 (b_wid2 bd902 (by decide) (by decide))) (cwV 4 hT (good_V tb_1222 tb_1219 tb_1220 tb_1221 tb_119) rfl rfl rfl (by decide +kernel) ⟨Nat.le_of_ble_eq_true rfl, Nat.le_of_ble_eq_true rfl⟩) (pool_preV (ci := 4) hK hE hS hA hw hW kd16 (by decide) rfl) rfl rfl hl.1 rfl (lv_room (Nat.le_of_ble_eq_true rfl)) dX11_order_25 ⟨Nat.le_of_ble_eq_true rfl, Nat.le_of_ble_eq_true rfl⟩) (fun hp23 H locs hq26 hw hS => ?_)
    obtain ⟨ok24, F25⟩ := hq26
    have hw : PW G cy K ln Ls A hp23 H := hw
    refine lv_aload_n hx hb dX11_order_28 rfl (lv_at hl 0 rfl) ?_
    have eq28 : hp23 qa900 14 = .ref qa15 := Eq.trans (Fr.at (cq := 12014) F25 kd900 (cd_o (by decide)) (by decide)) eq14
    refine p_get (ci := 11) (v := .ref qa15) (C := RX11) (T := TX11) (N := 17) hx hb hT iw_X11 hown hK hw hW kd900 (by decide) rfl rfl 14 (by decide) eq28 (hT _ tb_671) (fun _ h9 => h9) dX11_order_29 ?_
    obtain ⟨zi30, eq29⟩ := rd_5003 ok24 kd16
    refine p_getN (ci := 4) (v := .int zi30) (C := RX4) (T := TX4) (N := 8) hx hb hT iw_X4 hown hK hw hW kd16 (by decide) rfl rfl 3 (by decide) eq29 (hK.fl nw_456) (fun _ h9 => h9) dX11_order_32 ?_
    rw [hQ]
    exact kz_i hx hb hr hlocks hS rfl hp23 hw ⟨ok24, (Fr.tr (Fr.rf) F25 (by decide))⟩ (Nat.le_of_ble_eq_true rfl) (Nat.le_of_ble_eq_true rfl) dX11_order_35

set_option maxRecDepth 100000 in
set_option maxHeartbeats 4000000 in
theorem cX11_orderAt_0 (l : Launch) (G : va_G) (cy : Nat → ClassId) (ev : Ew) (K ln : Nat → Nat) (Ls : List Nat) (hW : SW K ln Ls) (sz : Nat) (hp0 : Nat → Nat → Value) (ok0 : Ok K hp0) (qa900 : Nat) (zi901 : Int32) (zi902 : Int32) (zi903 : Int32) (kd900 : K qa900 = 12) (bd902 : ((0 : Int) ≤ zi902.toInt ∧ zi902.toInt ≤ 1)) : Met l yX11_orderAt (WS yX11_orderAt cX11_orderAt 4 (some .int)) { frames := 12, cells := 0, slots := 0, locals := 298 } (PB2 [.ref qa900, .int zi901, .int zi902, .int zi903] sz G cy ev (va_pl Ls (cellOf cy K ln hp0))) (QBi (S := (Nat → Nat → Value)) (fun (r : Int32) (u : (Nat → Nat → Value)) => Ok K u ∧ Fr [3003, 3004, 5003, 5004, 5005, 5006, 5007, 8000, 8001, 8002, 8003, 8004, 8005, 8006, 8008, 27000, 35000, 36000, 40000, 41000, 42000] K hp0 u) G (fun u => va_pl Ls (cellOf cy K ln u)) (va_A (va_pl Ls (cellOf cy K ln hp0)) sz)) 0 0 (va_A (va_pl Ls (cellOf cy K ln hp0)) sz) := by
  refine met_of2 (y := yX11_orderAt) (L := 4) (av := [.ref qa900, .int zi901, .int zi902, .int zi903]) (Qc := fun A => QBi (S := (Nat → Nat → Value)) (fun (r : Int32) (u : (Nat → Nat → Value)) => Ok K u ∧ Fr [3003, 3004, 5003, 5004, 5005, 5006, 5007, 8000, 8001, 8002, 8003, 8004, 8005, 8006, 8008, 27000, 35000, 36000, 40000, 41000, 42000] K hp0 u) G (fun u => va_pl Ls (cellOf cy K ln u)) A) (plainFor_of_name (by decide)) (Nat.le_of_ble_eq_true rfl) ?_
  intro p e s m below meth c hsz hx hb hr hml hown hT hlocks hin hK A hA hE hw hS ls hl
  have hw : PW G cy K ln Ls A hp0 s.heap := hw
  have hown : s.vm.findClass "LieClock" = some m.cls := hown
  have hl : lv_has ls 4 [(0, .ref qa900), (1, .int zi901), (2, .int zi902), (3, .int zi903)] := hl
  obtain ⟨Q, hQ⟩ : ∃ Q : State → Prop, Q = MQ below (QBi (S := (Nat → Nat → Value)) (fun (r : Int32) (u : (Nat → Nat → Value)) => Ok K u ∧ Fr [3003, 3004, 5003, 5004, 5005, 5006, 5007, 8000, 8001, 8002, 8003, 8004, 8005, 8006, 8008, 27000, 35000, 36000, 40000, 41000, 42000] K hp0 u) G (fun u => va_pl Ls (cellOf cy K ln u)) A) ([.ref qa900, .int zi901, .int zi902, .int zi903] : List Value).toArray s 0 0 A := ⟨_, rfl⟩
  rw [← hQ]
  refine lv_aload_n hx hb dX11_orderAt_0 rfl (lv_at hl 0 rfl) ?_
  refine lv_iload_n hx hb dX11_orderAt_1 rfl (lv_at hl 1 rfl) ?_
  refine kq_i hw hS hA (va_runV (As := [.int zi901]) (rest := []) ⟨hx, hb, hml, hown, hT⟩ (cX11_canBeOrdered_0 l G cy ev K ln Ls hW _ hp0 ok0 qa900 zi901 kd900) (cwV 1 hT (good_V tb_1214 tb_1211 tb_1213 tb_38 tb_105) rfl rfl rfl (by decide +kernel) ⟨Nat.le_of_ble_eq_true rfl, Nat.le_of_ble_eq_true rfl⟩) (pool_preV (ci := 11) hK hE hS hA hw hW kd900 (by decide) rfl) rfl rfl hl.1 rfl (lv_room (Nat.le_of_ble_eq_true rfl)) dX11_orderAt_2 ⟨Nat.le_of_ble_eq_true rfl, Nat.le_of_ble_eq_true rfl⟩) (fun zi5 hp1 H locs hq4 hw hS => ?_)
  obtain ⟨ok2, F3, bd6, hc7, hc8⟩ := hq4
  obtain rfl : hp0 = hp1 := (Fr.nil F3).symm
  have hw : PW G cy K ln Ls A hp0 H := hw
  rcases b01 bd6 with cn9 | cn9
  · skip
    subst cn9
    refine lv_if_eq (tgt := 20) hx hb dX11_orderAt_5 (by decide) (fun _ => ?_) (fun c => absurd (d_eq bc_0 bc_0) c)
    refine lv_iconst (v := (-1)) hx hb dX11_orderAt_20 (by decide) ?_
    rw [hQ]
    exact kz_i hx hb hr hlocks hS rfl hp0 hw ⟨ok0, (Fr.rf)⟩ (Nat.le_of_ble_eq_true rfl) (Nat.le_of_ble_eq_true rfl) dX11_orderAt_21
  · skip
    subst cn9
    have bd10 : (0 : Int) ≤ zi901.toInt ∧ zi901.toInt ≤ 2147483647 := b_meet (b_all zi901) (hc7 rfl) (by decide) (by decide)
    obtain ⟨zi11, ef12, bd13⟩ := hc8 rfl
    refine lv_if_eq (tgt := 20) hx hb dX11_orderAt_5 (by decide) (fun c => absurd c (d_ne bc_1 bc_0 (by decide))) (fun _ => ?_)
    refine lv_iload_n hx hb dX11_orderAt_8 rfl (lv_at hl 3 rfl) ?_
    refine lv_if_lt (tgt := 20) hx hb dX11_orderAt_9 (by decide) (fun cn14 => ?_) (fun cn14 => ?_)
    · skip
      have bd15 : (-2147483648 : Int) ≤ zi903.toInt ∧ zi903.toInt ≤ -1 := r_lt_x cn14 (b_all zi903) bc_0 (by decide) (by decide)
      refine lv_iconst (v := (-1)) hx hb dX11_orderAt_20 (by decide) ?_
      rw [hQ]
      exact kz_i hx hb hr hlocks hS rfl hp0 hw ⟨ok0, (Fr.rf)⟩ (Nat.le_of_ble_eq_true rfl) (Nat.le_of_ble_eq_true rfl) dX11_orderAt_21
    · skip
      have bd16 : (0 : Int) ≤ zi903.toInt ∧ zi903.toInt ≤ 2147483647 := r_le_y (Int32.not_lt.mp cn14) bc_0 (b_all zi903) (by decide) (by decide)
      refine lv_iload_n hx hb dX11_orderAt_12 rfl (lv_at hl 3 rfl) ?_
      refine lv_iload_n hx hb dX11_orderAt_13 rfl (lv_at hl 1 rfl) ?_
      refine kq_i hw hS hA (va_runS (As := [.int zi901]) (rest := [.int zi903]) ⟨hx, hb, hml, hown, hT⟩ (cJ6_bitCount_0f7a4_0 l G cy ev K ln Ls hW _ hp0 ok0 zi901) (va_cwS 1 hT (good_S tb_1010 tb_1008 tb_1009 tb_126) rfl rfl rfl (by decide +kernel) ⟨Nat.le_of_ble_eq_true rfl, Nat.le_of_ble_eq_true rfl⟩) (PB2.preS hK hE hS hA hw) rfl rfl hl.1 rfl (lv_room (Nat.le_of_ble_eq_true rfl)) dX11_orderAt_14 ⟨Nat.le_of_ble_eq_true rfl, Nat.le_of_ble_eq_true rfl⟩) (fun zi21 hp17 H locs hq20 hw hS => ?_)
      obtain ⟨ok18, F19, bd22, ef23⟩ := hq20
      obtain rfl : hp0 = hp17 := (Fr.nil F19).symm
      have hw : PW G cy K ln Ls A hp0 H := hw
      have hx24 : zi11 = zi21 := ef12.trans ef23.symm
      subst hx24
      refine lv_icmp_lt (tgt := 22) hx hb dX11_orderAt_17 (by decide) (fun cn25 => ?_) (fun cn25 => ?_)
      · skip
        have bd26 : (0 : Int) ≤ zi903.toInt ∧ zi903.toInt ≤ 5 := r_lt_x cn25 bd16 bd13 (by decide) (by decide)
        have bd27 : (1 : Int) ≤ zi11.toInt ∧ zi11.toInt ≤ 6 := r_lt_y cn25 bd16 bd13 (by decide) (by decide)
        refine lv_aload_n hx hb dX11_orderAt_22 rfl (lv_at hl 0 rfl) ?_
        obtain ⟨qa29, eq28, kd30⟩ := rd_12014 ok0 kd900
        refine p_get (ci := 11) (v := .ref qa29) (C := RX11) (T := TX11) (N := 17) hx hb hT iw_X11 hown hK hw hW kd900 (by decide) rfl rfl 14 (by decide) eq28 (hT _ tb_671) (fun _ h9 => h9) dX11_orderAt_23 ?_
        refine lv_aload_n hx hb dX11_orderAt_26 rfl (lv_at hl 0 rfl) ?_
        obtain ⟨qa32, eq31, kd33⟩ := rd_12003 ok0 kd900
        refine p_get (ci := 11) (v := .ref qa32) (C := RX11) (T := TX11) (N := 17) hx hb hT iw_X11 hown hK hw hW kd900 (by decide) rfl rfl 3 (by decide) eq31 (hT _ tb_660) (fun _ h9 => h9) dX11_orderAt_27 ?_
        refine lv_aload_n hx hb dX11_orderAt_30 rfl (lv_at hl 0 rfl) ?_
        obtain ⟨qa35, eq34, kd36⟩ := rd_12005 ok0 kd900
        refine p_get (ci := 11) (v := .ref qa35) (C := RX11) (T := TX11) (N := 17) hx hb hT iw_X11 hown hK hw hW kd900 (by decide) rfl rfl 5 (by decide) eq34 (hT _ tb_662) (fun _ h9 => h9) dX11_orderAt_31 ?_
        refine lv_iload_n hx hb dX11_orderAt_34 rfl (lv_at hl 1 rfl) ?_
        refine lv_iload_n hx hb dX11_orderAt_35 rfl (lv_at hl 2 rfl) ?_
        refine kq_v hw hS hA (va_runV (As := [.ref qa32, .ref qa35, .int zi901, .int zi902]) (rest := []) ⟨hx, hb, hml, hown, hT⟩ (cX4_find_0 l G cy ev K ln Ls hW _ hp0 ok0 qa29 qa32 qa35 zi901 zi902 kd30 kd33 kd36 (b_wid2 bd902 (by decide) (by decide))) (cwV 4 hT (good_V tb_1222 tb_1219 tb_1220 tb_1221 tb_119) rfl rfl rfl (by decide +kernel) ⟨Nat.le_of_ble_eq_true rfl, Nat.le_of_ble_eq_true rfl⟩) (pool_preV (ci := 4) hK hE hS hA hw hW kd30 (by decide) rfl) rfl rfl hl.1 rfl (lv_room (Nat.le_of_ble_eq_true rfl)) dX11_orderAt_36 ⟨Nat.le_of_ble_eq_true rfl, Nat.le_of_ble_eq_true rfl⟩) (fun hp37 H locs hq40 hw hS => ?_)
        obtain ⟨ok38, F39⟩ := hq40
        have hw : PW G cy K ln Ls A hp37 H := hw
        refine lv_aload_n hx hb dX11_orderAt_39 rfl (lv_at hl 0 rfl) ?_
        have eq42 : hp37 qa900 14 = .ref qa29 := Eq.trans (Fr.at (cq := 12014) F39 kd900 (cd_o (by decide)) (by decide)) eq28
        refine p_get (ci := 11) (v := .ref qa29) (C := RX11) (T := TX11) (N := 17) hx hb hT iw_X11 hown hK hw hW kd900 (by decide) rfl rfl 14 (by decide) eq42 (hT _ tb_671) (fun _ h9 => h9) dX11_orderAt_40 ?_
        obtain ⟨qa44, eq43, kd45⟩ := rd_5002 ok38 kd30
        refine p_getN (ci := 4) (v := .ref qa44) (C := RX4) (T := TX4) (N := 8) hx hb hT iw_X4 hown hK hw hW kd30 (by decide) rfl rfl 2 (by decide) eq43 (hK.fl nw_454) (fun _ h9 => h9) dX11_orderAt_43 ?_
        refine lv_iload_n hx hb dX11_orderAt_46 rfl (lv_at hl 3 rfl) ?_
        obtain ⟨zi47, eq46⟩ := rd_36000 ok38 kd45 ((zi903 : Int32).toNatClampNeg)
        refine p_iald (v := zi47) hx hb hK hw hW kd45 (by decide) rfl (hW.len kd45 (n := 6) rfl (by decide)) (vp_b bd26 (by decide) (by decide)) eq46 dX11_orderAt_47 ?_
        rw [hQ]
        exact kz_i hx hb hr hlocks hS rfl hp37 hw ⟨ok38, (Fr.tr (Fr.rf) F39 (by decide))⟩ (Nat.le_of_ble_eq_true rfl) (Nat.le_of_ble_eq_true rfl) dX11_orderAt_48
      · skip
        refine lv_iconst (v := (-1)) hx hb dX11_orderAt_20 (by decide) ?_
        rw [hQ]
        exact kz_i hx hb hr hlocks hS rfl hp0 hw ⟨ok0, (Fr.rf)⟩ (Nat.le_of_ble_eq_true rfl) (Nat.le_of_ble_eq_true rfl) dX11_orderAt_21

set_option maxRecDepth 100000 in
set_option maxHeartbeats 4000000 in
theorem cX11_never_0 (l : Launch) (G : va_G) (cy : Nat → ClassId) (ev : Ew) (K ln : Nat → Nat) (Ls : List Nat) (hW : SW K ln Ls) (sz : Nat) (hp0 : Nat → Nat → Value) (ok0 : Ok K hp0) (qa900 : Nat) (zi901 : Int32) (zi902 : Int32) (kd900 : K qa900 = 12) : Met l yX11_never (WS yX11_never cX11_never 3 (some .int)) { frames := 12, cells := 0, slots := 0, locals := 304 } (PB2 [.ref qa900, .int zi901, .int zi902] sz G cy ev (va_pl Ls (cellOf cy K ln hp0))) (QBi (S := (Nat → Nat → Value)) (fun (r : Int32) (u : (Nat → Nat → Value)) => Ok K u ∧ Fr [3003, 3004, 8000, 8001, 8002, 8003, 8004, 8005, 8006, 8007, 8008, 27000, 40000, 41000, 42000] K hp0 u ∧ ((-1 : Int) ≤ r.toInt ∧ r.toInt ≤ 1)) G (fun u => va_pl Ls (cellOf cy K ln u)) (va_A (va_pl Ls (cellOf cy K ln hp0)) sz)) 0 0 (va_A (va_pl Ls (cellOf cy K ln hp0)) sz) := by
  refine met_of2 (y := yX11_never) (L := 3) (av := [.ref qa900, .int zi901, .int zi902]) (Qc := fun A => QBi (S := (Nat → Nat → Value)) (fun (r : Int32) (u : (Nat → Nat → Value)) => Ok K u ∧ Fr [3003, 3004, 8000, 8001, 8002, 8003, 8004, 8005, 8006, 8007, 8008, 27000, 40000, 41000, 42000] K hp0 u ∧ ((-1 : Int) ≤ r.toInt ∧ r.toInt ≤ 1)) G (fun u => va_pl Ls (cellOf cy K ln u)) A) (plainFor_of_name (by decide)) (Nat.le_of_ble_eq_true rfl) ?_
  intro p e s m below meth c hsz hx hb hr hml hown hT hlocks hin hK A hA hE hw hS ls hl
  have hw : PW G cy K ln Ls A hp0 s.heap := hw
  have hown : s.vm.findClass "LieClock" = some m.cls := hown
  have hl : lv_has ls 3 [(0, .ref qa900), (1, .int zi901), (2, .int zi902)] := hl
  obtain ⟨Q, hQ⟩ : ∃ Q : State → Prop, Q = MQ below (QBi (S := (Nat → Nat → Value)) (fun (r : Int32) (u : (Nat → Nat → Value)) => Ok K u ∧ Fr [3003, 3004, 8000, 8001, 8002, 8003, 8004, 8005, 8006, 8007, 8008, 27000, 40000, 41000, 42000] K hp0 u ∧ ((-1 : Int) ≤ r.toInt ∧ r.toInt ≤ 1)) G (fun u => va_pl Ls (cellOf cy K ln u)) A) ([.ref qa900, .int zi901, .int zi902] : List Value).toArray s 0 0 A := ⟨_, rfl⟩
  rw [← hQ]
  refine lv_aload_n hx hb dX11_never_0 rfl (lv_at hl 0 rfl) ?_
  refine lv_iload_n hx hb dX11_never_1 rfl (lv_at hl 1 rfl) ?_
  refine kq_i hw hS hA (va_runV (As := [.int zi901]) (rest := []) ⟨hx, hb, hml, hown, hT⟩ (cX11_canBeOrdered_0 l G cy ev K ln Ls hW _ hp0 ok0 qa900 zi901 kd900) (cwV 1 hT (good_V tb_1214 tb_1211 tb_1213 tb_38 tb_105) rfl rfl rfl (by decide +kernel) ⟨Nat.le_of_ble_eq_true rfl, Nat.le_of_ble_eq_true rfl⟩) (pool_preV (ci := 11) hK hE hS hA hw hW kd900 (by decide) rfl) rfl rfl hl.1 rfl (lv_room (Nat.le_of_ble_eq_true rfl)) dX11_never_2 ⟨Nat.le_of_ble_eq_true rfl, Nat.le_of_ble_eq_true rfl⟩) (fun zi5 hp1 H locs hq4 hw hS => ?_)
  obtain ⟨ok2, F3, bd6, hc7, hc8⟩ := hq4
  obtain rfl : hp0 = hp1 := (Fr.nil F3).symm
  have hw : PW G cy K ln Ls A hp0 H := hw
  rcases b01 bd6 with cn9 | cn9
  · skip
    subst cn9
    refine lv_if_ne (tgt := 10) hx hb dX11_never_5 (by decide) (fun c => absurd (d_eq bc_0 bc_0) c) (fun _ => ?_)
    refine lv_iconst (v := (-1)) hx hb dX11_never_8 (by decide) ?_
    rw [hQ]
    exact kz_i hx hb hr hlocks hS rfl hp0 hw ⟨ok0, (Fr.rf), (b_wid2 bc_m1 (by decide) (by decide))⟩ (Nat.le_of_ble_eq_true rfl) (Nat.le_of_ble_eq_true rfl) dX11_never_9
  · skip
    subst cn9
    have bd10 : (0 : Int) ≤ zi901.toInt ∧ zi901.toInt ≤ 2147483647 := b_meet (b_all zi901) (hc7 rfl) (by decide) (by decide)
    obtain ⟨zi11, ef12, bd13⟩ := hc8 rfl
    refine lv_if_ne (tgt := 10) hx hb dX11_never_5 (by decide) (fun _ => ?_) (fun c => absurd c (d_ne bc_1 bc_0 (by decide)))
    refine lv_aload_n hx hb dX11_never_10 rfl (lv_at hl 0 rfl) ?_
    obtain ⟨qa15, eq14, kd16⟩ := rd_12014 ok0 kd900
    refine p_get (ci := 11) (v := .ref qa15) (C := RX11) (T := TX11) (N := 17) hx hb hT iw_X11 hown hK hw hW kd900 (by decide) rfl rfl 14 (by decide) eq14 (hT _ tb_671) (fun _ h9 => h9) dX11_never_11 ?_
    refine lv_aload_n hx hb dX11_never_14 rfl (lv_at hl 0 rfl) ?_
    obtain ⟨qa18, eq17, kd19⟩ := rd_12003 ok0 kd900
    refine p_get (ci := 11) (v := .ref qa18) (C := RX11) (T := TX11) (N := 17) hx hb hT iw_X11 hown hK hw hW kd900 (by decide) rfl rfl 3 (by decide) eq17 (hT _ tb_660) (fun _ h9 => h9) dX11_never_15 ?_
    refine lv_aload_n hx hb dX11_never_18 rfl (lv_at hl 0 rfl) ?_
    obtain ⟨qa21, eq20, kd22⟩ := rd_12005 ok0 kd900
    refine p_get (ci := 11) (v := .ref qa21) (C := RX11) (T := TX11) (N := 17) hx hb hT iw_X11 hown hK hw hW kd900 (by decide) rfl rfl 5 (by decide) eq20 (hT _ tb_662) (fun _ h9 => h9) dX11_never_19 ?_
    refine lv_iload_n hx hb dX11_never_22 rfl (lv_at hl 1 rfl) ?_
    refine lv_iload_n hx hb dX11_never_23 rfl (lv_at hl 2 rfl) ?_
    refine kq_i hw hS hA (va_runV (As := [.ref qa18, .ref qa21, .int zi901, .int zi902]) (rest := []) ⟨hx, hb, hml, hown, hT⟩ (cX4_canAvoid_0 l G cy ev K ln Ls hW _ hp0 ok0 qa15 qa18 qa21 zi901 zi902 kd16 kd19 kd22) (cwV 4 hT (good_V tb_1247 tb_1244 tb_1245 tb_1246 tb_119) rfl rfl rfl (by decide +kernel) ⟨Nat.le_of_ble_eq_true rfl, Nat.le_of_ble_eq_true rfl⟩) (pool_preV (ci := 4) hK hE hS hA hw hW kd16 (by decide) rfl) rfl rfl hl.1 rfl (lv_room (Nat.le_of_ble_eq_true rfl)) dX11_never_24 ⟨Nat.le_of_ble_eq_true rfl, Nat.le_of_ble_eq_true rfl⟩) (fun zi27 hp23 H locs hq26 hw hS => ?_)
    obtain ⟨ok24, F25, bd28⟩ := hq26
    have hw : PW G cy K ln Ls A hp23 H := hw
    refine lv_if_eq (tgt := 34) hx hb dX11_never_27 (by decide) (fun cn29 => ?_) (fun cn29 => ?_)
    · skip
      have bd30 : (0 : Int) ≤ zi27.toInt ∧ zi27.toInt ≤ 0 := r_eq_x cn29 bd28 bc_0 (by decide) (by decide)
      refine lv_iconst (v := 0) hx hb dX11_never_34 (by decide) ?_
      rw [hQ]
      exact kz_i hx hb hr hlocks hS rfl hp23 hw ⟨ok24, (Fr.tr (Fr.rf) F25 (by decide)), (b_wid2 bc_0 (by decide) (by decide))⟩ (Nat.le_of_ble_eq_true rfl) (Nat.le_of_ble_eq_true rfl) dX11_never_35
    · skip
      have bd31 : (1 : Int) ≤ zi27.toInt ∧ zi27.toInt ≤ 1 := r_ne_lo cn29 bd28 (toi bc_0) (by decide) (by decide)
      refine lv_iconst (v := 1) hx hb dX11_never_30 (by decide) ?_
      refine lv_goto (tgt := 35) hx hb dX11_never_31 (by decide) ?_
      rw [hQ]
      exact kz_i hx hb hr hlocks hS rfl hp23 hw ⟨ok24, (Fr.tr (Fr.rf) F25 (by decide)), (b_wid2 bc_1 (by decide) (by decide))⟩ (Nat.le_of_ble_eq_true rfl) (Nat.le_of_ble_eq_true rfl) dX11_never_35

set_option maxRecDepth 100000 in
set_option maxHeartbeats 4000000 in
theorem cX11_smallest_0 (l : Launch) (G : va_G) (cy : Nat → ClassId) (ev : Ew) (K ln : Nat → Nat) (Ls : List Nat) (hW : SW K ln Ls) (sz : Nat) (hp0 : Nat → Nat → Value) (ok0 : Ok K hp0) (qa900 : Nat) (kd900 : K qa900 = 12) : Met l yX11_smallest (WS yX11_smallest cX11_smallest 1 (some .int)) { frames := 18, cells := 0, slots := 0, locals := 498 } (PB2 [.ref qa900] sz G cy ev (va_pl Ls (cellOf cy K ln hp0))) (QBi (S := (Nat → Nat → Value)) (fun (r : Int32) (u : (Nat → Nat → Value)) => Ok K u ∧ Fr [7003, 7004, 7005, 37000, 38000, 39000] K hp0 u) G (fun u => va_pl Ls (cellOf cy K ln u)) (va_A (va_pl Ls (cellOf cy K ln hp0)) sz)) 0 0 (va_A (va_pl Ls (cellOf cy K ln hp0)) sz) := by
  refine met_of2 (y := yX11_smallest) (L := 1) (av := [.ref qa900]) (Qc := fun A => QBi (S := (Nat → Nat → Value)) (fun (r : Int32) (u : (Nat → Nat → Value)) => Ok K u ∧ Fr [7003, 7004, 7005, 37000, 38000, 39000] K hp0 u) G (fun u => va_pl Ls (cellOf cy K ln u)) A) (plainFor_of_name (by decide)) (Nat.le_of_ble_eq_true rfl) ?_
  intro p e s m below meth c hsz hx hb hr hml hown hT hlocks hin hK A hA hE hw hS ls hl
  have hw : PW G cy K ln Ls A hp0 s.heap := hw
  have hown : s.vm.findClass "LieClock" = some m.cls := hown
  have hl : lv_has ls 1 [(0, .ref qa900)] := hl
  obtain ⟨Q, hQ⟩ : ∃ Q : State → Prop, Q = MQ below (QBi (S := (Nat → Nat → Value)) (fun (r : Int32) (u : (Nat → Nat → Value)) => Ok K u ∧ Fr [7003, 7004, 7005, 37000, 38000, 39000] K hp0 u) G (fun u => va_pl Ls (cellOf cy K ln u)) A) ([.ref qa900] : List Value).toArray s 0 0 A := ⟨_, rfl⟩
  rw [← hQ]
  refine lv_aload_n hx hb dX11_smallest_0 rfl (lv_at hl 0 rfl) ?_
  obtain ⟨qa2, eq1, kd3⟩ := rd_12013 ok0 kd900
  refine p_get (ci := 11) (v := .ref qa2) (C := RX11) (T := TX11) (N := 17) hx hb hT iw_X11 hown hK hw hW kd900 (by decide) rfl rfl 13 (by decide) eq1 (hT _ tb_670) (fun _ h9 => h9) dX11_smallest_1 ?_
  refine lv_aload_n hx hb dX11_smallest_4 rfl (lv_at hl 0 rfl) ?_
  obtain ⟨qa5, eq4, kd6⟩ := rd_12003 ok0 kd900
  refine p_get (ci := 11) (v := .ref qa5) (C := RX11) (T := TX11) (N := 17) hx hb hT iw_X11 hown hK hw hW kd900 (by decide) rfl rfl 3 (by decide) eq4 (hT _ tb_660) (fun _ h9 => h9) dX11_smallest_5 ?_
  refine lv_iconst (v := 1) hx hb dX11_smallest_8 (by decide) ?_
  refine lv_aload_n hx hb dX11_smallest_9 rfl (lv_at hl 0 rfl) ?_
  refine p_get (ci := 11) (v := .ref qa5) (C := RX11) (T := TX11) (N := 17) hx hb hT iw_X11 hown hK hw hW kd900 (by decide) rfl rfl 3 (by decide) eq4 (hT _ tb_660) (fun _ h9 => h9) dX11_smallest_10 ?_
  obtain ⟨zi8, eq7, bd9⟩ := rd_11004 ok0 kd6
  refine p_getN (ci := 10) (v := .int zi8) (C := RX10) (T := TX10) (N := 20) hx hb hT iw_X10 hown hK hw hW kd6 (by decide) rfl rfl 4 (by decide) eq7 (hK.fl nw_100) (fun _ h9 => h9) dX11_smallest_13 ?_
  refine lv_ishl hx hb dX11_smallest_16 (lv_topi (fun zi10 ea11 => ?_))
  have bd12 : (1 : Int) ≤ zi10.toInt ∧ zi10.toInt ≤ 65536 := b_shl1 16 ea11 bd9 (by decide) (by decide) (by decide) (by decide) (by decide)
  refine lv_iconst (v := 1) hx hb dX11_smallest_17 (by decide) ?_
  refine lv_isub hx hb dX11_smallest_18 (lv_topi (fun zi13 ea14 => ?_))
  have bd15 : (0 : Int) ≤ zi13.toInt ∧ zi13.toInt ≤ 65535 := b_isub ea14 bd12 bc_1 (by decide) (by decide) (by decide) (by decide)
  have qe16 : zi13.toInt = (zi10 : Int32).toInt - (1 : Int32).toInt := e_isub ea14 bd12 bc_1 (by decide) (by decide)
  have qe17 : zi13.toInt = zi10.toInt - 1 := by have ha : (1 : Int32).toInt = 1 := (by decide); rw [ha] at qe16; exact qe16
  refine kq_v hw hS hA (va_runV (As := [.ref qa5, .int zi13]) (rest := []) ⟨hx, hb, hml, hown, hT⟩ (cX6_takeWords_0 l G cy ev K ln Ls hW _ hp0 ok0 qa2 qa5 zi13 kd3 kd6) (cwV 2 hT (good_V tb_1259 tb_1256 tb_1257 tb_1258 tb_118) rfl rfl rfl (by decide +kernel) ⟨Nat.le_of_ble_eq_true rfl, Nat.le_of_ble_eq_true rfl⟩) (pool_preV (ci := 6) hK hE hS hA hw hW kd3 (by decide) rfl) rfl rfl hl.1 rfl (lv_room (Nat.le_of_ble_eq_true rfl)) dX11_smallest_19 ⟨Nat.le_of_ble_eq_true rfl, Nat.le_of_ble_eq_true rfl⟩) (fun hp18 H locs hq21 hw hS => ?_)
  obtain ⟨ok19, F20⟩ := hq21
  have hw : PW G cy K ln Ls A hp18 H := hw
  refine lv_aload_n hx hb dX11_smallest_22 rfl (lv_at hl 0 rfl) ?_
  have eq23 : hp18 qa900 13 = .ref qa2 := Eq.trans (Fr.at (cq := 12013) F20 kd900 (cd_o (by decide)) (by decide)) eq1
  refine p_get (ci := 11) (v := .ref qa2) (C := RX11) (T := TX11) (N := 17) hx hb hT iw_X11 hown hK hw hW kd900 (by decide) rfl rfl 13 (by decide) eq23 (hT _ tb_670) (fun _ h9 => h9) dX11_smallest_23 ?_
  refine lv_aload_n hx hb dX11_smallest_26 rfl (lv_at hl 0 rfl) ?_
  obtain ⟨qa25, eq24, kd26⟩ := rd_12005 ok19 kd900
  refine p_get (ci := 11) (v := .ref qa25) (C := RX11) (T := TX11) (N := 17) hx hb hT iw_X11 hown hK hw hW kd900 (by decide) rfl rfl 5 (by decide) eq24 (hT _ tb_662) (fun _ h9 => h9) dX11_smallest_27 ?_
  obtain ⟨wl28, eq27⟩ := rd_8005 ok19 kd26
  refine p_getN (ci := 7) (v := .long wl28) (C := RX7) (T := TX7) (N := 13) hx hb hT iw_X7 hown hK hw hW kd26 (by decide) rfl rfl 5 (by decide) eq27 (hK.fl nw_326) (fun _ h9 => h9) dX11_smallest_30 ?_
  refine lv_ldc2 (v := (-1)) hx hb hown (hT _ tb_1264) dX11_smallest_33 ?_
  refine lv_ldc2 (v := (-1)) hx hb hown (hT _ tb_1264) dX11_smallest_36 ?_
  refine kq_i hw hS hA (va_runV (As := [.long wl28, .long (-1), .long (-1)]) (rest := []) ⟨hx, hb, hml, hown, hT⟩ (cX6_fewest_0 l G cy ev K ln Ls hW _ hp18 ok19 qa2 wl28 (-1) (-1) kd3) (cwV 3 hT (good_V tb_1268 tb_1265 tb_1266 tb_1267 tb_118) rfl rfl rfl (by decide +kernel) ⟨Nat.le_of_ble_eq_true rfl, Nat.le_of_ble_eq_true rfl⟩) (pool_preV (ci := 6) hK hE hS hA hw hW kd3 (by decide) rfl) rfl rfl hl.1 rfl (lv_room (Nat.le_of_ble_eq_true rfl)) dX11_smallest_39 ⟨Nat.le_of_ble_eq_true rfl, Nat.le_of_ble_eq_true rfl⟩) (fun zi33 hp29 H locs hq32 hw hS => ?_)
  obtain ⟨ok30, F31⟩ := hq32
  have hw : PW G cy K ln Ls A hp29 H := hw
  rw [hQ]
  exact kz_i hx hb hr hlocks hS rfl hp29 hw ⟨ok30, (Fr.tr (Fr.tr (Fr.rf) F20 (by decide)) F31 (by decide))⟩ (Nat.le_of_ble_eq_true rfl) (Nat.le_of_ble_eq_true rfl) dX11_smallest_42

set_option maxRecDepth 100000 in
set_option maxHeartbeats 4000000 in
theorem cX11_states_0 (l : Launch) (G : va_G) (cy : Nat → ClassId) (ev : Ew) (K ln : Nat → Nat) (Ls : List Nat) (hW : SW K ln Ls) (sz : Nat) (hp0 : Nat → Nat → Value) (ok0 : Ok K hp0) (qa900 : Nat) (zi901 : Int32) (kd900 : K qa900 = 12) : Met l yX11_states (WS yX11_states cX11_states 2 (some .int)) { frames := 1, cells := 0, slots := 0, locals := 24 } (PB2 [.ref qa900, .int zi901] sz G cy ev (va_pl Ls (cellOf cy K ln hp0))) (QBi (S := (Nat → Nat → Value)) (fun (r : Int32) (u : (Nat → Nat → Value)) => Ok K u ∧ Fr [] K hp0 u ∧ ((-1 : Int) ≤ r.toInt ∧ r.toInt ≤ 127)) G (fun u => va_pl Ls (cellOf cy K ln u)) (va_A (va_pl Ls (cellOf cy K ln hp0)) sz)) 0 0 (va_A (va_pl Ls (cellOf cy K ln hp0)) sz) := by
  refine met_of2 (y := yX11_states) (L := 2) (av := [.ref qa900, .int zi901]) (Qc := fun A => QBi (S := (Nat → Nat → Value)) (fun (r : Int32) (u : (Nat → Nat → Value)) => Ok K u ∧ Fr [] K hp0 u ∧ ((-1 : Int) ≤ r.toInt ∧ r.toInt ≤ 127)) G (fun u => va_pl Ls (cellOf cy K ln u)) A) (plainFor_of_name (by decide)) (Nat.le_of_ble_eq_true rfl) ?_
  intro p e s m below meth c hsz hx hb hr hml hown hT hlocks hin hK A hA hE hw hS ls hl
  have hw : PW G cy K ln Ls A hp0 s.heap := hw
  have hown : s.vm.findClass "LieClock" = some m.cls := hown
  have hl : lv_has ls 2 [(0, .ref qa900), (1, .int zi901)] := hl
  obtain ⟨Q, hQ⟩ : ∃ Q : State → Prop, Q = MQ below (QBi (S := (Nat → Nat → Value)) (fun (r : Int32) (u : (Nat → Nat → Value)) => Ok K u ∧ Fr [] K hp0 u ∧ ((-1 : Int) ≤ r.toInt ∧ r.toInt ≤ 127)) G (fun u => va_pl Ls (cellOf cy K ln u)) A) ([.ref qa900, .int zi901] : List Value).toArray s 0 0 A := ⟨_, rfl⟩
  rw [← hQ]
  refine lv_aload_n hx hb dX11_states_0 rfl (lv_at hl 0 rfl) ?_
  obtain ⟨qa2, eq1, kd3⟩ := rd_12003 ok0 kd900
  refine p_get (ci := 11) (v := .ref qa2) (C := RX11) (T := TX11) (N := 17) hx hb hT iw_X11 hown hK hw hW kd900 (by decide) rfl rfl 3 (by decide) eq1 (hT _ tb_660) (fun _ h9 => h9) dX11_states_1 ?_
  refine lv_iload_n hx hb dX11_states_4 rfl (lv_at hl 1 rfl) ?_
  refine kq_i hw hS hA (va_runV (As := [.int zi901]) (rest := []) ⟨hx, hb, hml, hown, hT⟩ (cX10_hasSet_0 l G cy ev K ln Ls hW _ hp0 ok0 qa2 zi901 kd3) (cwV 1 hT (good_V tb_1218 tb_1215 tb_1216 tb_1217 tb_107) rfl rfl rfl (by decide +kernel) ⟨Nat.le_of_ble_eq_true rfl, Nat.le_of_ble_eq_true rfl⟩) (pool_preV (ci := 10) hK hE hS hA hw hW kd3 (by decide) rfl) rfl rfl hl.1 rfl (lv_room (Nat.le_of_ble_eq_true rfl)) dX11_states_5 ⟨Nat.le_of_ble_eq_true rfl, Nat.le_of_ble_eq_true rfl⟩) (fun zi8 hp4 H locs hq7 hw hS => ?_)
  obtain ⟨ok5, F6, bd9, hc10⟩ := hq7
  obtain rfl : hp0 = hp4 := (Fr.nil F6).symm
  have hw : PW G cy K ln Ls A hp0 H := hw
  rcases b01 bd9 with cn11 | cn11
  · skip
    subst cn11
    refine lv_if_ne (tgt := 13) hx hb dX11_states_8 (by decide) (fun c => absurd (d_eq bc_0 bc_0) c) (fun _ => ?_)
    refine lv_iconst (v := (-1)) hx hb dX11_states_11 (by decide) ?_
    rw [hQ]
    exact kz_i hx hb hr hlocks hS rfl hp0 hw ⟨ok0, (Fr.rf), (b_wid2 bc_m1 (by decide) (by decide))⟩ (Nat.le_of_ble_eq_true rfl) (Nat.le_of_ble_eq_true rfl) dX11_states_12
  · skip
    subst cn11
    have bd12 : (0 : Int) ≤ zi901.toInt ∧ zi901.toInt ≤ 2147483647 := b_meet (b_all zi901) (hc10 rfl) (by decide) (by decide)
    refine lv_if_ne (tgt := 13) hx hb dX11_states_8 (by decide) (fun _ => ?_) (fun c => absurd c (d_ne bc_1 bc_0 (by decide)))
    refine lv_aload_n hx hb dX11_states_13 rfl (lv_at hl 0 rfl) ?_
    obtain ⟨qa14, eq13, kd15⟩ := rd_12005 ok0 kd900
    refine p_get (ci := 11) (v := .ref qa14) (C := RX11) (T := TX11) (N := 17) hx hb hT iw_X11 hown hK hw hW kd900 (by decide) rfl rfl 5 (by decide) eq13 (hT _ tb_662) (fun _ h9 => h9) dX11_states_14 ?_
    obtain ⟨wl17, eq16⟩ := rd_8005 ok0 kd15
    refine p_getN (ci := 7) (v := .long wl17) (C := RX7) (T := TX7) (N := 13) hx hb hT iw_X7 hown hK hw hW kd15 (by decide) rfl rfl 5 (by decide) eq16 (hK.fl nw_326) (fun _ h9 => h9) dX11_states_17 ?_
    refine lv_aload_n hx hb dX11_states_20 rfl (lv_at hl 0 rfl) ?_
    refine p_get (ci := 11) (v := .ref qa2) (C := RX11) (T := TX11) (N := 17) hx hb hT iw_X11 hown hK hw hW kd900 (by decide) rfl rfl 3 (by decide) eq1 (hT _ tb_660) (fun _ h9 => h9) dX11_states_21 ?_
    refine lv_iload_n hx hb dX11_states_24 rfl (lv_at hl 1 rfl) ?_
    refine kq_l hw hS hA (va_runV (As := [.int zi901]) (rest := [.long wl17]) ⟨hx, hb, hml, hown, hT⟩ (cX10_together_0 l G cy ev K ln Ls hW _ hp0 ok0 qa2 zi901 kd3) (cwV 1 hT (good_V tb_1017 tb_1014 tb_1015 tb_1016 tb_107) rfl rfl rfl (by decide +kernel) ⟨Nat.le_of_ble_eq_true rfl, Nat.le_of_ble_eq_true rfl⟩) (pool_preV (ci := 10) hK hE hS hA hw hW kd3 (by decide) rfl) rfl rfl hl.1 rfl (lv_room (Nat.le_of_ble_eq_true rfl)) dX11_states_25 ⟨Nat.le_of_ble_eq_true rfl, Nat.le_of_ble_eq_true rfl⟩) (fun wl22 hp18 H locs hq21 hw hS => ?_)
    obtain ⟨ok19, F20⟩ := hq21
    obtain rfl : hp0 = hp18 := (Fr.nil F20).symm
    have hw : PW G cy K ln Ls A hp0 H := hw
    refine lv_land hx hb dX11_states_28 (lv_topl (fun wl23 _ => ?_))
    refine kq_i hw hS hA (va_runS (As := [.long wl23]) (rest := []) ⟨hx, hb, hml, hown, hT⟩ (cJ13_bitCount_95d88_0 l G cy ev K ln Ls hW _ hp0 ok0 wl23) (va_cwS 1 hT (good_S tb_1000 tb_998 tb_999 tb_125) rfl rfl rfl (by decide +kernel) ⟨Nat.le_of_ble_eq_true rfl, Nat.le_of_ble_eq_true rfl⟩) (PB2.preS hK hE hS hA hw) rfl rfl hl.1 rfl (lv_room (Nat.le_of_ble_eq_true rfl)) dX11_states_29 ⟨Nat.le_of_ble_eq_true rfl, Nat.le_of_ble_eq_true rfl⟩) (fun zi28 hp24 H locs hq27 hw hS => ?_)
    obtain ⟨ok25, F26, bd29⟩ := hq27
    obtain rfl : hp0 = hp24 := (Fr.nil F26).symm
    have hw : PW G cy K ln Ls A hp0 H := hw
    rw [hQ]
    exact kz_i hx hb hr hlocks hS rfl hp0 hw ⟨ok0, (Fr.rf), (b_wid2 bd29 (by decide) (by decide))⟩ (Nat.le_of_ble_eq_true rfl) (Nat.le_of_ble_eq_true rfl) dX11_states_32
