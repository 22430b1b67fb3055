set_option maxRecDepth 100000 in
set_option maxHeartbeats 4000000 in
theorem cX5_unit_1 (l : Launch) (G : va_G) (cy : Nat → ClassId) (ev : Ew) (K ln : Nat → Nat) (Ls : List Nat) (hW : SW K ln Ls) (sz : Nat) (hp0 : Nat → Nat → Value) (ok0 : Ok K hp0) (qa900 : Nat) (qa901 : Nat) (zi902 : Int32) (kd900 : K qa900 = 6) (kd901 : K qa901 = 3) (bd902 : ((5 : Int) ≤ zi902.toInt ∧ zi902.toInt ≤ 5)) : Met l yX5_unit (WS yX5_unit cX5_unit 4 none) { frames := 5, cells := 0, slots := 0, locals := 113 } (PB2 [.ref qa900, .ref qa901, .int zi902] sz G cy ev (va_pl Ls (cellOf cy K ln hp0))) (QBv (S := (Nat → Nat → Value)) (fun u : (Nat → Nat → Value) => Ok K u ∧ Fr [3002, 6002, 6003, 6004, 26000] K hp0 u) G (fun u => va_pl Ls (cellOf cy K ln u)) (va_A (va_pl Ls (cellOf cy K ln hp0)) sz)) 0 0 (va_A (va_pl Ls (cellOf cy K ln hp0)) sz) := by
  refine met_of2 (y := yX5_unit) (L := 4) (av := [.ref qa900, .ref qa901, .int zi902]) (Qc := fun A => QBv (S := (Nat → Nat → Value)) (fun u : (Nat → Nat → Value) => Ok K u ∧ Fr [3002, 6002, 6003, 6004, 26000] K hp0 u) G (fun u => va_pl Ls (cellOf cy K ln u)) A) (plainFor_of_name (by decide)) (Nat.le_of_ble_eq_true rfl) ?_
  intro p e s m below meth c hsz hx hb hr hml hown hT hlocks hin hK A hA hE hw hS ls hl
  have hw : PW G cy K ln Ls A hp0 s.heap := hw
  have hown : s.vm.findClass "LieClock$Parser" = some m.cls := hown
  have hl : lv_has ls 4 [(0, .ref qa900), (1, .ref qa901), (2, .int zi902)] := hl
  obtain ⟨Q, hQ⟩ : ∃ Q : State → Prop, Q = MQ below (QBv (S := (Nat → Nat → Value)) (fun u : (Nat → Nat → Value) => Ok K u ∧ Fr [3002, 6002, 6003, 6004, 26000] K hp0 u) G (fun u => va_pl Ls (cellOf cy K ln u)) A) ([.ref qa900, .ref qa901, .int zi902] : List Value).toArray s 0 0 A := ⟨_, rfl⟩
  rw [← hQ]
  refine lv_aload_n hx hb dX5_unit_0 rfl (lv_at hl 0 rfl) ?_
  obtain ⟨zi2, eq1⟩ := rd_6003 ok0 kd900
  refine p_get (ci := 5) (v := .int zi2) (C := RX5) (T := TX5) (N := 7) hx hb hT iw_X5 hown hK hw hW kd900 (by decide) rfl rfl 3 (by decide) eq1 (hT _ tb_374) (fun _ h9 => h9) dX5_unit_1 ?_
  refine lv_istore_n (lv' := [(3, .int zi2), (0, .ref qa900), (1, .ref qa901), (2, .int zi902)]) hx hb dX5_unit_4 rfl hl (by decide) rfl (fun ls hl => ?_)
  refine lv_iload_n hx hb dX5_unit_5 rfl (lv_at hl 0 rfl) ?_
  refine lv_bipush (v := 40) hx hb dX5_unit_6 (by decide) ?_
  refine lv_icmp_ne (tgt := 36) hx hb dX5_unit_8 (by decide) (fun cn3 => ?_) (fun cn3 => ?_)
  · skip
    refine lv_iload_n hx hb dX5_unit_36 rfl (lv_at hl 0 rfl) ?_
    refine lv_bipush (v := 103) hx hb dX5_unit_37 (by decide) ?_
    refine lv_icmp_eq (tgt := 54) hx hb dX5_unit_39 (by decide) (fun cn4 => ?_) (fun cn4 => ?_)
    · skip
      have bd5 : (103 : Int) ≤ zi2.toInt ∧ zi2.toInt ≤ 103 := r_eq_x cn4 (b_all zi2) bc_103 (by decide) (by decide)
      refine lv_aload_n hx hb dX5_unit_54 rfl (lv_at hl 1 rfl) ?_
      refine lv_iload_n hx hb dX5_unit_55 rfl (lv_at hl 0 rfl) ?_
      refine kq_i hw hS hA (va_runV (As := [.int zi2]) (rest := []) ⟨hx, hb, hml, hown, hT⟩ (cX5_accept_0 l G cy ev K ln Ls hW _ hp0 ok0 qa900 zi2 kd900) (cwV 1 hT (good_V tb_854 tb_851 tb_853 tb_8 tb_109) rfl rfl rfl (by decide +kernel) ⟨Nat.le_of_ble_eq_true rfl, Nat.le_of_ble_eq_true rfl⟩) (pool_preV (ci := 5) hK hE hS hA hw hW kd900 (by decide) rfl) rfl rfl hl.1 rfl (lv_room (Nat.le_of_ble_eq_true rfl)) dX5_unit_56 ⟨Nat.le_of_ble_eq_true rfl, Nat.le_of_ble_eq_true rfl⟩) (fun zi10 hp6 H locs hq9 hw hS => ?_)
      obtain ⟨ok7, F8, bd11, hc12, hc13⟩ := hq9
      have hw : PW G cy K ln Ls A hp6 H := hw
      refine lv_pop hx hb dX5_unit_59 rfl ?_
      refine lv_aload_n hx hb dX5_unit_60 rfl (lv_at hl 2 rfl) ?_
      refine lv_iload_n hx hb dX5_unit_61 rfl (lv_at hl 0 rfl) ?_
      refine lv_ineg hx hb dX5_unit_62 (lv_topi (fun zi14 ea15 => ?_))
      refine kq_v hw hS hA (va_runV (As := [.int zi14]) (rest := []) ⟨hx, hb, hml, hown, hT⟩ (cX2_add_0 l G cy ev K ln Ls hW _ hp6 ok7 qa901 zi14 kd901) (cwV 1 hT (good_V tb_404 tb_960 tb_402 tb_403 tb_108) rfl rfl rfl (by decide +kernel) ⟨Nat.le_of_ble_eq_true rfl, Nat.le_of_ble_eq_true rfl⟩) (pool_preV (ci := 2) hK hE hS hA hw hW kd901 (by decide) rfl) rfl rfl hl.1 rfl (lv_room (Nat.le_of_ble_eq_true rfl)) dX5_unit_63 ⟨Nat.le_of_ble_eq_true rfl, Nat.le_of_ble_eq_true rfl⟩) (fun hp16 H locs hq19 hw hS => ?_)
      obtain ⟨ok17, F18⟩ := hq19
      have hw : PW G cy K ln Ls A hp16 H := hw
      refine lv_goto (tgt := 79) hx hb dX5_unit_66 (by decide) ?_
      rw [hQ]
      exact kz_v hx hb hr hlocks hS hp16 hw ⟨ok17, (Fr.tr (Fr.tr (Fr.rf) F8 (by decide)) F18 (by decide))⟩ (Nat.le_of_ble_eq_true rfl) (Nat.le_of_ble_eq_true rfl) dX5_unit_79
    · skip
      refine lv_iload_n hx hb dX5_unit_42 rfl (lv_at hl 0 rfl) ?_
      refine lv_bipush (v := 114) hx hb dX5_unit_43 (by decide) ?_
      refine lv_icmp_lt (tgt := 69) hx hb dX5_unit_45 (by decide) (fun cn21 => ?_) (fun cn21 => ?_)
      · skip
        have bd22 : (-2147483648 : Int) ≤ zi2.toInt ∧ zi2.toInt ≤ 113 := r_lt_x cn21 (b_all zi2) bc_114 (by decide) (by decide)
        refine lv_aload_n hx hb dX5_unit_69 rfl (lv_at hl 2 rfl) ?_
        refine lv_aload_n hx hb dX5_unit_70 rfl (lv_at hl 1 rfl) ?_
        refine lv_iconst (v := 3) hx hb dX5_unit_71 (by decide) ?_
        refine kq_l hw hS hA (va_runV (As := [.int 3]) (rest := [.ref qa901]) ⟨hx, hb, hml, hown, hT⟩ (cX5_take_0 l G cy ev K ln Ls hW _ hp0 ok0 qa900 3 kd900) (cwV 1 hT (good_V tb_862 tb_859 tb_861 tb_10 tb_109) rfl rfl rfl (by decide +kernel) ⟨Nat.le_of_ble_eq_true rfl, Nat.le_of_ble_eq_true rfl⟩) (pool_preV (ci := 5) hK hE hS hA hw hW kd900 (by decide) rfl) rfl rfl hl.1 rfl (lv_room (Nat.le_of_ble_eq_true rfl)) dX5_unit_72 ⟨Nat.le_of_ble_eq_true rfl, Nat.le_of_ble_eq_true rfl⟩) (fun wl27 hp23 H locs hq26 hw hS => ?_)
        obtain ⟨ok24, F25⟩ := hq26
        have hw : PW G cy K ln Ls A hp23 H := hw
        refine lv_l2i hx hb dX5_unit_75 rfl (lv_topi (fun zi28 ea29 => ?_))
        refine kq_v hw hS hA (va_runV (As := [.int zi28]) (rest := []) ⟨hx, hb, hml, hown, hT⟩ (cX2_add_0 l G cy ev K ln Ls hW _ hp23 ok24 qa901 zi28 kd901) (cwV 1 hT (good_V tb_404 tb_960 tb_402 tb_403 tb_108) rfl rfl rfl (by decide +kernel) ⟨Nat.le_of_ble_eq_true rfl, Nat.le_of_ble_eq_true rfl⟩) (pool_preV (ci := 2) hK hE hS hA hw hW kd901 (by decide) rfl) rfl rfl hl.1 rfl (lv_room (Nat.le_of_ble_eq_true rfl)) dX5_unit_76 ⟨Nat.le_of_ble_eq_true rfl, Nat.le_of_ble_eq_true rfl⟩) (fun hp30 H locs hq33 hw hS => ?_)
        obtain ⟨ok31, F32⟩ := hq33
        have hw : PW G cy K ln Ls A hp30 H := hw
        rw [hQ]
        exact kz_v hx hb hr hlocks hS hp30 hw ⟨ok31, (Fr.tr (Fr.tr (Fr.rf) F25 (by decide)) F32 (by decide))⟩ (Nat.le_of_ble_eq_true rfl) (Nat.le_of_ble_eq_true rfl) dX5_unit_79
      · skip
        have bd35 : (114 : Int) ≤ zi2.toInt ∧ zi2.toInt ≤ 2147483647 := r_le_y (Int32.not_lt.mp cn21) bc_114 (b_all zi2) (by decide) (by decide)
        refine lv_iload_n hx hb dX5_unit_48 rfl (lv_at hl 0 rfl) ?_
        refine lv_bipush (v := 117) hx hb dX5_unit_49 (by decide) ?_
        refine lv_icmp_gt (tgt := 69) hx hb dX5_unit_51 (by decide) (fun cn36 => ?_) (fun cn36 => ?_)
        · skip
          have bd37 : (118 : Int) ≤ zi2.toInt ∧ zi2.toInt ≤ 2147483647 := r_lt_y cn36 bc_117 bd35 (by decide) (by decide)
          refine lv_aload_n hx hb dX5_unit_69 rfl (lv_at hl 2 rfl) ?_
          refine lv_aload_n hx hb dX5_unit_70 rfl (lv_at hl 1 rfl) ?_
          refine lv_iconst (v := 3) hx hb dX5_unit_71 (by decide) ?_
          refine kq_l hw hS hA (va_runV (As := [.int 3]) (rest := [.ref qa901]) ⟨hx, hb, hml, hown, hT⟩ (cX5_take_0 l G cy ev K ln Ls hW _ hp0 ok0 qa900 3 kd900) (cwV 1 hT (good_V tb_862 tb_859 tb_861 tb_10 tb_109) rfl rfl rfl (by decide +kernel) ⟨Nat.le_of_ble_eq_true rfl, Nat.le_of_ble_eq_true rfl⟩) (pool_preV (ci := 5) hK hE hS hA hw hW kd900 (by decide) rfl) rfl rfl hl.1 rfl (lv_room (Nat.le_of_ble_eq_true rfl)) dX5_unit_72 ⟨Nat.le_of_ble_eq_true rfl, Nat.le_of_ble_eq_true rfl⟩) (fun wl42 hp38 H locs hq41 hw hS => ?_)
          obtain ⟨ok39, F40⟩ := hq41
          have hw : PW G cy K ln Ls A hp38 H := hw
          refine lv_l2i hx hb dX5_unit_75 rfl (lv_topi (fun zi43 ea44 => ?_))
          refine kq_v hw hS hA (va_runV (As := [.int zi43]) (rest := []) ⟨hx, hb, hml, hown, hT⟩ (cX2_add_0 l G cy ev K ln Ls hW _ hp38 ok39 qa901 zi43 kd901) (cwV 1 hT (good_V tb_404 tb_960 tb_402 tb_403 tb_108) rfl rfl rfl (by decide +kernel) ⟨Nat.le_of_ble_eq_true rfl, Nat.le_of_ble_eq_true rfl⟩) (pool_preV (ci := 2) hK hE hS hA hw hW kd901 (by decide) rfl) rfl rfl hl.1 rfl (lv_room (Nat.le_of_ble_eq_true rfl)) dX5_unit_76 ⟨Nat.le_of_ble_eq_true rfl, Nat.le_of_ble_eq_true rfl⟩) (fun hp45 H locs hq48 hw hS => ?_)
          obtain ⟨ok46, F47⟩ := hq48
          have hw : PW G cy K ln Ls A hp45 H := hw
          rw [hQ]
          exact kz_v hx hb hr hlocks hS hp45 hw ⟨ok46, (Fr.tr (Fr.tr (Fr.rf) F40 (by decide)) F47 (by decide))⟩ (Nat.le_of_ble_eq_true rfl) (Nat.le_of_ble_eq_true rfl) dX5_unit_79
        · skip
          have bd50 : (114 : Int) ≤ zi2.toInt ∧ zi2.toInt ≤ 117 := r_le_x (Int32.not_lt.mp cn36) bd35 bc_117 (by decide) (by decide)
          refine lv_aload_n hx hb dX5_unit_54 rfl (lv_at hl 1 rfl) ?_
          refine lv_iload_n hx hb dX5_unit_55 rfl (lv_at hl 0 rfl) ?_
          refine kq_i hw hS hA (va_runV (As := [.int zi2]) (rest := []) ⟨hx, hb, hml, hown, hT⟩ (cX5_accept_0 l G cy ev K ln Ls hW _ hp0 ok0 qa900 zi2 kd900) (cwV 1 hT (good_V tb_854 tb_851 tb_853 tb_8 tb_109) rfl rfl rfl (by decide +kernel) ⟨Nat.le_of_ble_eq_true rfl, Nat.le_of_ble_eq_true rfl⟩) (pool_preV (ci := 5) hK hE hS hA hw hW kd900 (by decide) rfl) rfl rfl hl.1 rfl (lv_room (Nat.le_of_ble_eq_true rfl)) dX5_unit_56 ⟨Nat.le_of_ble_eq_true rfl, Nat.le_of_ble_eq_true rfl⟩) (fun zi55 hp51 H locs hq54 hw hS => ?_)
          obtain ⟨ok52, F53, bd56, hc57, hc58⟩ := hq54
          have hw : PW G cy K ln Ls A hp51 H := hw
          refine lv_pop hx hb dX5_unit_59 rfl ?_
          refine lv_aload_n hx hb dX5_unit_60 rfl (lv_at hl 2 rfl) ?_
          refine lv_iload_n hx hb dX5_unit_61 rfl (lv_at hl 0 rfl) ?_
          refine lv_ineg hx hb dX5_unit_62 (lv_topi (fun zi59 ea60 => ?_))
          refine kq_v hw hS hA (va_runV (As := [.int zi59]) (rest := []) ⟨hx, hb, hml, hown, hT⟩ (cX2_add_0 l G cy ev K ln Ls hW _ hp51 ok52 qa901 zi59 kd901) (cwV 1 hT (good_V tb_404 tb_960 tb_402 tb_403 tb_108) rfl rfl rfl (by decide +kernel) ⟨Nat.le_of_ble_eq_true rfl, Nat.le_of_ble_eq_true rfl⟩) (pool_preV (ci := 2) hK hE hS hA hw hW kd901 (by decide) rfl) rfl rfl hl.1 rfl (lv_room (Nat.le_of_ble_eq_true rfl)) dX5_unit_63 ⟨Nat.le_of_ble_eq_true rfl, Nat.le_of_ble_eq_true rfl⟩) (fun hp61 H locs hq64 hw hS => ?_)
          obtain ⟨ok62, F63⟩ := hq64
          have hw : PW G cy K ln Ls A hp61 H := hw
          refine lv_goto (tgt := 79) hx hb dX5_unit_66 (by decide) ?_
          rw [hQ]
          exact kz_v hx hb hr hlocks hS hp61 hw ⟨ok62, (Fr.tr (Fr.tr (Fr.rf) F53 (by decide)) F63 (by decide))⟩ (Nat.le_of_ble_eq_true rfl) (Nat.le_of_ble_eq_true rfl) dX5_unit_79
  · skip
    have bd66 : (40 : Int) ≤ zi2.toInt ∧ zi2.toInt ≤ 40 := r_eq_x cn3 (b_all zi2) bc_40 (by decide) (by decide)
    refine lv_aload_n hx hb dX5_unit_11 rfl (lv_at hl 1 rfl) ?_
    refine lv_iload_n hx hb dX5_unit_12 rfl (lv_at hl 3 rfl) ?_
    refine kq_i hw hS hA (va_runV (As := [.int zi902]) (rest := []) ⟨hx, hb, hml, hown, hT⟩ (cX5_enter_5 l G cy ev K ln Ls hW _ hp0 ok0 qa900 zi902 kd900 (b_wid2 bd902 (by decide) (by decide))) (cwV 1 hT (good_V tb_922 tb_919 tb_921 tb_18 tb_109) rfl rfl rfl (by decide +kernel) ⟨Nat.le_of_ble_eq_true rfl, Nat.le_of_ble_eq_true rfl⟩) (pool_preV (ci := 5) hK hE hS hA hw hW kd900 (by decide) rfl) rfl rfl hl.1 rfl (lv_room (Nat.le_of_ble_eq_true rfl)) dX5_unit_13 ⟨Nat.le_of_ble_eq_true rfl, Nat.le_of_ble_eq_true rfl⟩) (fun zi71 hp67 H locs hq70 hw hS => ?_)
    obtain ⟨ok68, F69, bd72, hc73, hc74⟩ := hq70
    have hw : PW G cy K ln Ls A hp67 H := hw
    have jn95 : ∀ (hp92 : Nat → Nat → Value)  (H : Heap) (locs : List Loc) (ls : Array Slot), Ok K hp92 → Fr [3002, 6002, 6003, 6004, 26000] K hp67 hp92 → lv_has ls 4 [(0, .ref qa900)] → PW G cy K ln Ls A hp92 H → va_S A s.heap H locs → W p l e ({ frames := 5, cells := 0, slots := 0, locals := 113 } : Room) s m ([.ref qa900, .ref qa901, .int zi902] : List Value).toArray below meth c H locs 0 0 Q (F0 m 27 ls []) := by
      intro hp92 H locs ls ok94 F93 hl hw hS
      refine lv_aload_n hx hb dX5_unit_27 rfl (lv_at hl 0 rfl) ?_
      refine lv_bipush (v := 41) hx hb dX5_unit_28 (by decide) ?_
      refine kq_v hw hS hA (va_runV (As := [.int 41]) (rest := []) ⟨hx, hb, hml, hown, hT⟩ (cX5_expect_0 l G cy ev K ln Ls hW _ hp92 ok94 qa900 41 kd900) (cwV 1 hT (good_V tb_889 tb_886 tb_888 tb_12 tb_109) rfl rfl rfl (by decide +kernel) ⟨Nat.le_of_ble_eq_true rfl, Nat.le_of_ble_eq_true rfl⟩) (pool_preV (ci := 5) hK hE hS hA hw hW kd900 (by decide) rfl) rfl rfl hl.1 rfl (lv_room (Nat.le_of_ble_eq_true rfl)) dX5_unit_30 ⟨Nat.le_of_ble_eq_true rfl, Nat.le_of_ble_eq_true rfl⟩) (fun hp96 H locs hq99 hw hS => ?_)
      obtain ⟨ok97, F98⟩ := hq99
      have hw : PW G cy K ln Ls A hp96 H := hw
      refine lv_goto (tgt := 79) hx hb dX5_unit_33 (by decide) ?_
      rw [hQ]
      exact kz_v hx hb hr hlocks hS hp96 hw ⟨ok97, (Fr.tr (Fr.tr (Fr.tr (Fr.rf) F69 (by decide)) F93 (by decide)) F98 (by decide))⟩ (Nat.le_of_ble_eq_true rfl) (Nat.le_of_ble_eq_true rfl) dX5_unit_79
    rcases b01 bd72 with cn75 | cn75
    · skip
      subst cn75
      refine lv_if_eq (tgt := 27) hx hb dX5_unit_16 (by decide) (fun _ => ?_) (fun c => absurd (d_eq bc_0 bc_0) c)
      exact jn95 hp67 _ _ ls ok68 (Fr.rf) (lv_sub hl [1] rfl) hw hS
    · skip
      subst cn75
      obtain ⟨zi101, eq102, bd103⟩ := hc73 rfl
      obtain ⟨zi104, eq105, bd106⟩ := hc74 rfl
      refine lv_if_eq (tgt := 27) hx hb dX5_unit_16 (by decide) (fun c => absurd c (d_ne bc_1 bc_0 (by decide))) (fun _ => ?_)
      refine lv_aload_n hx hb dX5_unit_19 rfl (lv_at hl 1 rfl) ?_
      refine lv_aload_n hx hb dX5_unit_20 rfl (lv_at hl 2 rfl) ?_
      refine lv_iload_n hx hb dX5_unit_21 rfl (lv_at hl 3 rfl) ?_
      refine lv_iconst (v := 1) hx hb dX5_unit_22 (by decide) ?_
      refine lv_iadd hx hb dX5_unit_23 (lv_topi (fun zi107 ea108 => ?_))
      have bd109 : (6 : Int) ≤ zi107.toInt ∧ zi107.toInt ≤ 6 := b_iadd ea108 bd902 bc_1 (by decide) (by decide) (by decide) (by decide)
      have qe110 : zi107.toInt = (zi902 : Int32).toInt + (1 : Int32).toInt := e_iadd ea108 bd902 bc_1 (by decide) (by decide)
      have qe111 : zi107.toInt = zi902.toInt + 1 := by have ha : (1 : Int32).toInt = 1 := (by decide); rw [ha] at qe110; exact qe110
      refine kq_v hw hS hA (va_runV (As := [.ref qa901, .int zi107]) (rest := []) ⟨hx, hb, hml, hown, hT⟩ (cX5_sum_0 l G cy ev K ln Ls hW _ hp67 ok68 qa900 qa901 zi107 kd900 kd901 (b_wid2 bd109 (by decide) (by decide))) (cwV 2 hT (good_V tb_951 tb_948 tb_950 tb_22 tb_109) rfl rfl rfl (by decide +kernel) ⟨Nat.le_of_ble_eq_true rfl, Nat.le_of_ble_eq_true rfl⟩) (pool_preV (ci := 5) hK hE hS hA hw hW kd900 (by decide) rfl) rfl rfl hl.1 rfl (lv_room (Nat.le_of_ble_eq_true rfl)) dX5_unit_24 ⟨Nat.le_of_ble_eq_true rfl, Nat.le_of_ble_eq_true rfl⟩) (fun hp112 H locs hq115 hw hS => ?_)
      obtain ⟨ok113, F114⟩ := hq115
      have hw : PW G cy K ln Ls A hp112 H := hw
      exact jn95 hp112 _ _ ls ok113 (Fr.tr (Fr.rf) F114 (by decide)) (lv_sub hl [1] rfl) hw hS

set_option maxRecDepth 100000 in
set_option maxHeartbeats 4000000 in
theorem cX5_product_1 (l : Launch) (G : va_G) (cy : Nat → ClassId) (ev : Ew) (K ln : Nat → Nat) (Ls : List Nat) (hW : SW K ln Ls) (sz : Nat) (hp0 : Nat → Nat → Value) (ok0 : Ok K hp0) (qa900 : Nat) (qa901 : Nat) (zi902 : Int32) (kd900 : K qa900 = 6) (kd901 : K qa901 = 3) (bd902 : ((5 : Int) ≤ zi902.toInt ∧ zi902.toInt ≤ 5)) : Met l yX5_product (WS yX5_product cX5_product 5 none) { frames := 6, cells := 0, slots := 0, locals := 136 } (PB2 [.ref qa900, .ref qa901, .int zi902] sz G cy ev (va_pl Ls (cellOf cy K ln hp0))) (QBv (S := (Nat → Nat → Value)) (fun u : (Nat → Nat → Value) => Ok K u ∧ Fr [3002, 6002, 6003, 6004, 26000] K hp0 u) G (fun u => va_pl Ls (cellOf cy K ln u)) (va_A (va_pl Ls (cellOf cy K ln hp0)) sz)) 0 0 (va_A (va_pl Ls (cellOf cy K ln hp0)) sz) := by
  refine met_of2 (y := yX5_product) (L := 5) (av := [.ref qa900, .ref qa901, .int zi902]) (Qc := fun A => QBv (S := (Nat → Nat → Value)) (fun u : (Nat → Nat → Value) => Ok K u ∧ Fr [3002, 6002, 6003, 6004, 26000] K hp0 u) G (fun u => va_pl Ls (cellOf cy K ln u)) A) (plainFor_of_name (by decide)) (Nat.le_of_ble_eq_true rfl) ?_
  intro p e s m below meth c hsz hx hb hr hml hown hT hlocks hin hK A hA hE hw hS ls hl
  have hw : PW G cy K ln Ls A hp0 s.heap := hw
  have hown : s.vm.findClass "LieClock$Parser" = some m.cls := hown
  have hl : lv_has ls 5 [(0, .ref qa900), (1, .ref qa901), (2, .int zi902)] := hl
  obtain ⟨Q, hQ⟩ : ∃ Q : State → Prop, Q = MQ below (QBv (S := (Nat → Nat → Value)) (fun u : (Nat → Nat → Value) => Ok K u ∧ Fr [3002, 6002, 6003, 6004, 26000] K hp0 u) G (fun u => va_pl Ls (cellOf cy K ln u)) A) ([.ref qa900, .ref qa901, .int zi902] : List Value).toArray s 0 0 A := ⟨_, rfl⟩
  rw [← hQ]
  refine lv_aload_n hx hb dX5_product_0 rfl (lv_at hl 0 rfl) ?_
  refine lv_aload_n hx hb dX5_product_1 rfl (lv_at hl 1 rfl) ?_
  refine lv_iload_n hx hb dX5_product_2 rfl (lv_at hl 2 rfl) ?_
  refine kq_v hw hS hA (va_runV (As := [.ref qa901, .int zi902]) (rest := []) ⟨hx, hb, hml, hown, hT⟩ (cX5_unit_1 l G cy ev K ln Ls hW _ hp0 ok0 qa900 qa901 zi902 kd900 kd901 (b_wid2 bd902 (by decide) (by decide))) (cwV 2 hT (good_V tb_959 tb_956 tb_958 tb_24 tb_109) rfl rfl rfl (by decide +kernel) ⟨Nat.le_of_ble_eq_true rfl, Nat.le_of_ble_eq_true rfl⟩) (pool_preV (ci := 5) hK hE hS hA hw hW kd900 (by decide) rfl) rfl rfl hl.1 rfl (lv_room (Nat.le_of_ble_eq_true rfl)) dX5_product_3 ⟨Nat.le_of_ble_eq_true rfl, Nat.le_of_ble_eq_true rfl⟩) (fun hp1 H locs hq4 hw hS => ?_)
  obtain ⟨ok2, F3⟩ := hq4
  have hw : PW G cy K ln Ls A hp1 H := hw
  refine lv_iconst (v := 0) hx hb dX5_product_6 (by decide) ?_
  refine lv_istore_n (lv' := [(3, .int 0), (0, .ref qa900), (1, .ref qa901), (2, .int zi902)]) hx hb dX5_product_7 rfl hl (by decide) rfl (fun ls hl => ?_)
  have jn611 : ∀ (hp608 : Nat → Nat → Value)  (H : Heap) (locs : List Loc) (ls : Array Slot), Ok K hp608 → Fr [3002, 6002, 6003, 6004, 26000] K hp1 hp608 → lv_has ls 5 [] → PW G cy K ln Ls A hp608 H → va_S A s.heap H locs → W p l e ({ frames := 6, cells := 0, slots := 0, locals := 136 } : Room) s m ([.ref qa900, .ref qa901, .int zi902] : List Value).toArray below meth c H locs 0 0 Q (F0 m 65 ls []) := by
    intro hp608 H locs ls ok610 F609 hl hw hS
    rw [hQ]
    exact kz_v hx hb hr hlocks hS hp608 hw ⟨ok610, (Fr.tr (Fr.tr (Fr.rf) F3 (by decide)) F609 (by decide))⟩ (Nat.le_of_ble_eq_true rfl) (Nat.le_of_ble_eq_true rfl) dX5_product_65
  have lp614 : ∀ (n612 : Nat) (hp486 : Nat → Nat → Value) (zi485 : Int32) (H : Heap) (locs : List Loc) (ls : Array Slot), 401 - zi485.toInt < (n612 : Int) → Ok K hp486 → Fr [3002, 6002, 6003, 6004, 26000] K hp1 hp486 → ((0 : Int) ≤ zi485.toInt ∧ zi485.toInt ≤ 401) → lv_has ls 5 [(0, .ref qa900), (1, .ref qa901), (2, .int zi902), (3, .int zi485)] → PW G cy K ln Ls A hp486 H → va_S A s.heap H locs → W p l e ({ frames := 6, cells := 0, slots := 0, locals := 136 } : Room) s m ([.ref qa900, .ref qa901, .int zi902] : List Value).toArray below meth c H locs 0 0 Q (F0 m 8 ls []) := by
    intro n612
    induction n612 with
    | zero =>
      intro hp486 zi485 H locs ls hm615 ok488 F487 bd489 hl hw hS
      exact absurd hm615 (by have := bd489; omega)
    | succ n612 ih613 =>
      intro hp486 zi485 H locs ls hm615 ok488 F487 bd489 hl hw hS
      refine lv_iload_n hx hb dX5_product_8 rfl (lv_at hl 3 rfl) ?_
      refine lv_sipush (v := 400) hx hb dX5_product_9 (by decide) ?_
      refine lv_icmp_gt (tgt := 65) hx hb dX5_product_12 (by decide) (fun cn616 => ?_) (fun cn616 => ?_)
      · skip
        have bd617 : (401 : Int) ≤ zi485.toInt ∧ zi485.toInt ≤ 401 := r_lt_y cn616 bc_400 bd489 (by decide) (by decide)
        exact jn611 hp486 _ _ ls ok488 (Fr.tr (Fr.rf) F487 (by decide)) (lv_sub hl [] rfl) hw hS
      · skip
        have bd618 : (0 : Int) ≤ zi485.toInt ∧ zi485.toInt ≤ 400 := r_le_x (Int32.not_lt.mp cn616) bd489 bc_400 (by decide) (by decide)
        refine lv_aload_n hx hb dX5_product_15 rfl (lv_at hl 0 rfl) ?_
        obtain ⟨zi620, eq619⟩ := rd_6003 ok488 kd900
        refine p_get (ci := 5) (v := .int zi620) (C := RX5) (T := TX5) (N := 7) hx hb hT iw_X5 hown hK hw hW kd900 (by decide) rfl rfl 3 (by decide) eq619 (hT _ tb_374) (fun _ h9 => h9) dX5_product_16 ?_
        refine lv_bipush (v := 42) hx hb dX5_product_19 (by decide) ?_
        refine lv_icmp_eq (tgt := 33) hx hb dX5_product_21 (by decide) (fun cn621 => ?_) (fun cn621 => ?_)
        · skip
          have bd622 : (42 : Int) ≤ zi620.toInt ∧ zi620.toInt ≤ 42 := r_eq_x cn621 (b_all zi620) bc_42 (by decide) (by decide)
          refine lv_aload_n hx hb dX5_product_33 rfl (lv_at hl 0 rfl) ?_
          refine p_get (ci := 5) (v := .int zi620) (C := RX5) (T := TX5) (N := 7) hx hb hT iw_X5 hown hK hw hW kd900 (by decide) rfl rfl 3 (by decide) eq619 (hT _ tb_374) (fun _ h9 => h9) dX5_product_34 ?_
          refine lv_istore (lv' := [(4, .int zi620), (0, .ref qa900), (1, .ref qa901), (2, .int zi902), (3, .int zi485)]) hx hb dX5_product_37 hl (by decide) rfl (fun ls hl => ?_)
          refine lv_aload_n hx hb dX5_product_39 rfl (lv_at hl 1 rfl) ?_
          refine lv_iload hx hb dX5_product_40 (lv_at hl 0 rfl) ?_
          refine kq_i hw hS hA (va_runV (As := [.int zi620]) (rest := []) ⟨hx, hb, hml, hown, hT⟩ (cX5_accept_0 l G cy ev K ln Ls hW _ hp486 ok488 qa900 zi620 kd900) (cwV 1 hT (good_V tb_854 tb_851 tb_853 tb_8 tb_109) rfl rfl rfl (by decide +kernel) ⟨Nat.le_of_ble_eq_true rfl, Nat.le_of_ble_eq_true rfl⟩) (pool_preV (ci := 5) hK hE hS hA hw hW kd900 (by decide) rfl) rfl rfl hl.1 rfl (lv_room (Nat.le_of_ble_eq_true rfl)) dX5_product_42 ⟨Nat.le_of_ble_eq_true rfl, Nat.le_of_ble_eq_true rfl⟩) (fun zi627 hp623 H locs hq626 hw hS => ?_)
          obtain ⟨ok624, F625, bd628, hc629, hc630⟩ := hq626
          have hw : PW G cy K ln Ls A hp623 H := hw
          refine lv_pop hx hb dX5_product_45 rfl ?_
          refine lv_aload_n hx hb dX5_product_46 rfl (lv_at hl 1 rfl) ?_
          refine lv_aload_n hx hb dX5_product_47 rfl (lv_at hl 2 rfl) ?_
          refine lv_iload_n hx hb dX5_product_48 rfl (lv_at hl 3 rfl) ?_
          refine kq_v hw hS hA (va_runV (As := [.ref qa901, .int zi902]) (rest := []) ⟨hx, hb, hml, hown, hT⟩ (cX5_unit_1 l G cy ev K ln Ls hW _ hp623 ok624 qa900 qa901 zi902 kd900 kd901 (b_wid2 bd902 (by decide) (by decide))) (cwV 2 hT (good_V tb_959 tb_956 tb_958 tb_24 tb_109) rfl rfl rfl (by decide +kernel) ⟨Nat.le_of_ble_eq_true rfl, Nat.le_of_ble_eq_true rfl⟩) (pool_preV (ci := 5) hK hE hS hA hw hW kd900 (by decide) rfl) rfl rfl hl.1 rfl (lv_room (Nat.le_of_ble_eq_true rfl)) dX5_product_49 ⟨Nat.le_of_ble_eq_true rfl, Nat.le_of_ble_eq_true rfl⟩) (fun hp631 H locs hq634 hw hS => ?_)
          obtain ⟨ok632, F633⟩ := hq634
          have hw : PW G cy K ln Ls A hp631 H := hw
          refine lv_aload_n hx hb dX5_product_52 rfl (lv_at hl 2 rfl) ?_
          refine lv_iload hx hb dX5_product_53 (lv_at hl 0 rfl) ?_
          refine lv_ineg hx hb dX5_product_55 (lv_topi (fun zi636 ea637 => ?_))
          refine kq_v hw hS hA (va_runV (As := [.int zi636]) (rest := []) ⟨hx, hb, hml, hown, hT⟩ (cX2_add_0 l G cy ev K ln Ls hW _ hp631 ok632 qa901 zi636 kd901) (cwV 1 hT (good_V tb_404 tb_960 tb_402 tb_403 tb_108) rfl rfl rfl (by decide +kernel) ⟨Nat.le_of_ble_eq_true rfl, Nat.le_of_ble_eq_true rfl⟩) (pool_preV (ci := 2) hK hE hS hA hw hW kd901 (by decide) rfl) rfl rfl hl.1 rfl (lv_room (Nat.le_of_ble_eq_true rfl)) dX5_product_56 ⟨Nat.le_of_ble_eq_true rfl, Nat.le_of_ble_eq_true rfl⟩) (fun hp638 H locs hq641 hw hS => ?_)
          obtain ⟨ok639, F640⟩ := hq641
          have hw : PW G cy K ln Ls A hp638 H := hw
          obtain ⟨zi643, ea644⟩ : ∃ z : Int32, z = zi485 + 1 := ⟨_, rfl⟩
          have bd645 : (1 : Int) ≤ zi643.toInt ∧ zi643.toInt ≤ 401 := b_iadd ea644 bd618 bc_1 (by decide) (by decide) (by decide) (by decide)
          have qe646 : zi643.toInt = (zi485 : Int32).toInt + (1 : Int32).toInt := e_iadd ea644 bd618 bc_1 (by decide) (by decide)
          have qe647 : zi643.toInt = zi485.toInt + 1 := by have ha : (1 : Int32).toInt = 1 := (by decide); rw [ha] at qe646; exact qe646
          refine lv_iinc (v := zi643) (lv' := [(3, .int zi643), (4, .int zi620), (0, .ref qa900), (1, .ref qa901), (2, .int zi902)]) hx hb dX5_product_59 hl (k := 4) rfl ea644.symm (by decide) rfl (fun ls hl => ?_)
          refine lv_goto (tgt := 8) hx hb dX5_product_62 (by decide) ?_
          exact ih613 hp638 zi643 _ _ ls (by have := hm615; have := qe647; omega) ok639 (Fr.tr (Fr.tr (Fr.tr (Fr.tr (Fr.rf) F487 (by decide)) F625 (by decide)) F633 (by decide)) F640 (by decide)) (b_wid2 bd645 (by decide) (by decide)) (lv_sub hl [2, 3, 4, 0] rfl) hw hS
        · skip
          refine lv_aload_n hx hb dX5_product_24 rfl (lv_at hl 0 rfl) ?_
          refine p_get (ci := 5) (v := .int zi620) (C := RX5) (T := TX5) (N := 7) hx hb hT iw_X5 hown hK hw hW kd900 (by decide) rfl rfl 3 (by decide) eq619 (hT _ tb_374) (fun _ h9 => h9) dX5_product_25 ?_
          refine lv_bipush (v := 47) hx hb dX5_product_28 (by decide) ?_
          refine lv_icmp_ne (tgt := 65) hx hb dX5_product_30 (by decide) (fun cn648 => ?_) (fun cn648 => ?_)
          · skip
            exact jn611 hp486 _ _ ls ok488 (Fr.tr (Fr.rf) F487 (by decide)) (lv_sub hl [] rfl) hw hS
          · skip
            have bd649 : (47 : Int) ≤ zi620.toInt ∧ zi620.toInt ≤ 47 := r_eq_x cn648 (b_all zi620) bc_47 (by decide) (by decide)
            refine lv_aload_n hx hb dX5_product_33 rfl (lv_at hl 0 rfl) ?_
            refine p_get (ci := 5) (v := .int zi620) (C := RX5) (T := TX5) (N := 7) hx hb hT iw_X5 hown hK hw hW kd900 (by decide) rfl rfl 3 (by decide) eq619 (hT _ tb_374) (fun _ h9 => h9) dX5_product_34 ?_
            refine lv_istore (lv' := [(4, .int zi620), (0, .ref qa900), (1, .ref qa901), (2, .int zi902), (3, .int zi485)]) hx hb dX5_product_37 hl (by decide) rfl (fun ls hl => ?_)
            refine lv_aload_n hx hb dX5_product_39 rfl (lv_at hl 1 rfl) ?_
            refine lv_iload hx hb dX5_product_40 (lv_at hl 0 rfl) ?_
            refine kq_i hw hS hA (va_runV (As := [.int zi620]) (rest := []) ⟨hx, hb, hml, hown, hT⟩ (cX5_accept_0 l G cy ev K ln Ls hW _ hp486 ok488 qa900 zi620 kd900) (cwV 1 hT (good_V tb_854 tb_851 tb_853 tb_8 tb_109) rfl rfl rfl (by decide +kernel) ⟨Nat.le_of_ble_eq_true rfl, Nat.le_of_ble_eq_true rfl⟩) (pool_preV (ci := 5) hK hE hS hA hw hW kd900 (by decide) rfl) rfl rfl hl.1 rfl (lv_room (Nat.le_of_ble_eq_true rfl)) dX5_product_42 ⟨Nat.le_of_ble_eq_true rfl, Nat.le_of_ble_eq_true rfl⟩) (fun zi654 hp650 H locs hq653 hw hS => ?_)
            obtain ⟨ok651, F652, bd655, hc656, hc657⟩ := hq653
            have hw : PW G cy K ln Ls A hp650 H := hw
            refine lv_pop hx hb dX5_product_45 rfl ?_
            refine lv_aload_n hx hb dX5_product_46 rfl (lv_at hl 1 rfl) ?_
            refine lv_aload_n hx hb dX5_product_47 rfl (lv_at hl 2 rfl) ?_
            refine lv_iload_n hx hb dX5_product_48 rfl (lv_at hl 3 rfl) ?_
            refine kq_v hw hS hA (va_runV (As := [.ref qa901, .int zi902]) (rest := []) ⟨hx, hb, hml, hown, hT⟩ (cX5_unit_1 l G cy ev K ln Ls hW _ hp650 ok651 qa900 qa901 zi902 kd900 kd901 (b_wid2 bd902 (by decide) (by decide))) (cwV 2 hT (good_V tb_959 tb_956 tb_958 tb_24 tb_109) rfl rfl rfl (by decide +kernel) ⟨Nat.le_of_ble_eq_true rfl, Nat.le_of_ble_eq_true rfl⟩) (pool_preV (ci := 5) hK hE hS hA hw hW kd900 (by decide) rfl) rfl rfl hl.1 rfl (lv_room (Nat.le_of_ble_eq_true rfl)) dX5_product_49 ⟨Nat.le_of_ble_eq_true rfl, Nat.le_of_ble_eq_true rfl⟩) (fun hp658 H locs hq661 hw hS => ?_)
            obtain ⟨ok659, F660⟩ := hq661
            have hw : PW G cy K ln Ls A hp658 H := hw
            refine lv_aload_n hx hb dX5_product_52 rfl (lv_at hl 2 rfl) ?_
            refine lv_iload hx hb dX5_product_53 (lv_at hl 0 rfl) ?_
            refine lv_ineg hx hb dX5_product_55 (lv_topi (fun zi663 ea664 => ?_))
            refine kq_v hw hS hA (va_runV (As := [.int zi663]) (rest := []) ⟨hx, hb, hml, hown, hT⟩ (cX2_add_0 l G cy ev K ln Ls hW _ hp658 ok659 qa901 zi663 kd901) (cwV 1 hT (good_V tb_404 tb_960 tb_402 tb_403 tb_108) rfl rfl rfl (by decide +kernel) ⟨Nat.le_of_ble_eq_true rfl, Nat.le_of_ble_eq_true rfl⟩) (pool_preV (ci := 2) hK hE hS hA hw hW kd901 (by decide) rfl) rfl rfl hl.1 rfl (lv_room (Nat.le_of_ble_eq_true rfl)) dX5_product_56 ⟨Nat.le_of_ble_eq_true rfl, Nat.le_of_ble_eq_true rfl⟩) (fun hp665 H locs hq668 hw hS => ?_)
            obtain ⟨ok666, F667⟩ := hq668
            have hw : PW G cy K ln Ls A hp665 H := hw
            obtain ⟨zi670, ea671⟩ : ∃ z : Int32, z = zi485 + 1 := ⟨_, rfl⟩
            have bd672 : (1 : Int) ≤ zi670.toInt ∧ zi670.toInt ≤ 401 := b_iadd ea671 bd618 bc_1 (by decide) (by decide) (by decide) (by decide)
            have qe673 : zi670.toInt = (zi485 : Int32).toInt + (1 : Int32).toInt := e_iadd ea671 bd618 bc_1 (by decide) (by decide)
            have qe674 : zi670.toInt = zi485.toInt + 1 := by have ha : (1 : Int32).toInt = 1 := (by decide); rw [ha] at qe673; exact qe673
            refine lv_iinc (v := zi670) (lv' := [(3, .int zi670), (4, .int zi620), (0, .ref qa900), (1, .ref qa901), (2, .int zi902)]) hx hb dX5_product_59 hl (k := 4) rfl ea671.symm (by decide) rfl (fun ls hl => ?_)
            refine lv_goto (tgt := 8) hx hb dX5_product_62 (by decide) ?_
            exact ih613 hp665 zi670 _ _ ls (by have := hm615; have := qe674; omega) ok666 (Fr.tr (Fr.tr (Fr.tr (Fr.tr (Fr.rf) F487 (by decide)) F652 (by decide)) F660 (by decide)) F667 (by decide)) (b_wid2 bd672 (by decide) (by decide)) (lv_sub hl [2, 3, 4, 0] rfl) hw hS
  exact lp614 _ hp1 0 _ _ ls (lp_in _) ok2 (Fr.rf) (b_wid2 bc_0 (by decide) (by decide)) (lv_sub hl [1, 2, 3, 0] rfl) hw hS

set_option maxRecDepth 100000 in
set_option maxHeartbeats 4000000 in
theorem cX5_sum_1 (l : Launch) (G : va_G) (cy : Nat → ClassId) (ev : Ew) (K ln : Nat → Nat) (Ls : List Nat) (hW : SW K ln Ls) (sz : Nat) (hp0 : Nat → Nat → Value) (ok0 : Ok K hp0) (qa900 : Nat) (qa901 : Nat) (zi902 : Int32) (kd900 : K qa900 = 6) (kd901 : K qa901 = 3) (bd902 : ((5 : Int) ≤ zi902.toInt ∧ zi902.toInt ≤ 5)) : Met l yX5_sum (WS yX5_sum cX5_sum 5 none) { frames := 7, cells := 0, slots := 0, locals := 160 } (PB2 [.ref qa900, .ref qa901, .int zi902] sz G cy ev (va_pl Ls (cellOf cy K ln hp0))) (QBv (S := (Nat → Nat → Value)) (fun u : (Nat → Nat → Value) => Ok K u ∧ Fr [3002, 6002, 6003, 6004, 26000] K hp0 u) G (fun u => va_pl Ls (cellOf cy K ln u)) (va_A (va_pl Ls (cellOf cy K ln hp0)) sz)) 0 0 (va_A (va_pl Ls (cellOf cy K ln hp0)) sz) := by
  refine met_of2 (y := yX5_sum) (L := 5) (av := [.ref qa900, .ref qa901, .int zi902]) (Qc := fun A => QBv (S := (Nat → Nat → Value)) (fun u : (Nat → Nat → Value) => Ok K u ∧ Fr [3002, 6002, 6003, 6004, 26000] K hp0 u) G (fun u => va_pl Ls (cellOf cy K ln u)) A) (plainFor_of_name (by decide)) (Nat.le_of_ble_eq_true rfl) ?_
  intro p e s m below meth c hsz hx hb hr hml hown hT hlocks hin hK A hA hE hw hS ls hl
  have hw : PW G cy K ln Ls A hp0 s.heap := hw
  have hown : s.vm.findClass "LieClock$Parser" = some m.cls := hown
  have hl : lv_has ls 5 [(0, .ref qa900), (1, .ref qa901), (2, .int zi902)] := hl
  obtain ⟨Q, hQ⟩ : ∃ Q : State → Prop, Q = MQ below (QBv (S := (Nat → Nat → Value)) (fun u : (Nat → Nat → Value) => Ok K u ∧ Fr [3002, 6002, 6003, 6004, 26000] K hp0 u) G (fun u => va_pl Ls (cellOf cy K ln u)) A) ([.ref qa900, .ref qa901, .int zi902] : List Value).toArray s 0 0 A := ⟨_, rfl⟩
  rw [← hQ]
  refine lv_aload_n hx hb dX5_sum_0 rfl (lv_at hl 0 rfl) ?_
  refine lv_aload_n hx hb dX5_sum_1 rfl (lv_at hl 1 rfl) ?_
  refine lv_iload_n hx hb dX5_sum_2 rfl (lv_at hl 2 rfl) ?_
  refine kq_v hw hS hA (va_runV (As := [.ref qa901, .int zi902]) (rest := []) ⟨hx, hb, hml, hown, hT⟩ (cX5_product_1 l G cy ev K ln Ls hW _ hp0 ok0 qa900 qa901 zi902 kd900 kd901 (b_wid2 bd902 (by decide) (by decide))) (cwV 2 hT (good_V tb_955 tb_952 tb_954 tb_23 tb_109) rfl rfl rfl (by decide +kernel) ⟨Nat.le_of_ble_eq_true rfl, Nat.le_of_ble_eq_true rfl⟩) (pool_preV (ci := 5) hK hE hS hA hw hW kd900 (by decide) rfl) rfl rfl hl.1 rfl (lv_room (Nat.le_of_ble_eq_true rfl)) dX5_sum_3 ⟨Nat.le_of_ble_eq_true rfl, Nat.le_of_ble_eq_true rfl⟩) (fun hp1 H locs hq4 hw hS => ?_)
  obtain ⟨ok2, F3⟩ := hq4
  have hw : PW G cy K ln Ls A hp1 H := hw
  refine lv_iconst (v := 0) hx hb dX5_sum_6 (by decide) ?_
  refine lv_istore_n (lv' := [(3, .int 0), (0, .ref qa900), (1, .ref qa901), (2, .int zi902)]) hx hb dX5_sum_7 rfl hl (by decide) rfl (fun ls hl => ?_)
  have jn611 : ∀ (hp608 : Nat → Nat → Value)  (H : Heap) (locs : List Loc) (ls : Array Slot), Ok K hp608 → Fr [3002, 6002, 6003, 6004, 26000] K hp1 hp608 → lv_has ls 5 [] → PW G cy K ln Ls A hp608 H → va_S A s.heap H locs → W p l e ({ frames := 7, cells := 0, slots := 0, locals := 160 } : Room) s m ([.ref qa900, .ref qa901, .int zi902] : List Value).toArray below meth c H locs 0 0 Q (F0 m 65 ls []) := by
    intro hp608 H locs ls ok610 F609 hl hw hS
    rw [hQ]
    exact kz_v hx hb hr hlocks hS hp608 hw ⟨ok610, (Fr.tr (Fr.tr (Fr.rf) F3 (by decide)) F609 (by decide))⟩ (Nat.le_of_ble_eq_true rfl) (Nat.le_of_ble_eq_true rfl) dX5_sum_65
  have lp614 : ∀ (n612 : Nat) (hp486 : Nat → Nat → Value) (zi485 : Int32) (H : Heap) (locs : List Loc) (ls : Array Slot), 401 - zi485.toInt < (n612 : Int) → Ok K hp486 → Fr [3002, 6002, 6003, 6004, 26000] K hp1 hp486 → ((0 : Int) ≤ zi485.toInt ∧ zi485.toInt ≤ 401) → lv_has ls 5 [(0, .ref qa900), (1, .ref qa901), (2, .int zi902), (3, .int zi485)] → PW G cy K ln Ls A hp486 H → va_S A s.heap H locs → W p l e ({ frames := 7, cells := 0, slots := 0, locals := 160 } : Room) s m ([.ref qa900, .ref qa901, .int zi902] : List Value).toArray below meth c H locs 0 0 Q (F0 m 8 ls []) := by
    intro n612
    induction n612 with
    | zero =>
      intro hp486 zi485 H locs ls hm615 ok488 F487 bd489 hl hw hS
      exact absurd hm615 (by have := bd489; omega)
    | succ n612 ih613 =>
      intro hp486 zi485 H locs ls hm615 ok488 F487 bd489 hl hw hS
      refine lv_iload_n hx hb dX5_sum_8 rfl (lv_at hl 3 rfl) ?_
      refine lv_sipush (v := 400) hx hb dX5_sum_9 (by decide) ?_
      refine lv_icmp_gt (tgt := 65) hx hb dX5_sum_12 (by decide) (fun cn616 => ?_) (fun cn616 => ?_)
      · skip
        have bd617 : (401 : Int) ≤ zi485.toInt ∧ zi485.toInt ≤ 401 := r_lt_y cn616 bc_400 bd489 (by decide) (by decide)
        exact jn611 hp486 _ _ ls ok488 (Fr.tr (Fr.rf) F487 (by decide)) (lv_sub hl [] rfl) hw hS
      · skip
        have bd618 : (0 : Int) ≤ zi485.toInt ∧ zi485.toInt ≤ 400 := r_le_x (Int32.not_lt.mp cn616) bd489 bc_400 (by decide) (by decide)
        refine lv_aload_n hx hb dX5_sum_15 rfl (lv_at hl 0 rfl) ?_
        obtain ⟨zi620, eq619⟩ := rd_6003 ok488 kd900
        refine p_get (ci := 5) (v := .int zi620) (C := RX5) (T := TX5) (N := 7) hx hb hT iw_X5 hown hK hw hW kd900 (by decide) rfl rfl 3 (by decide) eq619 (hT _ tb_374) (fun _ h9 => h9) dX5_sum_16 ?_
        refine lv_bipush (v := 43) hx hb dX5_sum_19 (by decide) ?_
        refine lv_icmp_eq (tgt := 33) hx hb dX5_sum_21 (by decide) (fun cn621 => ?_) (fun cn621 => ?_)
        · skip
          have bd622 : (43 : Int) ≤ zi620.toInt ∧ zi620.toInt ≤ 43 := r_eq_x cn621 (b_all zi620) bc_43 (by decide) (by decide)
          refine lv_aload_n hx hb dX5_sum_33 rfl (lv_at hl 0 rfl) ?_
          refine p_get (ci := 5) (v := .int zi620) (C := RX5) (T := TX5) (N := 7) hx hb hT iw_X5 hown hK hw hW kd900 (by decide) rfl rfl 3 (by decide) eq619 (hT _ tb_374) (fun _ h9 => h9) dX5_sum_34 ?_
          refine lv_istore (lv' := [(4, .int zi620), (0, .ref qa900), (1, .ref qa901), (2, .int zi902), (3, .int zi485)]) hx hb dX5_sum_37 hl (by decide) rfl (fun ls hl => ?_)
          refine lv_aload_n hx hb dX5_sum_39 rfl (lv_at hl 1 rfl) ?_
          refine lv_iload hx hb dX5_sum_40 (lv_at hl 0 rfl) ?_
          refine kq_i hw hS hA (va_runV (As := [.int zi620]) (rest := []) ⟨hx, hb, hml, hown, hT⟩ (cX5_accept_0 l G cy ev K ln Ls hW _ hp486 ok488 qa900 zi620 kd900) (cwV 1 hT (good_V tb_854 tb_851 tb_853 tb_8 tb_109) rfl rfl rfl (by decide +kernel) ⟨Nat.le_of_ble_eq_true rfl, Nat.le_of_ble_eq_true rfl⟩) (pool_preV (ci := 5) hK hE hS hA hw hW kd900 (by decide) rfl) rfl rfl hl.1 rfl (lv_room (Nat.le_of_ble_eq_true rfl)) dX5_sum_42 ⟨Nat.le_of_ble_eq_true rfl, Nat.le_of_ble_eq_true rfl⟩) (fun zi627 hp623 H locs hq626 hw hS => ?_)
          obtain ⟨ok624, F625, bd628, hc629, hc630⟩ := hq626
          have hw : PW G cy K ln Ls A hp623 H := hw
          refine lv_pop hx hb dX5_sum_45 rfl ?_
          refine lv_aload_n hx hb dX5_sum_46 rfl (lv_at hl 1 rfl) ?_
          refine lv_aload_n hx hb dX5_sum_47 rfl (lv_at hl 2 rfl) ?_
          refine lv_iload_n hx hb dX5_sum_48 rfl (lv_at hl 3 rfl) ?_
          refine kq_v hw hS hA (va_runV (As := [.ref qa901, .int zi902]) (rest := []) ⟨hx, hb, hml, hown, hT⟩ (cX5_product_1 l G cy ev K ln Ls hW _ hp623 ok624 qa900 qa901 zi902 kd900 kd901 (b_wid2 bd902 (by decide) (by decide))) (cwV 2 hT (good_V tb_955 tb_952 tb_954 tb_23 tb_109) rfl rfl rfl (by decide +kernel) ⟨Nat.le_of_ble_eq_true rfl, Nat.le_of_ble_eq_true rfl⟩) (pool_preV (ci := 5) hK hE hS hA hw hW kd900 (by decide) rfl) rfl rfl hl.1 rfl (lv_room (Nat.le_of_ble_eq_true rfl)) dX5_sum_49 ⟨Nat.le_of_ble_eq_true rfl, Nat.le_of_ble_eq_true rfl⟩) (fun hp631 H locs hq634 hw hS => ?_)
          obtain ⟨ok632, F633⟩ := hq634
          have hw : PW G cy K ln Ls A hp631 H := hw
          refine lv_aload_n hx hb dX5_sum_52 rfl (lv_at hl 2 rfl) ?_
          refine lv_iload hx hb dX5_sum_53 (lv_at hl 0 rfl) ?_
          refine lv_ineg hx hb dX5_sum_55 (lv_topi (fun zi636 ea637 => ?_))
          refine kq_v hw hS hA (va_runV (As := [.int zi636]) (rest := []) ⟨hx, hb, hml, hown, hT⟩ (cX2_add_0 l G cy ev K ln Ls hW _ hp631 ok632 qa901 zi636 kd901) (cwV 1 hT (good_V tb_404 tb_960 tb_402 tb_403 tb_108) rfl rfl rfl (by decide +kernel) ⟨Nat.le_of_ble_eq_true rfl, Nat.le_of_ble_eq_true rfl⟩) (pool_preV (ci := 2) hK hE hS hA hw hW kd901 (by decide) rfl) rfl rfl hl.1 rfl (lv_room (Nat.le_of_ble_eq_true rfl)) dX5_sum_56 ⟨Nat.le_of_ble_eq_true rfl, Nat.le_of_ble_eq_true rfl⟩) (fun hp638 H locs hq641 hw hS => ?_)
          obtain ⟨ok639, F640⟩ := hq641
          have hw : PW G cy K ln Ls A hp638 H := hw
          obtain ⟨zi643, ea644⟩ : ∃ z : Int32, z = zi485 + 1 := ⟨_, rfl⟩
          have bd645 : (1 : Int) ≤ zi643.toInt ∧ zi643.toInt ≤ 401 := b_iadd ea644 bd618 bc_1 (by decide) (by decide) (by decide) (by decide)
          have qe646 : zi643.toInt = (zi485 : Int32).toInt + (1 : Int32).toInt := e_iadd ea644 bd618 bc_1 (by decide) (by decide)
          have qe647 : zi643.toInt = zi485.toInt + 1 := by have ha : (1 : Int32).toInt = 1 := (by decide); rw [ha] at qe646; exact qe646
          refine lv_iinc (v := zi643) (lv' := [(3, .int zi643), (4, .int zi620), (0, .ref qa900), (1, .ref qa901), (2, .int zi902)]) hx hb dX5_sum_59 hl (k := 4) rfl ea644.symm (by decide) rfl (fun ls hl => ?_)
          refine lv_goto (tgt := 8) hx hb dX5_sum_62 (by decide) ?_
          exact ih613 hp638 zi643 _ _ ls (by have := hm615; have := qe647; omega) ok639 (Fr.tr (Fr.tr (Fr.tr (Fr.tr (Fr.rf) F487 (by decide)) F625 (by decide)) F633 (by decide)) F640 (by decide)) (b_wid2 bd645 (by decide) (by decide)) (lv_sub hl [2, 3, 4, 0] rfl) hw hS
        · skip
          refine lv_aload_n hx hb dX5_sum_24 rfl (lv_at hl 0 rfl) ?_
          refine p_get (ci := 5) (v := .int zi620) (C := RX5) (T := TX5) (N := 7) hx hb hT iw_X5 hown hK hw hW kd900 (by decide) rfl rfl 3 (by decide) eq619 (hT _ tb_374) (fun _ h9 => h9) dX5_sum_25 ?_
          refine lv_bipush (v := 45) hx hb dX5_sum_28 (by decide) ?_
          refine lv_icmp_ne (tgt := 65) hx hb dX5_sum_30 (by decide) (fun cn648 => ?_) (fun cn648 => ?_)
          · skip
            exact jn611 hp486 _ _ ls ok488 (Fr.tr (Fr.rf) F487 (by decide)) (lv_sub hl [] rfl) hw hS
          · skip
            have bd649 : (45 : Int) ≤ zi620.toInt ∧ zi620.toInt ≤ 45 := r_eq_x cn648 (b_all zi620) bc_45 (by decide) (by decide)
            refine lv_aload_n hx hb dX5_sum_33 rfl (lv_at hl 0 rfl) ?_
            refine p_get (ci := 5) (v := .int zi620) (C := RX5) (T := TX5) (N := 7) hx hb hT iw_X5 hown hK hw hW kd900 (by decide) rfl rfl 3 (by decide) eq619 (hT _ tb_374) (fun _ h9 => h9) dX5_sum_34 ?_
            refine lv_istore (lv' := [(4, .int zi620), (0, .ref qa900), (1, .ref qa901), (2, .int zi902), (3, .int zi485)]) hx hb dX5_sum_37 hl (by decide) rfl (fun ls hl => ?_)
            refine lv_aload_n hx hb dX5_sum_39 rfl (lv_at hl 1 rfl) ?_
            refine lv_iload hx hb dX5_sum_40 (lv_at hl 0 rfl) ?_
            refine kq_i hw hS hA (va_runV (As := [.int zi620]) (rest := []) ⟨hx, hb, hml, hown, hT⟩ (cX5_accept_0 l G cy ev K ln Ls hW _ hp486 ok488 qa900 zi620 kd900) (cwV 1 hT (good_V tb_854 tb_851 tb_853 tb_8 tb_109) rfl rfl rfl (by decide +kernel) ⟨Nat.le_of_ble_eq_true rfl, Nat.le_of_ble_eq_true rfl⟩) (pool_preV (ci := 5) hK hE hS hA hw hW kd900 (by decide) rfl) rfl rfl hl.1 rfl (lv_room (Nat.le_of_ble_eq_true rfl)) dX5_sum_42 ⟨Nat.le_of_ble_eq_true rfl, Nat.le_of_ble_eq_true rfl⟩) (fun zi654 hp650 H locs hq653 hw hS => ?_)
            obtain ⟨ok651, F652, bd655, hc656, hc657⟩ := hq653
            have hw : PW G cy K ln Ls A hp650 H := hw
            refine lv_pop hx hb dX5_sum_45 rfl ?_
            refine lv_aload_n hx hb dX5_sum_46 rfl (lv_at hl 1 rfl) ?_
            refine lv_aload_n hx hb dX5_sum_47 rfl (lv_at hl 2 rfl) ?_
            refine lv_iload_n hx hb dX5_sum_48 rfl (lv_at hl 3 rfl) ?_
            refine kq_v hw hS hA (va_runV (As := [.ref qa901, .int zi902]) (rest := []) ⟨hx, hb, hml, hown, hT⟩ (cX5_product_1 l G cy ev K ln Ls hW _ hp650 ok651 qa900 qa901 zi902 kd900 kd901 (b_wid2 bd902 (by decide) (by decide))) (cwV 2 hT (good_V tb_955 tb_952 tb_954 tb_23 tb_109) rfl rfl rfl (by decide +kernel) ⟨Nat.le_of_ble_eq_true rfl, Nat.le_of_ble_eq_true rfl⟩) (pool_preV (ci := 5) hK hE hS hA hw hW kd900 (by decide) rfl) rfl rfl hl.1 rfl (lv_room (Nat.le_of_ble_eq_true rfl)) dX5_sum_49 ⟨Nat.le_of_ble_eq_true rfl, Nat.le_of_ble_eq_true rfl⟩) (fun hp658 H locs hq661 hw hS => ?_)
            obtain ⟨ok659, F660⟩ := hq661
            have hw : PW G cy K ln Ls A hp658 H := hw
            refine lv_aload_n hx hb dX5_sum_52 rfl (lv_at hl 2 rfl) ?_
            refine lv_iload hx hb dX5_sum_53 (lv_at hl 0 rfl) ?_
            refine lv_ineg hx hb dX5_sum_55 (lv_topi (fun zi663 ea664 => ?_))
            refine kq_v hw hS hA (va_runV (As := [.int zi663]) (rest := []) ⟨hx, hb, hml, hown, hT⟩ (cX2_add_0 l G cy ev K ln Ls hW _ hp658 ok659 qa901 zi663 kd901) (cwV 1 hT (good_V tb_404 tb_960 tb_402 tb_403 tb_108) rfl rfl rfl (by decide +kernel) ⟨Nat.le_of_ble_eq_true rfl, Nat.le_of_ble_eq_true rfl⟩) (pool_preV (ci := 2) hK hE hS hA hw hW kd901 (by decide) rfl) rfl rfl hl.1 rfl (lv_room (Nat.le_of_ble_eq_true rfl)) dX5_sum_56 ⟨Nat.le_of_ble_eq_true rfl, Nat.le_of_ble_eq_true rfl⟩) (fun hp665 H locs hq668 hw hS => ?_)
            obtain ⟨ok666, F667⟩ := hq668
            have hw : PW G cy K ln Ls A hp665 H := hw
            obtain ⟨zi670, ea671⟩ : ∃ z : Int32, z = zi485 + 1 := ⟨_, rfl⟩
            have bd672 : (1 : Int) ≤ zi670.toInt ∧ zi670.toInt ≤ 401 := b_iadd ea671 bd618 bc_1 (by decide) (by decide) (by decide) (by decide)
            have qe673 : zi670.toInt = (zi485 : Int32).toInt + (1 : Int32).toInt := e_iadd ea671 bd618 bc_1 (by decide) (by decide)
            have qe674 : zi670.toInt = zi485.toInt + 1 := by have ha : (1 : Int32).toInt = 1 := (by decide); rw [ha] at qe673; exact qe673
            refine lv_iinc (v := zi670) (lv' := [(3, .int zi670), (4, .int zi620), (0, .ref qa900), (1, .ref qa901), (2, .int zi902)]) hx hb dX5_sum_59 hl (k := 4) rfl ea671.symm (by decide) rfl (fun ls hl => ?_)
            refine lv_goto (tgt := 8) hx hb dX5_sum_62 (by decide) ?_
            exact ih613 hp665 zi670 _ _ ls (by have := hm615; have := qe674; omega) ok666 (Fr.tr (Fr.tr (Fr.tr (Fr.tr (Fr.rf) F487 (by decide)) F652 (by decide)) F660 (by decide)) F667 (by decide)) (b_wid2 bd672 (by decide) (by decide)) (lv_sub hl [2, 3, 4, 0] rfl) hw hS
  exact lp614 _ hp1 0 _ _ ls (lp_in _) ok2 (Fr.rf) (b_wid2 bc_0 (by decide) (by decide)) (lv_sub hl [1, 2, 3, 0] rfl) hw hS

set_option maxRecDepth 100000 in
set_option maxHeartbeats 4000000 in
theorem cX5_unit_2 (l : Launch) (G : va_G) (cy : Nat → ClassId) (ev : Ew) (K ln : Nat → Nat) (Ls : List Nat) (hW : SW K ln Ls) (sz : Nat) (hp0 : Nat → Nat → Value) (ok0 : Ok K hp0) (qa900 : Nat) (qa901 : Nat) (zi902 : Int32) (kd900 : K qa900 = 6) (kd901 : K qa901 = 3) (bd902 : ((4 : Int) ≤ zi902.toInt ∧ zi902.toInt ≤ 4)) : Met l yX5_unit (WS yX5_unit cX5_unit 4 none) { frames := 8, cells := 0, slots := 0, locals := 184 } (PB2 [.ref qa900, .ref qa901, .int zi902] sz G cy ev (va_pl Ls (cellOf cy K ln hp0))) (QBv (S := (Nat → Nat → Value)) (fun u : (Nat → Nat → Value) => Ok K u ∧ Fr [3002, 6002, 6003, 6004, 26000] K hp0 u) G (fun u => va_pl Ls (cellOf cy K ln u)) (va_A (va_pl Ls (cellOf cy K ln hp0)) sz)) 0 0 (va_A (va_pl Ls (cellOf cy K ln hp0)) sz) := by
  refine met_of2 (y := yX5_unit) (L := 4) (av := [.ref qa900, .ref qa901, .int zi902]) (Qc := fun A => QBv (S := (Nat → Nat → Value)) (fun u : (Nat → Nat → Value) => Ok K u ∧ Fr [3002, 6002, 6003, 6004, 26000] K hp0 u) G (fun u => va_pl Ls (cellOf cy K ln u)) A) (plainFor_of_name (by decide)) (Nat.le_of_ble_eq_true rfl) ?_
  intro p e s m below meth c hsz hx hb hr hml hown hT hlocks hin hK A hA hE hw hS ls hl
  have hw : PW G cy K ln Ls A hp0 s.heap := hw
  have hown : s.vm.findClass "LieClock$Parser" = some m.cls := hown
  have hl : lv_has ls 4 [(0, .ref qa900), (1, .ref qa901), (2, .int zi902)] := hl
  obtain ⟨Q, hQ⟩ : ∃ Q : State → Prop, Q = MQ below (QBv (S := (Nat → Nat → Value)) (fun u : (Nat → Nat → Value) => Ok K u ∧ Fr [3002, 6002, 6003, 6004, 26000] K hp0 u) G (fun u => va_pl Ls (cellOf cy K ln u)) A) ([.ref qa900, .ref qa901, .int zi902] : List Value).toArray s 0 0 A := ⟨_, rfl⟩
  rw [← hQ]
  refine lv_aload_n hx hb dX5_unit_0 rfl (lv_at hl 0 rfl) ?_
  obtain ⟨zi2, eq1⟩ := rd_6003 ok0 kd900
  refine p_get (ci := 5) (v := .int zi2) (C := RX5) (T := TX5) (N := 7) hx hb hT iw_X5 hown hK hw hW kd900 (by decide) rfl rfl 3 (by decide) eq1 (hT _ tb_374) (fun _ h9 => h9) dX5_unit_1 ?_
  refine lv_istore_n (lv' := [(3, .int zi2), (0, .ref qa900), (1, .ref qa901), (2, .int zi902)]) hx hb dX5_unit_4 rfl hl (by decide) rfl (fun ls hl => ?_)
  refine lv_iload_n hx hb dX5_unit_5 rfl (lv_at hl 0 rfl) ?_
  refine lv_bipush (v := 40) hx hb dX5_unit_6 (by decide) ?_
  refine lv_icmp_ne (tgt := 36) hx hb dX5_unit_8 (by decide) (fun cn3 => ?_) (fun cn3 => ?_)
  · skip
    refine lv_iload_n hx hb dX5_unit_36 rfl (lv_at hl 0 rfl) ?_
    refine lv_bipush (v := 103) hx hb dX5_unit_37 (by decide) ?_
    refine lv_icmp_eq (tgt := 54) hx hb dX5_unit_39 (by decide) (fun cn4 => ?_) (fun cn4 => ?_)
    · skip
      have bd5 : (103 : Int) ≤ zi2.toInt ∧ zi2.toInt ≤ 103 := r_eq_x cn4 (b_all zi2) bc_103 (by decide) (by decide)
      refine lv_aload_n hx hb dX5_unit_54 rfl (lv_at hl 1 rfl) ?_
      refine lv_iload_n hx hb dX5_unit_55 rfl (lv_at hl 0 rfl) ?_
      refine kq_i hw hS hA (va_runV (As := [.int zi2]) (rest := []) ⟨hx, hb, hml, hown, hT⟩ (cX5_accept_0 l G cy ev K ln Ls hW _ hp0 ok0 qa900 zi2 kd900) (cwV 1 hT (good_V tb_854 tb_851 tb_853 tb_8 tb_109) rfl rfl rfl (by decide +kernel) ⟨Nat.le_of_ble_eq_true rfl, Nat.le_of_ble_eq_true rfl⟩) (pool_preV (ci := 5) hK hE hS hA hw hW kd900 (by decide) rfl) rfl rfl hl.1 rfl (lv_room (Nat.le_of_ble_eq_true rfl)) dX5_unit_56 ⟨Nat.le_of_ble_eq_true rfl, Nat.le_of_ble_eq_true rfl⟩) (fun zi10 hp6 H locs hq9 hw hS => ?_)
      obtain ⟨ok7, F8, bd11, hc12, hc13⟩ := hq9
      have hw : PW G cy K ln Ls A hp6 H := hw
      refine lv_pop hx hb dX5_unit_59 rfl ?_
      refine lv_aload_n hx hb dX5_unit_60 rfl (lv_at hl 2 rfl) ?_
      refine lv_iload_n hx hb dX5_unit_61 rfl (lv_at hl 0 rfl) ?_
      refine lv_ineg hx hb dX5_unit_62 (lv_topi (fun zi14 ea15 => ?_))
      refine kq_v hw hS hA (va_runV (As := [.int zi14]) (rest := []) ⟨hx, hb, hml, hown, hT⟩ (cX2_add_0 l G cy ev K ln Ls hW _ hp6 ok7 qa901 zi14 kd901) (cwV 1 hT (good_V tb_404 tb_960 tb_402 tb_403 tb_108) rfl rfl rfl (by decide +kernel) ⟨Nat.le_of_ble_eq_true rfl, Nat.le_of_ble_eq_true rfl⟩) (pool_preV (ci := 2) hK hE hS hA hw hW kd901 (by decide) rfl) rfl rfl hl.1 rfl (lv_room (Nat.le_of_ble_eq_true rfl)) dX5_unit_63 ⟨Nat.le_of_ble_eq_true rfl, Nat.le_of_ble_eq_true rfl⟩) (fun hp16 H locs hq19 hw hS => ?_)
      obtain ⟨ok17, F18⟩ := hq19
      have hw : PW G cy K ln Ls A hp16 H := hw
      refine lv_goto (tgt := 79) hx hb dX5_unit_66 (by decide) ?_
      rw [hQ]
      exact kz_v hx hb hr hlocks hS hp16 hw ⟨ok17, (Fr.tr (Fr.tr (Fr.rf) F8 (by decide)) F18 (by decide))⟩ (Nat.le_of_ble_eq_true rfl) (Nat.le_of_ble_eq_true rfl) dX5_unit_79
    · skip
      refine lv_iload_n hx hb dX5_unit_42 rfl (lv_at hl 0 rfl) ?_
      refine lv_bipush (v := 114) hx hb dX5_unit_43 (by decide) ?_
      refine lv_icmp_lt (tgt := 69) hx hb dX5_unit_45 (by decide) (fun cn21 => ?_) (fun cn21 => ?_)
      · skip
        have bd22 : (-2147483648 : Int) ≤ zi2.toInt ∧ zi2.toInt ≤ 113 := r_lt_x cn21 (b_all zi2) bc_114 (by decide) (by decide)
        refine lv_aload_n hx hb dX5_unit_69 rfl (lv_at hl 2 rfl) ?_
        refine lv_aload_n hx hb dX5_unit_70 rfl (lv_at hl 1 rfl) ?_
        refine lv_iconst (v := 3) hx hb dX5_unit_71 (by decide) ?_
        refine kq_l hw hS hA (va_runV (As := [.int 3]) (rest := [.ref qa901]) ⟨hx, hb, hml, hown, hT⟩ (cX5_take_0 l G cy ev K ln Ls hW _ hp0 ok0 qa900 3 kd900) (cwV 1 hT (good_V tb_862 tb_859 tb_861 tb_10 tb_109) rfl rfl rfl (by decide +kernel) ⟨Nat.le_of_ble_eq_true rfl, Nat.le_of_ble_eq_true rfl⟩) (pool_preV (ci := 5) hK hE hS hA hw hW kd900 (by decide) rfl) rfl rfl hl.1 rfl (lv_room (Nat.le_of_ble_eq_true rfl)) dX5_unit_72 ⟨Nat.le_of_ble_eq_true rfl, Nat.le_of_ble_eq_true rfl⟩) (fun wl27 hp23 H locs hq26 hw hS => ?_)
        obtain ⟨ok24, F25⟩ := hq26
        have hw : PW G cy K ln Ls A hp23 H := hw
        refine lv_l2i hx hb dX5_unit_75 rfl (lv_topi (fun zi28 ea29 => ?_))
        refine kq_v hw hS hA (va_runV (As := [.int zi28]) (rest := []) ⟨hx, hb, hml, hown, hT⟩ (cX2_add_0 l G cy ev K ln Ls hW _ hp23 ok24 qa901 zi28 kd901) (cwV 1 hT (good_V tb_404 tb_960 tb_402 tb_403 tb_108) rfl rfl rfl (by decide +kernel) ⟨Nat.le_of_ble_eq_true rfl, Nat.le_of_ble_eq_true rfl⟩) (pool_preV (ci := 2) hK hE hS hA hw hW kd901 (by decide) rfl) rfl rfl hl.1 rfl (lv_room (Nat.le_of_ble_eq_true rfl)) dX5_unit_76 ⟨Nat.le_of_ble_eq_true rfl, Nat.le_of_ble_eq_true rfl⟩) (fun hp30 H locs hq33 hw hS => ?_)
        obtain ⟨ok31, F32⟩ := hq33
        have hw : PW G cy K ln Ls A hp30 H := hw
        rw [hQ]
        exact kz_v hx hb hr hlocks hS hp30 hw ⟨ok31, (Fr.tr (Fr.tr (Fr.rf) F25 (by decide)) F32 (by decide))⟩ (Nat.le_of_ble_eq_true rfl) (Nat.le_of_ble_eq_true rfl) dX5_unit_79
      · skip
        have bd35 : (114 : Int) ≤ zi2.toInt ∧ zi2.toInt ≤ 2147483647 := r_le_y (Int32.not_lt.mp cn21) bc_114 (b_all zi2) (by decide) (by decide)
        refine lv_iload_n hx hb dX5_unit_48 rfl (lv_at hl 0 rfl) ?_
        refine lv_bipush (v := 117) hx hb dX5_unit_49 (by decide) ?_
        refine lv_icmp_gt (tgt := 69) hx hb dX5_unit_51 (by decide) (fun cn36 => ?_) (fun cn36 => ?_)
        · skip
          have bd37 : (118 : Int) ≤ zi2.toInt ∧ zi2.toInt ≤ 2147483647 := r_lt_y cn36 bc_117 bd35 (by decide) (by decide)
          refine lv_aload_n hx hb dX5_unit_69 rfl (lv_at hl 2 rfl) ?_
          refine lv_aload_n hx hb dX5_unit_70 rfl (lv_at hl 1 rfl) ?_
          refine lv_iconst (v := 3) hx hb dX5_unit_71 (by decide) ?_
          refine kq_l hw hS hA (va_runV (As := [.int 3]) (rest := [.ref qa901]) ⟨hx, hb, hml, hown, hT⟩ (cX5_take_0 l G cy ev K ln Ls hW _ hp0 ok0 qa900 3 kd900) (cwV 1 hT (good_V tb_862 tb_859 tb_861 tb_10 tb_109) rfl rfl rfl (by decide +kernel) ⟨Nat.le_of_ble_eq_true rfl, Nat.le_of_ble_eq_true rfl⟩) (pool_preV (ci := 5) hK hE hS hA hw hW kd900 (by decide) rfl) rfl rfl hl.1 rfl (lv_room (Nat.le_of_ble_eq_true rfl)) dX5_unit_72 ⟨Nat.le_of_ble_eq_true rfl, Nat.le_of_ble_eq_true rfl⟩) (fun wl42 hp38 H locs hq41 hw hS => ?_)
          obtain ⟨ok39, F40⟩ := hq41
          have hw : PW G cy K ln Ls A hp38 H := hw
          refine lv_l2i hx hb dX5_unit_75 rfl (lv_topi (fun zi43 ea44 => ?_))
          refine kq_v hw hS hA (va_runV (As := [.int zi43]) (rest := []) ⟨hx, hb, hml, hown, hT⟩ (cX2_add_0 l G cy ev K ln Ls hW _ hp38 ok39 qa901 zi43 kd901) (cwV 1 hT (good_V tb_404 tb_960 tb_402 tb_403 tb_108) rfl rfl rfl (by decide +kernel) ⟨Nat.le_of_ble_eq_true rfl, Nat.le_of_ble_eq_true rfl⟩) (pool_preV (ci := 2) hK hE hS hA hw hW kd901 (by decide) rfl) rfl rfl hl.1 rfl (lv_room (Nat.le_of_ble_eq_true rfl)) dX5_unit_76 ⟨Nat.le_of_ble_eq_true rfl, Nat.le_of_ble_eq_true rfl⟩) (fun hp45 H locs hq48 hw hS => ?_)
          obtain ⟨ok46, F47⟩ := hq48
          have hw : PW G cy K ln Ls A hp45 H := hw
          rw [hQ]
          exact kz_v hx hb hr hlocks hS hp45 hw ⟨ok46, (Fr.tr (Fr.tr (Fr.rf) F40 (by decide)) F47 (by decide))⟩ (Nat.le_of_ble_eq_true rfl) (Nat.le_of_ble_eq_true rfl) dX5_unit_79
        · skip
          have bd50 : (114 : Int) ≤ zi2.toInt ∧ zi2.toInt ≤ 117 := r_le_x (Int32.not_lt.mp cn36) bd35 bc_117 (by decide) (by decide)
          refine lv_aload_n hx hb dX5_unit_54 rfl (lv_at hl 1 rfl) ?_
          refine lv_iload_n hx hb dX5_unit_55 rfl (lv_at hl 0 rfl) ?_
          refine kq_i hw hS hA (va_runV (As := [.int zi2]) (rest := []) ⟨hx, hb, hml, hown, hT⟩ (cX5_accept_0 l G cy ev K ln Ls hW _ hp0 ok0 qa900 zi2 kd900) (cwV 1 hT (good_V tb_854 tb_851 tb_853 tb_8 tb_109) rfl rfl rfl (by decide +kernel) ⟨Nat.le_of_ble_eq_true rfl, Nat.le_of_ble_eq_true rfl⟩) (pool_preV (ci := 5) hK hE hS hA hw hW kd900 (by decide) rfl) rfl rfl hl.1 rfl (lv_room (Nat.le_of_ble_eq_true rfl)) dX5_unit_56 ⟨Nat.le_of_ble_eq_true rfl, Nat.le_of_ble_eq_true rfl⟩) (fun zi55 hp51 H locs hq54 hw hS => ?_)
          obtain ⟨ok52, F53, bd56, hc57, hc58⟩ := hq54
          have hw : PW G cy K ln Ls A hp51 H := hw
          refine lv_pop hx hb dX5_unit_59 rfl ?_
          refine lv_aload_n hx hb dX5_unit_60 rfl (lv_at hl 2 rfl) ?_
          refine lv_iload_n hx hb dX5_unit_61 rfl (lv_at hl 0 rfl) ?_
          refine lv_ineg hx hb dX5_unit_62 (lv_topi (fun zi59 ea60 => ?_))
          refine kq_v hw hS hA (va_runV (As := [.int zi59]) (rest := []) ⟨hx, hb, hml, hown, hT⟩ (cX2_add_0 l G cy ev K ln Ls hW _ hp51 ok52 qa901 zi59 kd901) (cwV 1 hT (good_V tb_404 tb_960 tb_402 tb_403 tb_108) rfl rfl rfl (by decide +kernel) ⟨Nat.le_of_ble_eq_true rfl, Nat.le_of_ble_eq_true rfl⟩) (pool_preV (ci := 2) hK hE hS hA hw hW kd901 (by decide) rfl) rfl rfl hl.1 rfl (lv_room (Nat.le_of_ble_eq_true rfl)) dX5_unit_63 ⟨Nat.le_of_ble_eq_true rfl, Nat.le_of_ble_eq_true rfl⟩) (fun hp61 H locs hq64 hw hS => ?_)
          obtain ⟨ok62, F63⟩ := hq64
          have hw : PW G cy K ln Ls A hp61 H := hw
          refine lv_goto (tgt := 79) hx hb dX5_unit_66 (by decide) ?_
          rw [hQ]
          exact kz_v hx hb hr hlocks hS hp61 hw ⟨ok62, (Fr.tr (Fr.tr (Fr.rf) F53 (by decide)) F63 (by decide))⟩ (Nat.le_of_ble_eq_true rfl) (Nat.le_of_ble_eq_true rfl) dX5_unit_79
  · skip
    have bd66 : (40 : Int) ≤ zi2.toInt ∧ zi2.toInt ≤ 40 := r_eq_x cn3 (b_all zi2) bc_40 (by decide) (by decide)
    refine lv_aload_n hx hb dX5_unit_11 rfl (lv_at hl 1 rfl) ?_
    refine lv_iload_n hx hb dX5_unit_12 rfl (lv_at hl 3 rfl) ?_
    refine kq_i hw hS hA (va_runV (As := [.int zi902]) (rest := []) ⟨hx, hb, hml, hown, hT⟩ (cX5_enter_4 l G cy ev K ln Ls hW _ hp0 ok0 qa900 zi902 kd900 (b_wid2 bd902 (by decide) (by decide))) (cwV 1 hT (good_V tb_922 tb_919 tb_921 tb_18 tb_109) rfl rfl rfl (by decide +kernel) ⟨Nat.le_of_ble_eq_true rfl, Nat.le_of_ble_eq_true rfl⟩) (pool_preV (ci := 5) hK hE hS hA hw hW kd900 (by decide) rfl) rfl rfl hl.1 rfl (lv_room (Nat.le_of_ble_eq_true rfl)) dX5_unit_13 ⟨Nat.le_of_ble_eq_true rfl, Nat.le_of_ble_eq_true rfl⟩) (fun zi71 hp67 H locs hq70 hw hS => ?_)
    obtain ⟨ok68, F69, bd72, hc73, hc74⟩ := hq70
    have hw : PW G cy K ln Ls A hp67 H := hw
    have jn95 : ∀ (hp92 : Nat → Nat → Value)  (H : Heap) (locs : List Loc) (ls : Array Slot), Ok K hp92 → Fr [3002, 6002, 6003, 6004, 26000] K hp67 hp92 → lv_has ls 4 [(0, .ref qa900)] → PW G cy K ln Ls A hp92 H → va_S A s.heap H locs → W p l e ({ frames := 8, cells := 0, slots := 0, locals := 184 } : Room) s m ([.ref qa900, .ref qa901, .int zi902] : List Value).toArray below meth c H locs 0 0 Q (F0 m 27 ls []) := by
      intro hp92 H locs ls ok94 F93 hl hw hS
      refine lv_aload_n hx hb dX5_unit_27 rfl (lv_at hl 0 rfl) ?_
      refine lv_bipush (v := 41) hx hb dX5_unit_28 (by decide) ?_
      refine kq_v hw hS hA (va_runV (As := [.int 41]) (rest := []) ⟨hx, hb, hml, hown, hT⟩ (cX5_expect_0 l G cy ev K ln Ls hW _ hp92 ok94 qa900 41 kd900) (cwV 1 hT (good_V tb_889 tb_886 tb_888 tb_12 tb_109) rfl rfl rfl (by decide +kernel) ⟨Nat.le_of_ble_eq_true rfl, Nat.le_of_ble_eq_true rfl⟩) (pool_preV (ci := 5) hK hE hS hA hw hW kd900 (by decide) rfl) rfl rfl hl.1 rfl (lv_room (Nat.le_of_ble_eq_true rfl)) dX5_unit_30 ⟨Nat.le_of_ble_eq_true rfl, Nat.le_of_ble_eq_true rfl⟩) (fun hp96 H locs hq99 hw hS => ?_)
      obtain ⟨ok97, F98⟩ := hq99
      have hw : PW G cy K ln Ls A hp96 H := hw
      refine lv_goto (tgt := 79) hx hb dX5_unit_33 (by decide) ?_
      rw [hQ]
      exact kz_v hx hb hr hlocks hS hp96 hw ⟨ok97, (Fr.tr (Fr.tr (Fr.tr (Fr.rf) F69 (by decide)) F93 (by decide)) F98 (by decide))⟩ (Nat.le_of_ble_eq_true rfl) (Nat.le_of_ble_eq_true rfl) dX5_unit_79
    rcases b01 bd72 with cn75 | cn75
    · skip
      subst cn75
      refine lv_if_eq (tgt := 27) hx hb dX5_unit_16 (by decide) (fun _ => ?_) (fun c => absurd (d_eq bc_0 bc_0) c)
      exact jn95 hp67 _ _ ls ok68 (Fr.rf) (lv_sub hl [1] rfl) hw hS
    · skip
      subst cn75
      obtain ⟨zi101, eq102, bd103⟩ := hc73 rfl
      obtain ⟨zi104, eq105, bd106⟩ := hc74 rfl
      refine lv_if_eq (tgt := 27) hx hb dX5_unit_16 (by decide) (fun c => absurd c (d_ne bc_1 bc_0 (by decide))) (fun _ => ?_)
      refine lv_aload_n hx hb dX5_unit_19 rfl (lv_at hl 1 rfl) ?_
      refine lv_aload_n hx hb dX5_unit_20 rfl (lv_at hl 2 rfl) ?_
      refine lv_iload_n hx hb dX5_unit_21 rfl (lv_at hl 3 rfl) ?_
      refine lv_iconst (v := 1) hx hb dX5_unit_22 (by decide) ?_
      refine lv_iadd hx hb dX5_unit_23 (lv_topi (fun zi107 ea108 => ?_))
      have bd109 : (5 : Int) ≤ zi107.toInt ∧ zi107.toInt ≤ 5 := b_iadd ea108 bd902 bc_1 (by decide) (by decide) (by decide) (by decide)
      have qe110 : zi107.toInt = (zi902 : Int32).toInt + (1 : Int32).toInt := e_iadd ea108 bd902 bc_1 (by decide) (by decide)
      have qe111 : zi107.toInt = zi902.toInt + 1 := by have ha : (1 : Int32).toInt = 1 := (by decide); rw [ha] at qe110; exact qe110
      refine kq_v hw hS hA (va_runV (As := [.ref qa901, .int zi107]) (rest := []) ⟨hx, hb, hml, hown, hT⟩ (cX5_sum_1 l G cy ev K ln Ls hW _ hp67 ok68 qa900 qa901 zi107 kd900 kd901 (b_wid2 bd109 (by decide) (by decide))) (cwV 2 hT (good_V tb_951 tb_948 tb_950 tb_22 tb_109) rfl rfl rfl (by decide +kernel) ⟨Nat.le_of_ble_eq_true rfl, Nat.le_of_ble_eq_true rfl⟩) (pool_preV (ci := 5) hK hE hS hA hw hW kd900 (by decide) rfl) rfl rfl hl.1 rfl (lv_room (Nat.le_of_ble_eq_true rfl)) dX5_unit_24 ⟨Nat.le_of_ble_eq_true rfl, Nat.le_of_ble_eq_true rfl⟩) (fun hp112 H locs hq115 hw hS => ?_)
      obtain ⟨ok113, F114⟩ := hq115
      have hw : PW G cy K ln Ls A hp112 H := hw
      exact jn95 hp112 _ _ ls ok113 (Fr.tr (Fr.rf) F114 (by decide)) (lv_sub hl [1] rfl) hw hS

set_option maxRecDepth 100000 in
set_option maxHeartbeats 4000000 in
theorem cX5_product_2 (l : Launch) (G : va_G) (cy : Nat → ClassId) (ev : Ew) (K ln : Nat → Nat) (Ls : List Nat) (hW : SW K ln Ls) (sz : Nat) (hp0 : Nat → Nat → Value) (ok0 : Ok K hp0) (qa900 : Nat) (qa901 : Nat) (zi902 : Int32) (kd900 : K qa900 = 6) (kd901 : K qa901 = 3) (bd902 : ((4 : Int) ≤ zi902.toInt ∧ zi902.toInt ≤ 4)) : Met l yX5_product (WS yX5_product cX5_product 5 none) { frames := 9, cells := 0, slots := 0, locals := 207 } (PB2 [.ref qa900, .ref qa901, .int zi902] sz G cy ev (va_pl Ls (cellOf cy K ln hp0))) (QBv (S := (Nat → Nat → Value)) (fun u : (Nat → Nat → Value) => Ok K u ∧ Fr [3002, 6002, 6003, 6004, 26000] K hp0 u) G (fun u => va_pl Ls (cellOf cy K ln u)) (va_A (va_pl Ls (cellOf cy K ln hp0)) sz)) 0 0 (va_A (va_pl Ls (cellOf cy K ln hp0)) sz) := by
  refine met_of2 (y := yX5_product) (L := 5) (av := [.ref qa900, .ref qa901, .int zi902]) (Qc := fun A => QBv (S := (Nat → Nat → Value)) (fun u : (Nat → Nat → Value) => Ok K u ∧ Fr [3002, 6002, 6003, 6004, 26000] K hp0 u) G (fun u => va_pl Ls (cellOf cy K ln u)) A) (plainFor_of_name (by decide)) (Nat.le_of_ble_eq_true rfl) ?_
  intro p e s m below meth c hsz hx hb hr hml hown hT hlocks hin hK A hA hE hw hS ls hl
  have hw : PW G cy K ln Ls A hp0 s.heap := hw
  have hown : s.vm.findClass "LieClock$Parser" = some m.cls := hown
  have hl : lv_has ls 5 [(0, .ref qa900), (1, .ref qa901), (2, .int zi902)] := hl
  obtain ⟨Q, hQ⟩ : ∃ Q : State → Prop, Q = MQ below (QBv (S := (Nat → Nat → Value)) (fun u : (Nat → Nat → Value) => Ok K u ∧ Fr [3002, 6002, 6003, 6004, 26000] K hp0 u) G (fun u => va_pl Ls (cellOf cy K ln u)) A) ([.ref qa900, .ref qa901, .int zi902] : List Value).toArray s 0 0 A := ⟨_, rfl⟩
  rw [← hQ]
  refine lv_aload_n hx hb dX5_product_0 rfl (lv_at hl 0 rfl) ?_
  refine lv_aload_n hx hb dX5_product_1 rfl (lv_at hl 1 rfl) ?_
  refine lv_iload_n hx hb dX5_product_2 rfl (lv_at hl 2 rfl) ?_
  refine kq_v hw hS hA (va_runV (As := [.ref qa901, .int zi902]) (rest := []) ⟨hx, hb, hml, hown, hT⟩ (cX5_unit_2 l G cy ev K ln Ls hW _ hp0 ok0 qa900 qa901 zi902 kd900 kd901 (b_wid2 bd902 (by decide) (by decide))) (cwV 2 hT (good_V tb_959 tb_956 tb_958 tb_24 tb_109) rfl rfl rfl (by decide +kernel) ⟨Nat.le_of_ble_eq_true rfl, Nat.le_of_ble_eq_true rfl⟩) (pool_preV (ci := 5) hK hE hS hA hw hW kd900 (by decide) rfl) rfl rfl hl.1 rfl (lv_room (Nat.le_of_ble_eq_true rfl)) dX5_product_3 ⟨Nat.le_of_ble_eq_true rfl, Nat.le_of_ble_eq_true rfl⟩) (fun hp1 H locs hq4 hw hS => ?_)
  obtain ⟨ok2, F3⟩ := hq4
  have hw : PW G cy K ln Ls A hp1 H := hw
  refine lv_iconst (v := 0) hx hb dX5_product_6 (by decide) ?_
  refine lv_istore_n (lv' := [(3, .int 0), (0, .ref qa900), (1, .ref qa901), (2, .int zi902)]) hx hb dX5_product_7 rfl hl (by decide) rfl (fun ls hl => ?_)
  have jn611 : ∀ (hp608 : Nat → Nat → Value)  (H : Heap) (locs : List Loc) (ls : Array Slot), Ok K hp608 → Fr [3002, 6002, 6003, 6004, 26000] K hp1 hp608 → lv_has ls 5 [] → PW G cy K ln Ls A hp608 H → va_S A s.heap H locs → W p l e ({ frames := 9, cells := 0, slots := 0, locals := 207 } : Room) s m ([.ref qa900, .ref qa901, .int zi902] : List Value).toArray below meth c H locs 0 0 Q (F0 m 65 ls []) := by
    intro hp608 H locs ls ok610 F609 hl hw hS
    rw [hQ]
    exact kz_v hx hb hr hlocks hS hp608 hw ⟨ok610, (Fr.tr (Fr.tr (Fr.rf) F3 (by decide)) F609 (by decide))⟩ (Nat.le_of_ble_eq_true rfl) (Nat.le_of_ble_eq_true rfl) dX5_product_65
  have lp614 : ∀ (n612 : Nat) (hp486 : Nat → Nat → Value) (zi485 : Int32) (H : Heap) (locs : List Loc) (ls : Array Slot), 401 - zi485.toInt < (n612 : Int) → Ok K hp486 → Fr [3002, 6002, 6003, 6004, 26000] K hp1 hp486 → ((0 : Int) ≤ zi485.toInt ∧ zi485.toInt ≤ 401) → lv_has ls 5 [(0, .ref qa900), (1, .ref qa901), (2, .int zi902), (3, .int zi485)] → PW G cy K ln Ls A hp486 H → va_S A s.heap H locs → W p l e ({ frames := 9, cells := 0, slots := 0, locals := 207 } : Room) s m ([.ref qa900, .ref qa901, .int zi902] : List Value).toArray below meth c H locs 0 0 Q (F0 m 8 ls []) := by
    intro n612
    induction n612 with
    | zero =>
      intro hp486 zi485 H locs ls hm615 ok488 F487 bd489 hl hw hS
      exact absurd hm615 (by have := bd489; omega)
    | succ n612 ih613 =>
      intro hp486 zi485 H locs ls hm615 ok488 F487 bd489 hl hw hS
      refine lv_iload_n hx hb dX5_product_8 rfl (lv_at hl 3 rfl) ?_
      refine lv_sipush (v := 400) hx hb dX5_product_9 (by decide) ?_
      refine lv_icmp_gt (tgt := 65) hx hb dX5_product_12 (by decide) (fun cn616 => ?_) (fun cn616 => ?_)
      · skip
        have bd617 : (401 : Int) ≤ zi485.toInt ∧ zi485.toInt ≤ 401 := r_lt_y cn616 bc_400 bd489 (by decide) (by decide)
        exact jn611 hp486 _ _ ls ok488 (Fr.tr (Fr.rf) F487 (by decide)) (lv_sub hl [] rfl) hw hS
      · skip
        have bd618 : (0 : Int) ≤ zi485.toInt ∧ zi485.toInt ≤ 400 := r_le_x (Int32.not_lt.mp cn616) bd489 bc_400 (by decide) (by decide)
        refine lv_aload_n hx hb dX5_product_15 rfl (lv_at hl 0 rfl) ?_
        obtain ⟨zi620, eq619⟩ := rd_6003 ok488 kd900
        refine p_get (ci := 5) (v := .int zi620) (C := RX5) (T := TX5) (N := 7) hx hb hT iw_X5 hown hK hw hW kd900 (by decide) rfl rfl 3 (by decide) eq619 (hT _ tb_374) (fun _ h9 => h9) dX5_product_16 ?_
        refine lv_bipush (v := 42) hx hb dX5_product_19 (by decide) ?_
        refine lv_icmp_eq (tgt := 33) hx hb dX5_product_21 (by decide) (fun cn621 => ?_) (fun cn621 => ?_)
        · skip
          have bd622 : (42 : Int) ≤ zi620.toInt ∧ zi620.toInt ≤ 42 := r_eq_x cn621 (b_all zi620) bc_42 (by decide) (by decide)
          refine lv_aload_n hx hb dX5_product_33 rfl (lv_at hl 0 rfl) ?_
          refine p_get (ci := 5) (v := .int zi620) (C := RX5) (T := TX5) (N := 7) hx hb hT iw_X5 hown hK hw hW kd900 (by decide) rfl rfl 3 (by decide) eq619 (hT _ tb_374) (fun _ h9 => h9) dX5_product_34 ?_
          refine lv_istore (lv' := [(4, .int zi620), (0, .ref qa900), (1, .ref qa901), (2, .int zi902), (3, .int zi485)]) hx hb dX5_product_37 hl (by decide) rfl (fun ls hl => ?_)
          refine lv_aload_n hx hb dX5_product_39 rfl (lv_at hl 1 rfl) ?_
          refine lv_iload hx hb dX5_product_40 (lv_at hl 0 rfl) ?_
          refine kq_i hw hS hA (va_runV (As := [.int zi620]) (rest := []) ⟨hx, hb, hml, hown, hT⟩ (cX5_accept_0 l G cy ev K ln Ls hW _ hp486 ok488 qa900 zi620 kd900) (cwV 1 hT (good_V tb_854 tb_851 tb_853 tb_8 tb_109) rfl rfl rfl (by decide +kernel) ⟨Nat.le_of_ble_eq_true rfl, Nat.le_of_ble_eq_true rfl⟩) (pool_preV (ci := 5) hK hE hS hA hw hW kd900 (by decide) rfl) rfl rfl hl.1 rfl (lv_room (Nat.le_of_ble_eq_true rfl)) dX5_product_42 ⟨Nat.le_of_ble_eq_true rfl, Nat.le_of_ble_eq_true rfl⟩) (fun zi627 hp623 H locs hq626 hw hS => ?_)
          obtain ⟨ok624, F625, bd628, hc629, hc630⟩ := hq626
          have hw : PW G cy K ln Ls A hp623 H := hw
          refine lv_pop hx hb dX5_product_45 rfl ?_
          refine lv_aload_n hx hb dX5_product_46 rfl (lv_at hl 1 rfl) ?_
          refine lv_aload_n hx hb dX5_product_47 rfl (lv_at hl 2 rfl) ?_
          refine lv_iload_n hx hb dX5_product_48 rfl (lv_at hl 3 rfl) ?_
          refine kq_v hw hS hA (va_runV (As := [.ref qa901, .int zi902]) (rest := []) ⟨hx, hb, hml, hown, hT⟩ (cX5_unit_2 l G cy ev K ln Ls hW _ hp623 ok624 qa900 qa901 zi902 kd900 kd901 (b_wid2 bd902 (by decide) (by decide))) (cwV 2 hT (good_V tb_959 tb_956 tb_958 tb_24 tb_109) rfl rfl rfl (by decide +kernel) ⟨Nat.le_of_ble_eq_true rfl, Nat.le_of_ble_eq_true rfl⟩) (pool_preV (ci := 5) hK hE hS hA hw hW kd900 (by decide) rfl) rfl rfl hl.1 rfl (lv_room (Nat.le_of_ble_eq_true rfl)) dX5_product_49 ⟨Nat.le_of_ble_eq_true rfl, Nat.le_of_ble_eq_true rfl⟩) (fun hp631 H locs hq634 hw hS => ?_)
          obtain ⟨ok632, F633⟩ := hq634
          have hw : PW G cy K ln Ls A hp631 H := hw
          refine lv_aload_n hx hb dX5_product_52 rfl (lv_at hl 2 rfl) ?_
          refine lv_iload hx hb dX5_product_53 (lv_at hl 0 rfl) ?_
          refine lv_ineg hx hb dX5_product_55 (lv_topi (fun zi636 ea637 => ?_))
          refine kq_v hw hS hA (va_runV (As := [.int zi636]) (rest := []) ⟨hx, hb, hml, hown, hT⟩ (cX2_add_0 l G cy ev K ln Ls hW _ hp631 ok632 qa901 zi636 kd901) (cwV 1 hT (good_V tb_404 tb_960 tb_402 tb_403 tb_108) rfl rfl rfl (by decide +kernel) ⟨Nat.le_of_ble_eq_true rfl, Nat.le_of_ble_eq_true rfl⟩) (pool_preV (ci := 2) hK hE hS hA hw hW kd901 (by decide) rfl) rfl rfl hl.1 rfl (lv_room (Nat.le_of_ble_eq_true rfl)) dX5_product_56 ⟨Nat.le_of_ble_eq_true rfl, Nat.le_of_ble_eq_true rfl⟩) (fun hp638 H locs hq641 hw hS => ?_)
          obtain ⟨ok639, F640⟩ := hq641
          have hw : PW G cy K ln Ls A hp638 H := hw
          obtain ⟨zi643, ea644⟩ : ∃ z : Int32, z = zi485 + 1 := ⟨_, rfl⟩
          have bd645 : (1 : Int) ≤ zi643.toInt ∧ zi643.toInt ≤ 401 := b_iadd ea644 bd618 bc_1 (by decide) (by decide) (by decide) (by decide)
          have qe646 : zi643.toInt = (zi485 : Int32).toInt + (1 : Int32).toInt := e_iadd ea644 bd618 bc_1 (by decide) (by decide)
          have qe647 : zi643.toInt = zi485.toInt + 1 := by have ha : (1 : Int32).toInt = 1 := (by decide); rw [ha] at qe646; exact qe646
          refine lv_iinc (v := zi643) (lv' := [(3, .int zi643), (4, .int zi620), (0, .ref qa900), (1, .ref qa901), (2, .int zi902)]) hx hb dX5_product_59 hl (k := 4) rfl ea644.symm (by decide) rfl (fun ls hl => ?_)
          refine lv_goto (tgt := 8) hx hb dX5_product_62 (by decide) ?_
          exact ih613 hp638 zi643 _ _ ls (by have := hm615; have := qe647; omega) ok639 (Fr.tr (Fr.tr (Fr.tr (Fr.tr (Fr.rf) F487 (by decide)) F625 (by decide)) F633 (by decide)) F640 (by decide)) (b_wid2 bd645 (by decide) (by decide)) (lv_sub hl [2, 3, 4, 0] rfl) hw hS
        · skip
          refine lv_aload_n hx hb dX5_product_24 rfl (lv_at hl 0 rfl) ?_
          refine p_get (ci := 5) (v := .int zi620) (C := RX5) (T := TX5) (N := 7) hx hb hT iw_X5 hown hK hw hW kd900 (by decide) rfl rfl 3 (by decide) eq619 (hT _ tb_374) (fun _ h9 => h9) dX5_product_25 ?_
          refine lv_bipush (v := 47) hx hb dX5_product_28 (by decide) ?_
          refine lv_icmp_ne (tgt := 65) hx hb dX5_product_30 (by decide) (fun cn648 => ?_) (fun cn648 => ?_)
          · skip
            exact jn611 hp486 _ _ ls ok488 (Fr.tr (Fr.rf) F487 (by decide)) (lv_sub hl [] rfl) hw hS
          · skip
            have bd649 : (47 : Int) ≤ zi620.toInt ∧ zi620.toInt ≤ 47 := r_eq_x cn648 (b_all zi620) bc_47 (by decide) (by decide)
            refine lv_aload_n hx hb dX5_product_33 rfl (lv_at hl 0 rfl) ?_
            refine p_get (ci := 5) (v := .int zi620) (C := RX5) (T := TX5) (N := 7) hx hb hT iw_X5 hown hK hw hW kd900 (by decide) rfl rfl 3 (by decide) eq619 (hT _ tb_374) (fun _ h9 => h9) dX5_product_34 ?_
            refine lv_istore (lv' := [(4, .int zi620), (0, .ref qa900), (1, .ref qa901), (2, .int zi902), (3, .int zi485)]) hx hb dX5_product_37 hl (by decide) rfl (fun ls hl => ?_)
            refine lv_aload_n hx hb dX5_product_39 rfl (lv_at hl 1 rfl) ?_
            refine lv_iload hx hb dX5_product_40 (lv_at hl 0 rfl) ?_
            refine kq_i hw hS hA (va_runV (As := [.int zi620]) (rest := []) ⟨hx, hb, hml, hown, hT⟩ (cX5_accept_0 l G cy ev K ln Ls hW _ hp486 ok488 qa900 zi620 kd900) (cwV 1 hT (good_V tb_854 tb_851 tb_853 tb_8 tb_109) rfl rfl rfl (by decide +kernel) ⟨Nat.le_of_ble_eq_true rfl, Nat.le_of_ble_eq_true rfl⟩) (pool_preV (ci := 5) hK hE hS hA hw hW kd900 (by decide) rfl) rfl rfl hl.1 rfl (lv_room (Nat.le_of_ble_eq_true rfl)) dX5_product_42 ⟨Nat.le_of_ble_eq_true rfl, Nat.le_of_ble_eq_true rfl⟩) (fun zi654 hp650 H locs hq653 hw hS => ?_)
            obtain ⟨ok651, F652, bd655, hc656, hc657⟩ := hq653
            have hw : PW G cy K ln Ls A hp650 H := hw
            refine lv_pop hx hb dX5_product_45 rfl ?_
            refine lv_aload_n hx hb dX5_product_46 rfl (lv_at hl 1 rfl) ?_
            refine lv_aload_n hx hb dX5_product_47 rfl (lv_at hl 2 rfl) ?_
            refine lv_iload_n hx hb dX5_product_48 rfl (lv_at hl 3 rfl) ?_
            refine kq_v hw hS hA (va_runV (As := [.ref qa901, .int zi902]) (rest := []) ⟨hx, hb, hml, hown, hT⟩ (cX5_unit_2 l G cy ev K ln Ls hW _ hp650 ok651 qa900 qa901 zi902 kd900 kd901 (b_wid2 bd902 (by decide) (by decide))) (cwV 2 hT (good_V tb_959 tb_956 tb_958 tb_24 tb_109) rfl rfl rfl (by decide +kernel) ⟨Nat.le_of_ble_eq_true rfl, Nat.le_of_ble_eq_true rfl⟩) (pool_preV (ci := 5) hK hE hS hA hw hW kd900 (by decide) rfl) rfl rfl hl.1 rfl (lv_room (Nat.le_of_ble_eq_true rfl)) dX5_product_49 ⟨Nat.le_of_ble_eq_true rfl, Nat.le_of_ble_eq_true rfl⟩) (fun hp658 H locs hq661 hw hS => ?_)
            obtain ⟨ok659, F660⟩ := hq661
            have hw : PW G cy K ln Ls A hp658 H := hw
            refine lv_aload_n hx hb dX5_product_52 rfl (lv_at hl 2 rfl) ?_
            refine lv_iload hx hb dX5_product_53 (lv_at hl 0 rfl) ?_
            refine lv_ineg hx hb dX5_product_55 (lv_topi (fun zi663 ea664 => ?_))
            refine kq_v hw hS hA (va_runV (As := [.int zi663]) (rest := []) ⟨hx, hb, hml, hown, hT⟩ (cX2_add_0 l G cy ev K ln Ls hW _ hp658 ok659 qa901 zi663 kd901) (cwV 1 hT (good_V tb_404 tb_960 tb_402 tb_403 tb_108) rfl rfl rfl (by decide +kernel) ⟨Nat.le_of_ble_eq_true rfl, Nat.le_of_ble_eq_true rfl⟩) (pool_preV (ci := 2) hK hE hS hA hw hW kd901 (by decide) rfl) rfl rfl hl.1 rfl (lv_room (Nat.le_of_ble_eq_true rfl)) dX5_product_56 ⟨Nat.le_of_ble_eq_true rfl, Nat.le_of_ble_eq_true rfl⟩) (fun hp665 H locs hq668 hw hS => ?_)
            obtain ⟨ok666, F667⟩ := hq668
            have hw : PW G cy K ln Ls A hp665 H := hw
            obtain ⟨zi670, ea671⟩ : ∃ z : Int32, z = zi485 + 1 := ⟨_, rfl⟩
            have bd672 : (1 : Int) ≤ zi670.toInt ∧ zi670.toInt ≤ 401 := b_iadd ea671 bd618 bc_1 (by decide) (by decide) (by decide) (by decide)
            have qe673 : zi670.toInt = (zi485 : Int32).toInt + (1 : Int32).toInt := e_iadd ea671 bd618 bc_1 (by decide) (by decide)
            have qe674 : zi670.toInt = zi485.toInt + 1 := by have ha : (1 : Int32).toInt = 1 := (by decide); rw [ha] at qe673; exact qe673
            refine lv_iinc (v := zi670) (lv' := [(3, .int zi670), (4, .int zi620), (0, .ref qa900), (1, .ref qa901), (2, .int zi902)]) hx hb dX5_product_59 hl (k := 4) rfl ea671.symm (by decide) rfl (fun ls hl => ?_)
            refine lv_goto (tgt := 8) hx hb dX5_product_62 (by decide) ?_
            exact ih613 hp665 zi670 _ _ ls (by have := hm615; have := qe674; omega) ok666 (Fr.tr (Fr.tr (Fr.tr (Fr.tr (Fr.rf) F487 (by decide)) F652 (by decide)) F660 (by decide)) F667 (by decide)) (b_wid2 bd672 (by decide) (by decide)) (lv_sub hl [2, 3, 4, 0] rfl) hw hS
  exact lp614 _ hp1 0 _ _ ls (lp_in _) ok2 (Fr.rf) (b_wid2 bc_0 (by decide) (by decide)) (lv_sub hl [1, 2, 3, 0] rfl) hw hS

set_option maxRecDepth 100000 in
set_option maxHeartbeats 4000000 in
theorem cX5_sum_2 (l : Launch) (G : va_G) (cy : Nat → ClassId) (ev : Ew) (K ln : Nat → Nat) (Ls : List Nat) (hW : SW K ln Ls) (sz : Nat) (hp0 : Nat → Nat → Value) (ok0 : Ok K hp0) (qa900 : Nat) (qa901 : Nat) (zi902 : Int32) (kd900 : K qa900 = 6) (kd901 : K qa901 = 3) (bd902 : ((4 : Int) ≤ zi902.toInt ∧ zi902.toInt ≤ 4)) : Met l yX5_sum (WS yX5_sum cX5_sum 5 none) { frames := 10, cells := 0, slots := 0, locals := 231 } (PB2 [.ref qa900, .ref qa901, .int zi902] sz G cy ev (va_pl Ls (cellOf cy K ln hp0))) (QBv (S := (Nat → Nat → Value)) (fun u : (Nat → Nat → Value) => Ok K u ∧ Fr [3002, 6002, 6003, 6004, 26000] K hp0 u) G (fun u => va_pl Ls (cellOf cy K ln u)) (va_A (va_pl Ls (cellOf cy K ln hp0)) sz)) 0 0 (va_A (va_pl Ls (cellOf cy K ln hp0)) sz) := by
  refine met_of2 (y := yX5_sum) (L := 5) (av := [.ref qa900, .ref qa901, .int zi902]) (Qc := fun A => QBv (S := (Nat → Nat → Value)) (fun u : (Nat → Nat → Value) => Ok K u ∧ Fr [3002, 6002, 6003, 6004, 26000] K hp0 u) G (fun u => va_pl Ls (cellOf cy K ln u)) A) (plainFor_of_name (by decide)) (Nat.le_of_ble_eq_true rfl) ?_
  intro p e s m below meth c hsz hx hb hr hml hown hT hlocks hin hK A hA hE hw hS ls hl
  have hw : PW G cy K ln Ls A hp0 s.heap := hw
  have hown : s.vm.findClass "LieClock$Parser" = some m.cls := hown
  have hl : lv_has ls 5 [(0, .ref qa900), (1, .ref qa901), (2, .int zi902)] := hl
  obtain ⟨Q, hQ⟩ : ∃ Q : State → Prop, Q = MQ below (QBv (S := (Nat → Nat → Value)) (fun u : (Nat → Nat → Value) => Ok K u ∧ Fr [3002, 6002, 6003, 6004, 26000] K hp0 u) G (fun u => va_pl Ls (cellOf cy K ln u)) A) ([.ref qa900, .ref qa901, .int zi902] : List Value).toArray s 0 0 A := ⟨_, rfl⟩
  rw [← hQ]
  refine lv_aload_n hx hb dX5_sum_0 rfl (lv_at hl 0 rfl) ?_
  refine lv_aload_n hx hb dX5_sum_1 rfl (lv_at hl 1 rfl) ?_
  refine lv_iload_n hx hb dX5_sum_2 rfl (lv_at hl 2 rfl) ?_
  refine kq_v hw hS hA (va_runV (As := [.ref qa901, .int zi902]) (rest := []) ⟨hx, hb, hml, hown, hT⟩ (cX5_product_2 l G cy ev K ln Ls hW _ hp0 ok0 qa900 qa901 zi902 kd900 kd901 (b_wid2 bd902 (by decide) (by decide))) (cwV 2 hT (good_V tb_955 tb_952 tb_954 tb_23 tb_109) rfl rfl rfl (by decide +kernel) ⟨Nat.le_of_ble_eq_true rfl, Nat.le_of_ble_eq_true rfl⟩) (pool_preV (ci := 5) hK hE hS hA hw hW kd900 (by decide) rfl) rfl rfl hl.1 rfl (lv_room (Nat.le_of_ble_eq_true rfl)) dX5_sum_3 ⟨Nat.le_of_ble_eq_true rfl, Nat.le_of_ble_eq_true rfl⟩) (fun hp1 H locs hq4 hw hS => ?_)
  obtain ⟨ok2, F3⟩ := hq4
  have hw : PW G cy K ln Ls A hp1 H := hw
  refine lv_iconst (v := 0) hx hb dX5_sum_6 (by decide) ?_
  refine lv_istore_n (lv' := [(3, .int 0), (0, .ref qa900), (1, .ref qa901), (2, .int zi902)]) hx hb dX5_sum_7 rfl hl (by decide) rfl (fun ls hl => ?_)
  have jn611 : ∀ (hp608 : Nat → Nat → Value)  (H : Heap) (locs : List Loc) (ls : Array Slot), Ok K hp608 → Fr [3002, 6002, 6003, 6004, 26000] K hp1 hp608 → lv_has ls 5 [] → PW G cy K ln Ls A hp608 H → va_S A s.heap H locs → W p l e ({ frames := 10, cells := 0, slots := 0, locals := 231 } : Room) s m ([.ref qa900, .ref qa901, .int zi902] : List Value).toArray below meth c H locs 0 0 Q (F0 m 65 ls []) := by
    intro hp608 H locs ls ok610 F609 hl hw hS
    rw [hQ]
    exact kz_v hx hb hr hlocks hS hp608 hw ⟨ok610, (Fr.tr (Fr.tr (Fr.rf) F3 (by decide)) F609 (by decide))⟩ (Nat.le_of_ble_eq_true rfl) (Nat.le_of_ble_eq_true rfl) dX5_sum_65
  have lp614 : ∀ (n612 : Nat) (hp486 : Nat → Nat → Value) (zi485 : Int32) (H : Heap) (locs : List Loc) (ls : Array Slot), 401 - zi485.toInt < (n612 : Int) → Ok K hp486 → Fr [3002, 6002, 6003, 6004, 26000] K hp1 hp486 → ((0 : Int) ≤ zi485.toInt ∧ zi485.toInt ≤ 401) → lv_has ls 5 [(0, .ref qa900), (1, .ref qa901), (2, .int zi902), (3, .int zi485)] → PW G cy K ln Ls A hp486 H → va_S A s.heap H locs → W p l e ({ frames := 10, cells := 0, slots := 0, locals := 231 } : Room) s m ([.ref qa900, .ref qa901, .int zi902] : List Value).toArray below meth c H locs 0 0 Q (F0 m 8 ls []) := by
    intro n612
    induction n612 with
    | zero =>
      intro hp486 zi485 H locs ls hm615 ok488 F487 bd489 hl hw hS
      exact absurd hm615 (by have := bd489; omega)
    | succ n612 ih613 =>
      intro hp486 zi485 H locs ls hm615 ok488 F487 bd489 hl hw hS
      refine lv_iload_n hx hb dX5_sum_8 rfl (lv_at hl 3 rfl) ?_
      refine lv_sipush (v := 400) hx hb dX5_sum_9 (by decide) ?_
      refine lv_icmp_gt (tgt := 65) hx hb dX5_sum_12 (by decide) (fun cn616 => ?_) (fun cn616 => ?_)
      · skip
        have bd617 : (401 : Int) ≤ zi485.toInt ∧ zi485.toInt ≤ 401 := r_lt_y cn616 bc_400 bd489 (by decide) (by decide)
        exact jn611 hp486 _ _ ls ok488 (Fr.tr (Fr.rf) F487 (by decide)) (lv_sub hl [] rfl) hw hS
      · skip
        have bd618 : (0 : Int) ≤ zi485.toInt ∧ zi485.toInt ≤ 400 := r_le_x (Int32.not_lt.mp cn616) bd489 bc_400 (by decide) (by decide)
        refine lv_aload_n hx hb dX5_sum_15 rfl (lv_at hl 0 rfl) ?_
        obtain ⟨zi620, eq619⟩ := rd_6003 ok488 kd900
        refine p_get (ci := 5) (v := .int zi620) (C := RX5) (T := TX5) (N := 7) hx hb hT iw_X5 hown hK hw hW kd900 (by decide) rfl rfl 3 (by decide) eq619 (hT _ tb_374) (fun _ h9 => h9) dX5_sum_16 ?_
        refine lv_bipush (v := 43) hx hb dX5_sum_19 (by decide) ?_
        refine lv_icmp_eq (tgt := 33) hx hb dX5_sum_21 (by decide) (fun cn621 => ?_) (fun cn621 => ?_)
        · skip
          have bd622 : (43 : Int) ≤ zi620.toInt ∧ zi620.toInt ≤ 43 := r_eq_x cn621 (b_all zi620) bc_43 (by decide) (by decide)
          refine lv_aload_n hx hb dX5_sum_33 rfl (lv_at hl 0 rfl) ?_
          refine p_get (ci := 5) (v := .int zi620) (C := RX5) (T := TX5) (N := 7) hx hb hT iw_X5 hown hK hw hW kd900 (by decide) rfl rfl 3 (by decide) eq619 (hT _ tb_374) (fun _ h9 => h9) dX5_sum_34 ?_
          refine lv_istore (lv' := [(4, .int zi620), (0, .ref qa900), (1, .ref qa901), (2, .int zi902), (3, .int zi485)]) hx hb dX5_sum_37 hl (by decide) rfl (fun ls hl => ?_)
          refine lv_aload_n hx hb dX5_sum_39 rfl (lv_at hl 1 rfl) ?_
          refine lv_iload hx hb dX5_sum_40 (lv_at hl 0 rfl) ?_
          refine kq_i hw hS hA (va_runV (As := [.int zi620]) (rest := []) ⟨hx, hb, hml, hown, hT⟩ (cX5_accept_0 l G cy ev K ln Ls hW _ hp486 ok488 qa900 zi620 kd900) (cwV 1 hT (good_V tb_854 tb_851 tb_853 tb_8 tb_109) rfl rfl rfl (by decide +kernel) ⟨Nat.le_of_ble_eq_true rfl, Nat.le_of_ble_eq_true rfl⟩) (pool_preV (ci := 5) hK hE hS hA hw hW kd900 (by decide) rfl) rfl rfl hl.1 rfl (lv_room (Nat.le_of_ble_eq_true rfl)) dX5_sum_42 ⟨Nat.le_of_ble_eq_true rfl, Nat.le_of_ble_eq_true rfl⟩) (fun zi627 hp623 H locs hq626 hw hS => ?_)
          obtain ⟨ok624, F625, bd628, hc629, hc630⟩ := hq626
          have hw : PW G cy K ln Ls A hp623 H := hw
          refine lv_pop hx hb dX5_sum_45 rfl ?_
          refine lv_aload_n hx hb dX5_sum_46 rfl (lv_at hl 1 rfl) ?_
          refine lv_aload_n hx hb dX5_sum_47 rfl (lv_at hl 2 rfl) ?_
          refine lv_iload_n hx hb dX5_sum_48 rfl (lv_at hl 3 rfl) ?_
          refine kq_v hw hS hA (va_runV (As := [.ref qa901, .int zi902]) (rest := []) ⟨hx, hb, hml, hown, hT⟩ (cX5_product_2 l G cy ev K ln Ls hW _ hp623 ok624 qa900 qa901 zi902 kd900 kd901 (b_wid2 bd902 (by decide) (by decide))) (cwV 2 hT (good_V tb_955 tb_952 tb_954 tb_23 tb_109) rfl rfl rfl (by decide +kernel) ⟨Nat.le_of_ble_eq_true rfl, Nat.le_of_ble_eq_true rfl⟩) (pool_preV (ci := 5) hK hE hS hA hw hW kd900 (by decide) rfl) rfl rfl hl.1 rfl (lv_room (Nat.le_of_ble_eq_true rfl)) dX5_sum_49 ⟨Nat.le_of_ble_eq_true rfl, Nat.le_of_ble_eq_true rfl⟩) (fun hp631 H locs hq634 hw hS => ?_)
          obtain ⟨ok632, F633⟩ := hq634
          have hw : PW G cy K ln Ls A hp631 H := hw
          refine lv_aload_n hx hb dX5_sum_52 rfl (lv_at hl 2 rfl) ?_
          refine lv_iload hx hb dX5_sum_53 (lv_at hl 0 rfl) ?_
          refine lv_ineg hx hb dX5_sum_55 (lv_topi (fun zi636 ea637 => ?_))
          refine kq_v hw hS hA (va_runV (As := [.int zi636]) (rest := []) ⟨hx, hb, hml, hown, hT⟩ (cX2_add_0 l G cy ev K ln Ls hW _ hp631 ok632 qa901 zi636 kd901) (cwV 1 hT (good_V tb_404 tb_960 tb_402 tb_403 tb_108) rfl rfl rfl (by decide +kernel) ⟨Nat.le_of_ble_eq_true rfl, Nat.le_of_ble_eq_true rfl⟩) (pool_preV (ci := 2) hK hE hS hA hw hW kd901 (by decide) rfl) rfl rfl hl.1 rfl (lv_room (Nat.le_of_ble_eq_true rfl)) dX5_sum_56 ⟨Nat.le_of_ble_eq_true rfl, Nat.le_of_ble_eq_true rfl⟩) (fun hp638 H locs hq641 hw hS => ?_)
          obtain ⟨ok639, F640⟩ := hq641
          have hw : PW G cy K ln Ls A hp638 H := hw
          obtain ⟨zi643, ea644⟩ : ∃ z : Int32, z = zi485 + 1 := ⟨_, rfl⟩
          have bd645 : (1 : Int) ≤ zi643.toInt ∧ zi643.toInt ≤ 401 := b_iadd ea644 bd618 bc_1 (by decide) (by decide) (by decide) (by decide)
          have qe646 : zi643.toInt = (zi485 : Int32).toInt + (1 : Int32).toInt := e_iadd ea644 bd618 bc_1 (by decide) (by decide)
          have qe647 : zi643.toInt = zi485.toInt + 1 := by have ha : (1 : Int32).toInt = 1 := (by decide); rw [ha] at qe646; exact qe646
          refine lv_iinc (v := zi643) (lv' := [(3, .int zi643), (4, .int zi620), (0, .ref qa900), (1, .ref qa901), (2, .int zi902)]) hx hb dX5_sum_59 hl (k := 4) rfl ea644.symm (by decide) rfl (fun ls hl => ?_)
          refine lv_goto (tgt := 8) hx hb dX5_sum_62 (by decide) ?_
          exact ih613 hp638 zi643 _ _ ls (by have := hm615; have := qe647; omega) ok639 (Fr.tr (Fr.tr (Fr.tr (Fr.tr (Fr.rf) F487 (by decide)) F625 (by decide)) F633 (by decide)) F640 (by decide)) (b_wid2 bd645 (by decide) (by decide)) (lv_sub hl [2, 3, 4, 0] rfl) hw hS
        · skip
          refine lv_aload_n hx hb dX5_sum_24 rfl (lv_at hl 0 rfl) ?_
          refine p_get (ci := 5) (v := .int zi620) (C := RX5) (T := TX5) (N := 7) hx hb hT iw_X5 hown hK hw hW kd900 (by decide) rfl rfl 3 (by decide) eq619 (hT _ tb_374) (fun _ h9 => h9) dX5_sum_25 ?_
          refine lv_bipush (v := 45) hx hb dX5_sum_28 (by decide) ?_
          refine lv_icmp_ne (tgt := 65) hx hb dX5_sum_30 (by decide) (fun cn648 => ?_) (fun cn648 => ?_)
          · skip
            exact jn611 hp486 _ _ ls ok488 (Fr.tr (Fr.rf) F487 (by decide)) (lv_sub hl [] rfl) hw hS
          · skip
            have bd649 : (45 : Int) ≤ zi620.toInt ∧ zi620.toInt ≤ 45 := r_eq_x cn648 (b_all zi620) bc_45 (by decide) (by decide)
            refine lv_aload_n hx hb dX5_sum_33 rfl (lv_at hl 0 rfl) ?_
            refine p_get (ci := 5) (v := .int zi620) (C := RX5) (T := TX5) (N := 7) hx hb hT iw_X5 hown hK hw hW kd900 (by decide) rfl rfl 3 (by decide) eq619 (hT _ tb_374) (fun _ h9 => h9) dX5_sum_34 ?_
            refine lv_istore (lv' := [(4, .int zi620), (0, .ref qa900), (1, .ref qa901), (2, .int zi902), (3, .int zi485)]) hx hb dX5_sum_37 hl (by decide) rfl (fun ls hl => ?_)
            refine lv_aload_n hx hb dX5_sum_39 rfl (lv_at hl 1 rfl) ?_
            refine lv_iload hx hb dX5_sum_40 (lv_at hl 0 rfl) ?_
            refine kq_i hw hS hA (va_runV (As := [.int zi620]) (rest := []) ⟨hx, hb, hml, hown, hT⟩ (cX5_accept_0 l G cy ev K ln Ls hW _ hp486 ok488 qa900 zi620 kd900) (cwV 1 hT (good_V tb_854 tb_851 tb_853 tb_8 tb_109) rfl rfl rfl (by decide +kernel) ⟨Nat.le_of_ble_eq_true rfl, Nat.le_of_ble_eq_true rfl⟩) (pool_preV (ci := 5) hK hE hS hA hw hW kd900 (by decide) rfl) rfl rfl hl.1 rfl (lv_room (Nat.le_of_ble_eq_true rfl)) dX5_sum_42 ⟨Nat.le_of_ble_eq_true rfl, Nat.le_of_ble_eq_true rfl⟩) (fun zi654 hp650 H locs hq653 hw hS => ?_)
            obtain ⟨ok651, F652, bd655, hc656, hc657⟩ := hq653
            have hw : PW G cy K ln Ls A hp650 H := hw
            refine lv_pop hx hb dX5_sum_45 rfl ?_
            refine lv_aload_n hx hb dX5_sum_46 rfl (lv_at hl 1 rfl) ?_
            refine lv_aload_n hx hb dX5_sum_47 rfl (lv_at hl 2 rfl) ?_
            refine lv_iload_n hx hb dX5_sum_48 rfl (lv_at hl 3 rfl) ?_
            refine kq_v hw hS hA (va_runV (As := [.ref qa901, .int zi902]) (rest := []) ⟨hx, hb, hml, hown, hT⟩ (cX5_product_2 l G cy ev K ln Ls hW _ hp650 ok651 qa900 qa901 zi902 kd900 kd901 (b_wid2 bd902 (by decide) (by decide))) (cwV 2 hT (good_V tb_955 tb_952 tb_954 tb_23 tb_109) rfl rfl rfl (by decide +kernel) ⟨Nat.le_of_ble_eq_true rfl, Nat.le_of_ble_eq_true rfl⟩) (pool_preV (ci := 5) hK hE hS hA hw hW kd900 (by decide) rfl) rfl rfl hl.1 rfl (lv_room (Nat.le_of_ble_eq_true rfl)) dX5_sum_49 ⟨Nat.le_of_ble_eq_true rfl, Nat.le_of_ble_eq_true rfl⟩) (fun hp658 H locs hq661 hw hS => ?_)
            obtain ⟨ok659, F660⟩ := hq661
            have hw : PW G cy K ln Ls A hp658 H := hw
            refine lv_aload_n hx hb dX5_sum_52 rfl (lv_at hl 2 rfl) ?_
            refine lv_iload hx hb dX5_sum_53 (lv_at hl 0 rfl) ?_
            refine lv_ineg hx hb dX5_sum_55 (lv_topi (fun zi663 ea664 => ?_))
            refine kq_v hw hS hA (va_runV (As := [.int zi663]) (rest := []) ⟨hx, hb, hml, hown, hT⟩ (cX2_add_0 l G cy ev K ln Ls hW _ hp658 ok659 qa901 zi663 kd901) (cwV 1 hT (good_V tb_404 tb_960 tb_402 tb_403 tb_108) rfl rfl rfl (by decide +kernel) ⟨Nat.le_of_ble_eq_true rfl, Nat.le_of_ble_eq_true rfl⟩) (pool_preV (ci := 2) hK hE hS hA hw hW kd901 (by decide) rfl) rfl rfl hl.1 rfl (lv_room (Nat.le_of_ble_eq_true rfl)) dX5_sum_56 ⟨Nat.le_of_ble_eq_true rfl, Nat.le_of_ble_eq_true rfl⟩) (fun hp665 H locs hq668 hw hS => ?_)
            obtain ⟨ok666, F667⟩ := hq668
            have hw : PW G cy K ln Ls A hp665 H := hw
            obtain ⟨zi670, ea671⟩ : ∃ z : Int32, z = zi485 + 1 := ⟨_, rfl⟩
            have bd672 : (1 : Int) ≤ zi670.toInt ∧ zi670.toInt ≤ 401 := b_iadd ea671 bd618 bc_1 (by decide) (by decide) (by decide) (by decide)
            have qe673 : zi670.toInt = (zi485 : Int32).toInt + (1 : Int32).toInt := e_iadd ea671 bd618 bc_1 (by decide) (by decide)
            have qe674 : zi670.toInt = zi485.toInt + 1 := by have ha : (1 : Int32).toInt = 1 := (by decide); rw [ha] at qe673; exact qe673
            refine lv_iinc (v := zi670) (lv' := [(3, .int zi670), (4, .int zi620), (0, .ref qa900), (1, .ref qa901), (2, .int zi902)]) hx hb dX5_sum_59 hl (k := 4) rfl ea671.symm (by decide) rfl (fun ls hl => ?_)
            refine lv_goto (tgt := 8) hx hb dX5_sum_62 (by decide) ?_
            exact ih613 hp665 zi670 _ _ ls (by have := hm615; have := qe674; omega) ok666 (Fr.tr (Fr.tr (Fr.tr (Fr.tr (Fr.rf) F487 (by decide)) F652 (by decide)) F660 (by decide)) F667 (by decide)) (b_wid2 bd672 (by decide) (by decide)) (lv_sub hl [2, 3, 4, 0] rfl) hw hS
  exact lp614 _ hp1 0 _ _ ls (lp_in _) ok2 (Fr.rf) (b_wid2 bc_0 (by decide) (by decide)) (lv_sub hl [1, 2, 3, 0] rfl) hw hS

set_option maxRecDepth 100000 in
set_option maxHeartbeats 4000000 in
theorem cX5_unit_3 (l : Launch) (G : va_G) (cy : Nat → ClassId) (ev : Ew) (K ln : Nat → Nat) (Ls : List Nat) (hW : SW K ln Ls) (sz : Nat) (hp0 : Nat → Nat → Value) (ok0 : Ok K hp0) (qa900 : Nat) (qa901 : Nat) (zi902 : Int32) (kd900 : K qa900 = 6) (kd901 : K qa901 = 3) (bd902 : ((3 : Int) ≤ zi902.toInt ∧ zi902.toInt ≤ 3)) : Met l yX5_unit (WS yX5_unit cX5_unit 4 none) { frames := 11, cells := 0, slots := 0, locals := 255 } (PB2 [.ref qa900, .ref qa901, .int zi902] sz G cy ev (va_pl Ls (cellOf cy K ln hp0))) (QBv (S := (Nat → Nat → Value)) (fun u : (Nat → Nat → Value) => Ok K u ∧ Fr [3002, 6002, 6003, 6004, 26000] K hp0 u) G (fun u => va_pl Ls (cellOf cy K ln u)) (va_A (va_pl Ls (cellOf cy K ln hp0)) sz)) 0 0 (va_A (va_pl Ls (cellOf cy K ln hp0)) sz) := by
  refine met_of2 (y := yX5_unit) (L := 4) (av := [.ref qa900, .ref qa901, .int zi902]) (Qc := fun A => QBv (S := (Nat → Nat → Value)) (fun u : (Nat → Nat → Value) => Ok K u ∧ Fr [3002, 6002, 6003, 6004, 26000] K hp0 u) G (fun u => va_pl Ls (cellOf cy K ln u)) A) (plainFor_of_name (by decide)) (Nat.le_of_ble_eq_true rfl) ?_
  intro p e s m below meth c hsz hx hb hr hml hown hT hlocks hin hK A hA hE hw hS ls hl
  have hw : PW G cy K ln Ls A hp0 s.heap := hw
  have hown : s.vm.findClass "LieClock$Parser" = some m.cls := hown
  have hl : lv_has ls 4 [(0, .ref qa900), (1, .ref qa901), (2, .int zi902)] := hl
  obtain ⟨Q, hQ⟩ : ∃ Q : State → Prop, Q = MQ below (QBv (S := (Nat → Nat → Value)) (fun u : (Nat → Nat → Value) => Ok K u ∧ Fr [3002, 6002, 6003, 6004, 26000] K hp0 u) G (fun u => va_pl Ls (cellOf cy K ln u)) A) ([.ref qa900, .ref qa901, .int zi902] : List Value).toArray s 0 0 A := ⟨_, rfl⟩
  rw [← hQ]
  refine lv_aload_n hx hb dX5_unit_0 rfl (lv_at hl 0 rfl) ?_
  obtain ⟨zi2, eq1⟩ := rd_6003 ok0 kd900
  refine p_get (ci := 5) (v := .int zi2) (C := RX5) (T := TX5) (N := 7) hx hb hT iw_X5 hown hK hw hW kd900 (by decide) rfl rfl 3 (by decide) eq1 (hT _ tb_374) (fun _ h9 => h9) dX5_unit_1 ?_
  refine lv_istore_n (lv' := [(3, .int zi2), (0, .ref qa900), (1, .ref qa901), (2, .int zi902)]) hx hb dX5_unit_4 rfl hl (by decide) rfl (fun ls hl => ?_)
  refine lv_iload_n hx hb dX5_unit_5 rfl (lv_at hl 0 rfl) ?_
  refine lv_bipush (v := 40) hx hb dX5_unit_6 (by decide) ?_
  refine lv_icmp_ne (tgt := 36) hx hb dX5_unit_8 (by decide) (fun cn3 => ?_) (fun cn3 => ?_)
  · skip
    refine lv_iload_n hx hb dX5_unit_36 rfl (lv_at hl 0 rfl) ?_
    refine lv_bipush (v := 103) hx hb dX5_unit_37 (by decide) ?_
    refine lv_icmp_eq (tgt := 54) hx hb dX5_unit_39 (by decide) (fun cn4 => ?_) (fun cn4 => ?_)
    · skip
      have bd5 : (103 : Int) ≤ zi2.toInt ∧ zi2.toInt ≤ 103 := r_eq_x cn4 (b_all zi2) bc_103 (by decide) (by decide)
      refine lv_aload_n hx hb dX5_unit_54 rfl (lv_at hl 1 rfl) ?_
      refine lv_iload_n hx hb dX5_unit_55 rfl (lv_at hl 0 rfl) ?_
      refine kq_i hw hS hA (va_runV (As := [.int zi2]) (rest := []) ⟨hx, hb, hml, hown, hT⟩ (cX5_accept_0 l G cy ev K ln Ls hW _ hp0 ok0 qa900 zi2 kd900) (cwV 1 hT (good_V tb_854 tb_851 tb_853 tb_8 tb_109) rfl rfl rfl (by decide +kernel) ⟨Nat.le_of_ble_eq_true rfl, Nat.le_of_ble_eq_true rfl⟩) (pool_preV (ci := 5) hK hE hS hA hw hW kd900 (by decide) rfl) rfl rfl hl.1 rfl (lv_room (Nat.le_of_ble_eq_true rfl)) dX5_unit_56 ⟨Nat.le_of_ble_eq_true rfl, Nat.le_of_ble_eq_true rfl⟩) (fun zi10 hp6 H locs hq9 hw hS => ?_)
      obtain ⟨ok7, F8, bd11, hc12, hc13⟩ := hq9
      have hw : PW G cy K ln Ls A hp6 H := hw
      refine lv_pop hx hb dX5_unit_59 rfl ?_
      refine lv_aload_n hx hb dX5_unit_60 rfl (lv_at hl 2 rfl) ?_
      refine lv_iload_n hx hb dX5_unit_61 rfl (lv_at hl 0 rfl) ?_
      refine lv_ineg hx hb dX5_unit_62 (lv_topi (fun zi14 ea15 => ?_))
      refine kq_v hw hS hA (va_runV (As := [.int zi14]) (rest := []) ⟨hx, hb, hml, hown, hT⟩ (cX2_add_0 l G cy ev K ln Ls hW _ hp6 ok7 qa901 zi14 kd901) (cwV 1 hT (good_V tb_404 tb_960 tb_402 tb_403 tb_108) rfl rfl rfl (by decide +kernel) ⟨Nat.le_of_ble_eq_true rfl, Nat.le_of_ble_eq_true rfl⟩) (pool_preV (ci := 2) hK hE hS hA hw hW kd901 (by decide) rfl) rfl rfl hl.1 rfl (lv_room (Nat.le_of_ble_eq_true rfl)) dX5_unit_63 ⟨Nat.le_of_ble_eq_true rfl, Nat.le_of_ble_eq_true rfl⟩) (fun hp16 H locs hq19 hw hS => ?_)
      obtain ⟨ok17, F18⟩ := hq19
      have hw : PW G cy K ln Ls A hp16 H := hw
      refine lv_goto (tgt := 79) hx hb dX5_unit_66 (by decide) ?_
      rw [hQ]
      exact kz_v hx hb hr hlocks hS hp16 hw ⟨ok17, (Fr.tr (Fr.tr (Fr.rf) F8 (by decide)) F18 (by decide))⟩ (Nat.le_of_ble_eq_true rfl) (Nat.le_of_ble_eq_true rfl) dX5_unit_79
    · skip
      refine lv_iload_n hx hb dX5_unit_42 rfl (lv_at hl 0 rfl) ?_
      refine lv_bipush (v := 114) hx hb dX5_unit_43 (by decide) ?_
      refine lv_icmp_lt (tgt := 69) hx hb dX5_unit_45 (by decide) (fun cn21 => ?_) (fun cn21 => ?_)
      · skip
        have bd22 : (-2147483648 : Int) ≤ zi2.toInt ∧ zi2.toInt ≤ 113 := r_lt_x cn21 (b_all zi2) bc_114 (by decide) (by decide)
        refine lv_aload_n hx hb dX5_unit_69 rfl (lv_at hl 2 rfl) ?_
        refine lv_aload_n hx hb dX5_unit_70 rfl (lv_at hl 1 rfl) ?_
        refine lv_iconst (v := 3) hx hb dX5_unit_71 (by decide) ?_
        refine kq_l hw hS hA (va_runV (As := [.int 3]) (rest := [.ref qa901]) ⟨hx, hb, hml, hown, hT⟩ (cX5_take_0 l G cy ev K ln Ls hW _ hp0 ok0 qa900 3 kd900) (cwV 1 hT (good_V tb_862 tb_859 tb_861 tb_10 tb_109) rfl rfl rfl (by decide +kernel) ⟨Nat.le_of_ble_eq_true rfl, Nat.le_of_ble_eq_true rfl⟩) (pool_preV (ci := 5) hK hE hS hA hw hW kd900 (by decide) rfl) rfl rfl hl.1 rfl (lv_room (Nat.le_of_ble_eq_true rfl)) dX5_unit_72 ⟨Nat.le_of_ble_eq_true rfl, Nat.le_of_ble_eq_true rfl⟩) (fun wl27 hp23 H locs hq26 hw hS => ?_)
        obtain ⟨ok24, F25⟩ := hq26
        have hw : PW G cy K ln Ls A hp23 H := hw
        refine lv_l2i hx hb dX5_unit_75 rfl (lv_topi (fun zi28 ea29 => ?_))
        refine kq_v hw hS hA (va_runV (As := [.int zi28]) (rest := []) ⟨hx, hb, hml, hown, hT⟩ (cX2_add_0 l G cy ev K ln Ls hW _ hp23 ok24 qa901 zi28 kd901) (cwV 1 hT (good_V tb_404 tb_960 tb_402 tb_403 tb_108) rfl rfl rfl (by decide +kernel) ⟨Nat.le_of_ble_eq_true rfl, Nat.le_of_ble_eq_true rfl⟩) (pool_preV (ci := 2) hK hE hS hA hw hW kd901 (by decide) rfl) rfl rfl hl.1 rfl (lv_room (Nat.le_of_ble_eq_true rfl)) dX5_unit_76 ⟨Nat.le_of_ble_eq_true rfl, Nat.le_of_ble_eq_true rfl⟩) (fun hp30 H locs hq33 hw hS => ?_)
        obtain ⟨ok31, F32⟩ := hq33
        have hw : PW G cy K ln Ls A hp30 H := hw
        rw [hQ]
        exact kz_v hx hb hr hlocks hS hp30 hw ⟨ok31, (Fr.tr (Fr.tr (Fr.rf) F25 (by decide)) F32 (by decide))⟩ (Nat.le_of_ble_eq_true rfl) (Nat.le_of_ble_eq_true rfl) dX5_unit_79
      · skip
        have bd35 : (114 : Int) ≤ zi2.toInt ∧ zi2.toInt ≤ 2147483647 := r_le_y (Int32.not_lt.mp cn21) bc_114 (b_all zi2) (by decide) (by decide)
        refine lv_iload_n hx hb dX5_unit_48 rfl (lv_at hl 0 rfl) ?_
        refine lv_bipush (v := 117) hx hb dX5_unit_49 (by decide) ?_
        refine lv_icmp_gt (tgt := 69) hx hb dX5_unit_51 (by decide) (fun cn36 => ?_) (fun cn36 => ?_)
        · skip
          have bd37 : (118 : Int) ≤ zi2.toInt ∧ zi2.toInt ≤ 2147483647 := r_lt_y cn36 bc_117 bd35 (by decide) (by decide)
          refine lv_aload_n hx hb dX5_unit_69 rfl (lv_at hl 2 rfl) ?_
          refine lv_aload_n hx hb dX5_unit_70 rfl (lv_at hl 1 rfl) ?_
          refine lv_iconst (v := 3) hx hb dX5_unit_71 (by decide) ?_
          refine kq_l hw hS hA (va_runV (As := [.int 3]) (rest := [.ref qa901]) ⟨hx, hb, hml, hown, hT⟩ (cX5_take_0 l G cy ev K ln Ls hW _ hp0 ok0 qa900 3 kd900) (cwV 1 hT (good_V tb_862 tb_859 tb_861 tb_10 tb_109) rfl rfl rfl (by decide +kernel) ⟨Nat.le_of_ble_eq_true rfl, Nat.le_of_ble_eq_true rfl⟩) (pool_preV (ci := 5) hK hE hS hA hw hW kd900 (by decide) rfl) rfl rfl hl.1 rfl (lv_room (Nat.le_of_ble_eq_true rfl)) dX5_unit_72 ⟨Nat.le_of_ble_eq_true rfl, Nat.le_of_ble_eq_true rfl⟩) (fun wl42 hp38 H locs hq41 hw hS => ?_)
          obtain ⟨ok39, F40⟩ := hq41
          have hw : PW G cy K ln Ls A hp38 H := hw
          refine lv_l2i hx hb dX5_unit_75 rfl (lv_topi (fun zi43 ea44 => ?_))
          refine kq_v hw hS hA (va_runV (As := [.int zi43]) (rest := []) ⟨hx, hb, hml, hown, hT⟩ (cX2_add_0 l G cy ev K ln Ls hW _ hp38 ok39 qa901 zi43 kd901) (cwV 1 hT (good_V tb_404 tb_960 tb_402 tb_403 tb_108) rfl rfl rfl (by decide +kernel) ⟨Nat.le_of_ble_eq_true rfl, Nat.le_of_ble_eq_true rfl⟩) (pool_preV (ci := 2) hK hE hS hA hw hW kd901 (by decide) rfl) rfl rfl hl.1 rfl (lv_room (Nat.le_of_ble_eq_true rfl)) dX5_unit_76 ⟨Nat.le_of_ble_eq_true rfl, Nat.le_of_ble_eq_true rfl⟩) (fun hp45 H locs hq48 hw hS => ?_)
          obtain ⟨ok46, F47⟩ := hq48
          have hw : PW G cy K ln Ls A hp45 H := hw
          rw [hQ]
          exact kz_v hx hb hr hlocks hS hp45 hw ⟨ok46, (Fr.tr (Fr.tr (Fr.rf) F40 (by decide)) F47 (by decide))⟩ (Nat.le_of_ble_eq_true rfl) (Nat.le_of_ble_eq_true rfl) dX5_unit_79
        · skip
          have bd50 : (114 : Int) ≤ zi2.toInt ∧ zi2.toInt ≤ 117 := r_le_x (Int32.not_lt.mp cn36) bd35 bc_117 (by decide) (by decide)
          refine lv_aload_n hx hb dX5_unit_54 rfl (lv_at hl 1 rfl) ?_
          refine lv_iload_n hx hb dX5_unit_55 rfl (lv_at hl 0 rfl) ?_
          refine kq_i hw hS hA (va_runV (As := [.int zi2]) (rest := []) ⟨hx, hb, hml, hown, hT⟩ (cX5_accept_0 l G cy ev K ln Ls hW _ hp0 ok0 qa900 zi2 kd900) (cwV 1 hT (good_V tb_854 tb_851 tb_853 tb_8 tb_109) rfl rfl rfl (by decide +kernel) ⟨Nat.le_of_ble_eq_true rfl, Nat.le_of_ble_eq_true rfl⟩) (pool_preV (ci := 5) hK hE hS hA hw hW kd900 (by decide) rfl) rfl rfl hl.1 rfl (lv_room (Nat.le_of_ble_eq_true rfl)) dX5_unit_56 ⟨Nat.le_of_ble_eq_true rfl, Nat.le_of_ble_eq_true rfl⟩) (fun zi55 hp51 H locs hq54 hw hS => ?_)
          obtain ⟨ok52, F53, bd56, hc57, hc58⟩ := hq54
          have hw : PW G cy K ln Ls A hp51 H := hw
          refine lv_pop hx hb dX5_unit_59 rfl ?_
          refine lv_aload_n hx hb dX5_unit_60 rfl (lv_at hl 2 rfl) ?_
          refine lv_iload_n hx hb dX5_unit_61 rfl (lv_at hl 0 rfl) ?_
          refine lv_ineg hx hb dX5_unit_62 (lv_topi (fun zi59 ea60 => ?_))
          refine kq_v hw hS hA (va_runV (As := [.int zi59]) (rest := []) ⟨hx, hb, hml, hown, hT⟩ (cX2_add_0 l G cy ev K ln Ls hW _ hp51 ok52 qa901 zi59 kd901) (cwV 1 hT (good_V tb_404 tb_960 tb_402 tb_403 tb_108) rfl rfl rfl (by decide +kernel) ⟨Nat.le_of_ble_eq_true rfl, Nat.le_of_ble_eq_true rfl⟩) (pool_preV (ci := 2) hK hE hS hA hw hW kd901 (by decide) rfl) rfl rfl hl.1 rfl (lv_room (Nat.le_of_ble_eq_true rfl)) dX5_unit_63 ⟨Nat.le_of_ble_eq_true rfl, Nat.le_of_ble_eq_true rfl⟩) (fun hp61 H locs hq64 hw hS => ?_)
          obtain ⟨ok62, F63⟩ := hq64
          have hw : PW G cy K ln Ls A hp61 H := hw
          refine lv_goto (tgt := 79) hx hb dX5_unit_66 (by decide) ?_
          rw [hQ]
          exact kz_v hx hb hr hlocks hS hp61 hw ⟨ok62, (Fr.tr (Fr.tr (Fr.rf) F53 (by decide)) F63 (by decide))⟩ (Nat.le_of_ble_eq_true rfl) (Nat.le_of_ble_eq_true rfl) dX5_unit_79
  · skip
    have bd66 : (40 : Int) ≤ zi2.toInt ∧ zi2.toInt ≤ 40 := r_eq_x cn3 (b_all zi2) bc_40 (by decide) (by decide)
    refine lv_aload_n hx hb dX5_unit_11 rfl (lv_at hl 1 rfl) ?_
    refine lv_iload_n hx hb dX5_unit_12 rfl (lv_at hl 3 rfl) ?_
    refine kq_i hw hS hA (va_runV (As := [.int zi902]) (rest := []) ⟨hx, hb, hml, hown, hT⟩ (cX5_enter_3 l G cy ev K ln Ls hW _ hp0 ok0 qa900 zi902 kd900 (b_wid2 bd902 (by decide) (by decide))) (cwV 1 hT (good_V tb_922 tb_919 tb_921 tb_18 tb_109) rfl rfl rfl (by decide +kernel) ⟨Nat.le_of_ble_eq_true rfl, Nat.le_of_ble_eq_true rfl⟩) (pool_preV (ci := 5) hK hE hS hA hw hW kd900 (by decide) rfl) rfl rfl hl.1 rfl (lv_room (Nat.le_of_ble_eq_true rfl)) dX5_unit_13 ⟨Nat.le_of_ble_eq_true rfl, Nat.le_of_ble_eq_true rfl⟩) (fun zi71 hp67 H locs hq70 hw hS => ?_)
    obtain ⟨ok68, F69, bd72, hc73, hc74⟩ := hq70
    have hw : PW G cy K ln Ls A hp67 H := hw
    have jn95 : ∀ (hp92 : Nat → Nat → Value)  (H : Heap) (locs : List Loc) (ls : Array Slot), Ok K hp92 → Fr [3002, 6002, 6003, 6004, 26000] K hp67 hp92 → lv_has ls 4 [(0, .ref qa900)] → PW G cy K ln Ls A hp92 H → va_S A s.heap H locs → W p l e ({ frames := 11, cells := 0, slots := 0, locals := 255 } : Room) s m ([.ref qa900, .ref qa901, .int zi902] : List Value).toArray below meth c H locs 0 0 Q (F0 m 27 ls []) := by
      intro hp92 H locs ls ok94 F93 hl hw hS
      refine lv_aload_n hx hb dX5_unit_27 rfl (lv_at hl 0 rfl) ?_
      refine lv_bipush (v := 41) hx hb dX5_unit_28 (by decide) ?_
      refine kq_v hw hS hA (va_runV (As := [.int 41]) (rest := []) ⟨hx, hb, hml, hown, hT⟩ (cX5_expect_0 l G cy ev K ln Ls hW _ hp92 ok94 qa900 41 kd900) (cwV 1 hT (good_V tb_889 tb_886 tb_888 tb_12 tb_109) rfl rfl rfl (by decide +kernel) ⟨Nat.le_of_ble_eq_true rfl, Nat.le_of_ble_eq_true rfl⟩) (pool_preV (ci := 5) hK hE hS hA hw hW kd900 (by decide) rfl) rfl rfl hl.1 rfl (lv_room (Nat.le_of_ble_eq_true rfl)) dX5_unit_30 ⟨Nat.le_of_ble_eq_true rfl, Nat.le_of_ble_eq_true rfl⟩) (fun hp96 H locs hq99 hw hS => ?_)
      obtain ⟨ok97, F98⟩ := hq99
      have hw : PW G cy K ln Ls A hp96 H := hw
      refine lv_goto (tgt := 79) hx hb dX5_unit_33 (by decide) ?_
      rw [hQ]
      exact kz_v hx hb hr hlocks hS hp96 hw ⟨ok97, (Fr.tr (Fr.tr (Fr.tr (Fr.rf) F69 (by decide)) F93 (by decide)) F98 (by decide))⟩ (Nat.le_of_ble_eq_true rfl) (Nat.le_of_ble_eq_true rfl) dX5_unit_79
    rcases b01 bd72 with cn75 | cn75
    · skip
      subst cn75
      refine lv_if_eq (tgt := 27) hx hb dX5_unit_16 (by decide) (fun _ => ?_) (fun c => absurd (d_eq bc_0 bc_0) c)
      exact jn95 hp67 _ _ ls ok68 (Fr.rf) (lv_sub hl [1] rfl) hw hS
    · skip
      subst cn75
      obtain ⟨zi101, eq102, bd103⟩ := hc73 rfl
      obtain ⟨zi104, eq105, bd106⟩ := hc74 rfl
      refine lv_if_eq (tgt := 27) hx hb dX5_unit_16 (by decide) (fun c => absurd c (d_ne bc_1 bc_0 (by decide))) (fun _ => ?_)
      refine lv_aload_n hx hb dX5_unit_19 rfl (lv_at hl 1 rfl) ?_
      refine lv_aload_n hx hb dX5_unit_20 rfl (lv_at hl 2 rfl) ?_
      refine lv_iload_n hx hb dX5_unit_21 rfl (lv_at hl 3 rfl) ?_
      refine lv_iconst (v := 1) hx hb dX5_unit_22 (by decide) ?_
      refine lv_iadd hx hb dX5_unit_23 (lv_topi (fun zi107 ea108 => ?_))
      have bd109 : (4 : Int) ≤ zi107.toInt ∧ zi107.toInt ≤ 4 := b_iadd ea108 bd902 bc_1 (by decide) (by decide) (by decide) (by decide)
      have qe110 : zi107.toInt = (zi902 : Int32).toInt + (1 : Int32).toInt := e_iadd ea108 bd902 bc_1 (by decide) (by decide)
      have qe111 : zi107.toInt = zi902.toInt + 1 := by have ha : (1 : Int32).toInt = 1 := (by decide); rw [ha] at qe110; exact qe110
      refine kq_v hw hS hA (va_runV (As := [.ref qa901, .int zi107]) (rest := []) ⟨hx, hb, hml, hown, hT⟩ (cX5_sum_2 l G cy ev K ln Ls hW _ hp67 ok68 qa900 qa901 zi107 kd900 kd901 (b_wid2 bd109 (by decide) (by decide))) (cwV 2 hT (good_V tb_951 tb_948 tb_950 tb_22 tb_109) rfl rfl rfl (by decide +kernel) ⟨Nat.le_of_ble_eq_true rfl, Nat.le_of_ble_eq_true rfl⟩) (pool_preV (ci := 5) hK hE hS hA hw hW kd900 (by decide) rfl) rfl rfl hl.1 rfl (lv_room (Nat.le_of_ble_eq_true rfl)) dX5_unit_24 ⟨Nat.le_of_ble_eq_true rfl, Nat.le_of_ble_eq_true rfl⟩) (fun hp112 H locs hq115 hw hS => ?_)
      obtain ⟨ok113, F114⟩ := hq115
      have hw : PW G cy K ln Ls A hp112 H := hw
      exact jn95 hp112 _ _ ls ok113 (Fr.tr (Fr.rf) F114 (by decide)) (lv_sub hl [1] rfl) hw hS

set_option maxRecDepth 100000 in
set_option maxHeartbeats 4000000 in
theorem cX5_product_3 (l : Launch) (G : va_G) (cy : Nat → ClassId) (ev : Ew) (K ln : Nat → Nat) (Ls : List Nat) (hW : SW K ln Ls) (sz : Nat) (hp0 : Nat → Nat → Value) (ok0 : Ok K hp0) (qa900 : Nat) (qa901 : Nat) (zi902 : Int32) (kd900 : K qa900 = 6) (kd901 : K qa901 = 3) (bd902 : ((3 : Int) ≤ zi902.toInt ∧ zi902.toInt ≤ 3)) : Met l yX5_product (WS yX5_product cX5_product 5 none) { frames := 12, cells := 0, slots := 0, locals := 278 } (PB2 [.ref qa900, .ref qa901, .int zi902] sz G cy ev (va_pl Ls (cellOf cy K ln hp0))) (QBv (S := (Nat → Nat → Value)) (fun u : (Nat → Nat → Value) => Ok K u ∧ Fr [3002, 6002, 6003, 6004, 26000] K hp0 u) G (fun u => va_pl Ls (cellOf cy K ln u)) (va_A (va_pl Ls (cellOf cy K ln hp0)) sz)) 0 0 (va_A (va_pl Ls (cellOf cy K ln hp0)) sz) := by
  refine met_of2 (y := yX5_product) (L := 5) (av := [.ref qa900, .ref qa901, .int zi902]) (Qc := fun A => QBv (S := (Nat → Nat → Value)) (fun u : (Nat → Nat → Value) => Ok K u ∧ Fr [3002, 6002, 6003, 6004, 26000] K hp0 u) G (fun u => va_pl Ls (cellOf cy K ln u)) A) (plainFor_of_name (by decide)) (Nat.le_of_ble_eq_true rfl) ?_
  intro p e s m below meth c hsz hx hb hr hml hown hT hlocks hin hK A hA hE hw hS ls hl
  have hw : PW G cy K ln Ls A hp0 s.heap := hw
  have hown : s.vm.findClass "LieClock$Parser" = some m.cls := hown
  have hl : lv_has ls 5 [(0, .ref qa900), (1, .ref qa901), (2, .int zi902)] := hl
  obtain ⟨Q, hQ⟩ : ∃ Q : State → Prop, Q = MQ below (QBv (S := (Nat → Nat → Value)) (fun u : (Nat → Nat → Value) => Ok K u ∧ Fr [3002, 6002, 6003, 6004, 26000] K hp0 u) G (fun u => va_pl Ls (cellOf cy K ln u)) A) ([.ref qa900, .ref qa901, .int zi902] : List Value).toArray s 0 0 A := ⟨_, rfl⟩
  rw [← hQ]
  refine lv_aload_n hx hb dX5_product_0 rfl (lv_at hl 0 rfl) ?_
  refine lv_aload_n hx hb dX5_product_1 rfl (lv_at hl 1 rfl) ?_
  refine lv_iload_n hx hb dX5_product_2 rfl (lv_at hl 2 rfl) ?_
  refine kq_v hw hS hA (va_runV (As := [.ref qa901, .int zi902]) (rest := []) ⟨hx, hb, hml, hown, hT⟩ (cX5_unit_3 l G cy ev K ln Ls hW _ hp0 ok0 qa900 qa901 zi902 kd900 kd901 (b_wid2 bd902 (by decide) (by decide))) (cwV 2 hT (good_V tb_959 tb_956 tb_958 tb_24 tb_109) rfl rfl rfl (by decide +kernel) ⟨Nat.le_of_ble_eq_true rfl, Nat.le_of_ble_eq_true rfl⟩) (pool_preV (ci := 5) hK hE hS hA hw hW kd900 (by decide) rfl) rfl rfl hl.1 rfl (lv_room (Nat.le_of_ble_eq_true rfl)) dX5_product_3 ⟨Nat.le_of_ble_eq_true rfl, Nat.le_of_ble_eq_true rfl⟩) (fun hp1 H locs hq4 hw hS => ?_)
  obtain ⟨ok2, F3⟩ := hq4
  have hw : PW G cy K ln Ls A hp1 H := hw
  refine lv_iconst (v := 0) hx hb dX5_product_6 (by decide) ?_
  refine lv_istore_n (lv' := [(3, .int 0), (0, .ref qa900), (1, .ref qa901), (2, .int zi902)]) hx hb dX5_product_7 rfl hl (by decide) rfl (fun ls hl => ?_)
  have jn611 : ∀ (hp608 : Nat → Nat → Value)  (H : Heap) (locs : List Loc) (ls : Array Slot), Ok K hp608 → Fr [3002, 6002, 6003, 6004, 26000] K hp1 hp608 → lv_has ls 5 [] → PW G cy K ln Ls A hp608 H → va_S A s.heap H locs → W p l e ({ frames := 12, cells := 0, slots := 0, locals := 278 } : Room) s m ([.ref qa900, .ref qa901, .int zi902] : List Value).toArray below meth c H locs 0 0 Q (F0 m 65 ls []) := by
    intro hp608 H locs ls ok610 F609 hl hw hS
    rw [hQ]
    exact kz_v hx hb hr hlocks hS hp608 hw ⟨ok610, (Fr.tr (Fr.tr (Fr.rf) F3 (by decide)) F609 (by decide))⟩ (Nat.le_of_ble_eq_true rfl) (Nat.le_of_ble_eq_true rfl) dX5_product_65
  have lp614 : ∀ (n612 : Nat) (hp486 : Nat → Nat → Value) (zi485 : Int32) (H : Heap) (locs : List Loc) (ls : Array Slot), 401 - zi485.toInt < (n612 : Int) → Ok K hp486 → Fr [3002, 6002, 6003, 6004, 26000] K hp1 hp486 → ((0 : Int) ≤ zi485.toInt ∧ zi485.toInt ≤ 401) → lv_has ls 5 [(0, .ref qa900), (1, .ref qa901), (2, .int zi902), (3, .int zi485)] → PW G cy K ln Ls A hp486 H → va_S A s.heap H locs → W p l e ({ frames := 12, cells := 0, slots := 0, locals := 278 } : Room) s m ([.ref qa900, .ref qa901, .int zi902] : List Value).toArray below meth c H locs 0 0 Q (F0 m 8 ls []) := by
    intro n612
    induction n612 with
    | zero =>
      intro hp486 zi485 H locs ls hm615 ok488 F487 bd489 hl hw hS
      exact absurd hm615 (by have := bd489; omega)
    | succ n612 ih613 =>
      intro hp486 zi485 H locs ls hm615 ok488 F487 bd489 hl hw hS
      refine lv_iload_n hx hb dX5_product_8 rfl (lv_at hl 3 rfl) ?_
      refine lv_sipush (v := 400) hx hb dX5_product_9 (by decide) ?_
      refine lv_icmp_gt (tgt := 65) hx hb dX5_product_12 (by decide) (fun cn616 => ?_) (fun cn616 => ?_)
      · skip
        have bd617 : (401 : Int) ≤ zi485.toInt ∧ zi485.toInt ≤ 401 := r_lt_y cn616 bc_400 bd489 (by decide) (by decide)
        exact jn611 hp486 _ _ ls ok488 (Fr.tr (Fr.rf) F487 (by decide)) (lv_sub hl [] rfl) hw hS
      · skip
        have bd618 : (0 : Int) ≤ zi485.toInt ∧ zi485.toInt ≤ 400 := r_le_x (Int32.not_lt.mp cn616) bd489 bc_400 (by decide) (by decide)
        refine lv_aload_n hx hb dX5_product_15 rfl (lv_at hl 0 rfl) ?_
        obtain ⟨zi620, eq619⟩ := rd_6003 ok488 kd900
        refine p_get (ci := 5) (v := .int zi620) (C := RX5) (T := TX5) (N := 7) hx hb hT iw_X5 hown hK hw hW kd900 (by decide) rfl rfl 3 (by decide) eq619 (hT _ tb_374) (fun _ h9 => h9) dX5_product_16 ?_
        refine lv_bipush (v := 42) hx hb dX5_product_19 (by decide) ?_
        refine lv_icmp_eq (tgt := 33) hx hb dX5_product_21 (by decide) (fun cn621 => ?_) (fun cn621 => ?_)
        · skip
          have bd622 : (42 : Int) ≤ zi620.toInt ∧ zi620.toInt ≤ 42 := r_eq_x cn621 (b_all zi620) bc_42 (by decide) (by decide)
          refine lv_aload_n hx hb dX5_product_33 rfl (lv_at hl 0 rfl) ?_
          refine p_get (ci := 5) (v := .int zi620) (C := RX5) (T := TX5) (N := 7) hx hb hT iw_X5 hown hK hw hW kd900 (by decide) rfl rfl 3 (by decide) eq619 (hT _ tb_374) (fun _ h9 => h9) dX5_product_34 ?_
          refine lv_istore (lv' := [(4, .int zi620), (0, .ref qa900), (1, .ref qa901), (2, .int zi902), (3, .int zi485)]) hx hb dX5_product_37 hl (by decide) rfl (fun ls hl => ?_)
          refine lv_aload_n hx hb dX5_product_39 rfl (lv_at hl 1 rfl) ?_
          refine lv_iload hx hb dX5_product_40 (lv_at hl 0 rfl) ?_
          refine kq_i hw hS hA (va_runV (As := [.int zi620]) (rest := []) ⟨hx, hb, hml, hown, hT⟩ (cX5_accept_0 l G cy ev K ln Ls hW _ hp486 ok488 qa900 zi620 kd900) (cwV 1 hT (good_V tb_854 tb_851 tb_853 tb_8 tb_109) rfl rfl rfl (by decide +kernel) ⟨Nat.le_of_ble_eq_true rfl, Nat.le_of_ble_eq_true rfl⟩) (pool_preV (ci := 5) hK hE hS hA hw hW kd900 (by decide) rfl) rfl rfl hl.1 rfl (lv_room (Nat.le_of_ble_eq_true rfl)) dX5_product_42 ⟨Nat.le_of_ble_eq_true rfl, Nat.le_of_ble_eq_true rfl⟩) (fun zi627 hp623 H locs hq626 hw hS => ?_)
          obtain ⟨ok624, F625, bd628, hc629, hc630⟩ := hq626
          have hw : PW G cy K ln Ls A hp623 H := hw
          refine lv_pop hx hb dX5_product_45 rfl ?_
          refine lv_aload_n hx hb dX5_product_46 rfl (lv_at hl 1 rfl) ?_
          refine lv_aload_n hx hb dX5_product_47 rfl (lv_at hl 2 rfl) ?_
          refine lv_iload_n hx hb dX5_product_48 rfl (lv_at hl 3 rfl) ?_
          refine kq_v hw hS hA (va_runV (As := [.ref qa901, .int zi902]) (rest := []) ⟨hx, hb, hml, hown, hT⟩ (cX5_unit_3 l G cy ev K ln Ls hW _ hp623 ok624 qa900 qa901 zi902 kd900 kd901 (b_wid2 bd902 (by decide) (by decide))) (cwV 2 hT (good_V tb_959 tb_956 tb_958 tb_24 tb_109) rfl rfl rfl (by decide +kernel) ⟨Nat.le_of_ble_eq_true rfl, Nat.le_of_ble_eq_true rfl⟩) (pool_preV (ci := 5) hK hE hS hA hw hW kd900 (by decide) rfl) rfl rfl hl.1 rfl (lv_room (Nat.le_of_ble_eq_true rfl)) dX5_product_49 ⟨Nat.le_of_ble_eq_true rfl, Nat.le_of_ble_eq_true rfl⟩) (fun hp631 H locs hq634 hw hS => ?_)
          obtain ⟨ok632, F633⟩ := hq634
          have hw : PW G cy K ln Ls A hp631 H := hw
          refine lv_aload_n hx hb dX5_product_52 rfl (lv_at hl 2 rfl) ?_
          refine lv_iload hx hb dX5_product_53 (lv_at hl 0 rfl) ?_
          refine lv_ineg hx hb dX5_product_55 (lv_topi (fun zi636 ea637 => ?_))
          refine kq_v hw hS hA (va_runV (As := [.int zi636]) (rest := []) ⟨hx, hb, hml, hown, hT⟩ (cX2_add_0 l G cy ev K ln Ls hW _ hp631 ok632 qa901 zi636 kd901) (cwV 1 hT (good_V tb_404 tb_960 tb_402 tb_403 tb_108) rfl rfl rfl (by decide +kernel) ⟨Nat.le_of_ble_eq_true rfl, Nat.le_of_ble_eq_true rfl⟩) (pool_preV (ci := 2) hK hE hS hA hw hW kd901 (by decide) rfl) rfl rfl hl.1 rfl (lv_room (Nat.le_of_ble_eq_true rfl)) dX5_product_56 ⟨Nat.le_of_ble_eq_true rfl, Nat.le_of_ble_eq_true rfl⟩) (fun hp638 H locs hq641 hw hS => ?_)
          obtain ⟨ok639, F640⟩ := hq641
          have hw : PW G cy K ln Ls A hp638 H := hw
          obtain ⟨zi643, ea644⟩ : ∃ z : Int32, z = zi485 + 1 := ⟨_, rfl⟩
          have bd645 : (1 : Int) ≤ zi643.toInt ∧ zi643.toInt ≤ 401 := b_iadd ea644 bd618 bc_1 (by decide) (by decide) (by decide) (by decide)
          have qe646 : zi643.toInt = (zi485 : Int32).toInt + (1 : Int32).toInt := e_iadd ea644 bd618 bc_1 (by decide) (by decide)
          have qe647 : zi643.toInt = zi485.toInt + 1 := by have ha : (1 : Int32).toInt = 1 := (by decide); rw [ha] at qe646; exact qe646
          refine lv_iinc (v := zi643) (lv' := [(3, .int zi643), (4, .int zi620), (0, .ref qa900), (1, .ref qa901), (2, .int zi902)]) hx hb dX5_product_59 hl (k := 4) rfl ea644.symm (by decide) rfl (fun ls hl => ?_)
          refine lv_goto (tgt := 8) hx hb dX5_product_62 (by decide) ?_
          exact ih613 hp638 zi643 _ _ ls (by have := hm615; have := qe647; omega) ok639 (Fr.tr (Fr.tr (Fr.tr (Fr.tr (Fr.rf) F487 (by decide)) F625 (by decide)) F633 (by decide)) F640 (by decide)) (b_wid2 bd645 (by decide) (by decide)) (lv_sub hl [2, 3, 4, 0] rfl) hw hS
        · skip
          refine lv_aload_n hx hb dX5_product_24 rfl (lv_at hl 0 rfl) ?_
          refine p_get (ci := 5) (v := .int zi620) (C := RX5) (T := TX5) (N := 7) hx hb hT iw_X5 hown hK hw hW kd900 (by decide) rfl rfl 3 (by decide) eq619 (hT _ tb_374) (fun _ h9 => h9) dX5_product_25 ?_
          refine lv_bipush (v := 47) hx hb dX5_product_28 (by decide) ?_
          refine lv_icmp_ne (tgt := 65) hx hb dX5_product_30 (by decide) (fun cn648 => ?_) (fun cn648 => ?_)
          · skip
            exact jn611 hp486 _ _ ls ok488 (Fr.tr (Fr.rf) F487 (by decide)) (lv_sub hl [] rfl) hw hS
          · skip
            have bd649 : (47 : Int) ≤ zi620.toInt ∧ zi620.toInt ≤ 47 := r_eq_x cn648 (b_all zi620) bc_47 (by decide) (by decide)
            refine lv_aload_n hx hb dX5_product_33 rfl (lv_at hl 0 rfl) ?_
            refine p_get (ci := 5) (v := .int zi620) (C := RX5) (T := TX5) (N := 7) hx hb hT iw_X5 hown hK hw hW kd900 (by decide) rfl rfl 3 (by decide) eq619 (hT _ tb_374) (fun _ h9 => h9) dX5_product_34 ?_
            refine lv_istore (lv' := [(4, .int zi620), (0, .ref qa900), (1, .ref qa901), (2, .int zi902), (3, .int zi485)]) hx hb dX5_product_37 hl (by decide) rfl (fun ls hl => ?_)
            refine lv_aload_n hx hb dX5_product_39 rfl (lv_at hl 1 rfl) ?_
            refine lv_iload hx hb dX5_product_40 (lv_at hl 0 rfl) ?_
            refine kq_i hw hS hA (va_runV (As := [.int zi620]) (rest := []) ⟨hx, hb, hml, hown, hT⟩ (cX5_accept_0 l G cy ev K ln Ls hW _ hp486 ok488 qa900 zi620 kd900) (cwV 1 hT (good_V tb_854 tb_851 tb_853 tb_8 tb_109) rfl rfl rfl (by decide +kernel) ⟨Nat.le_of_ble_eq_true rfl, Nat.le_of_ble_eq_true rfl⟩) (pool_preV (ci := 5) hK hE hS hA hw hW kd900 (by decide) rfl) rfl rfl hl.1 rfl (lv_room (Nat.le_of_ble_eq_true rfl)) dX5_product_42 ⟨Nat.le_of_ble_eq_true rfl, Nat.le_of_ble_eq_true rfl⟩) (fun zi654 hp650 H locs hq653 hw hS => ?_)
            obtain ⟨ok651, F652, bd655, hc656, hc657⟩ := hq653
            have hw : PW G cy K ln Ls A hp650 H := hw
            refine lv_pop hx hb dX5_product_45 rfl ?_
            refine lv_aload_n hx hb dX5_product_46 rfl (lv_at hl 1 rfl) ?_
            refine lv_aload_n hx hb dX5_product_47 rfl (lv_at hl 2 rfl) ?_
            refine lv_iload_n hx hb dX5_product_48 rfl (lv_at hl 3 rfl) ?_
            refine kq_v hw hS hA (va_runV (As := [.ref qa901, .int zi902]) (rest := []) ⟨hx, hb, hml, hown, hT⟩ (cX5_unit_3 l G cy ev K ln Ls hW _ hp650 ok651 qa900 qa901 zi902 kd900 kd901 (b_wid2 bd902 (by decide) (by decide))) (cwV 2 hT (good_V tb_959 tb_956 tb_958 tb_24 tb_109) rfl rfl rfl (by decide +kernel) ⟨Nat.le_of_ble_eq_true rfl, Nat.le_of_ble_eq_true rfl⟩) (pool_preV (ci := 5) hK hE hS hA hw hW kd900 (by decide) rfl) rfl rfl hl.1 rfl (lv_room (Nat.le_of_ble_eq_true rfl)) dX5_product_49 ⟨Nat.le_of_ble_eq_true rfl, Nat.le_of_ble_eq_true rfl⟩) (fun hp658 H locs hq661 hw hS => ?_)
            obtain ⟨ok659, F660⟩ := hq661
            have hw : PW G cy K ln Ls A hp658 H := hw
            refine lv_aload_n hx hb dX5_product_52 rfl (lv_at hl 2 rfl) ?_
            refine lv_iload hx hb dX5_product_53 (lv_at hl 0 rfl) ?_
            refine lv_ineg hx hb dX5_product_55 (lv_topi (fun zi663 ea664 => ?_))
            refine kq_v hw hS hA (va_runV (As := [.int zi663]) (rest := []) ⟨hx, hb, hml, hown, hT⟩ (cX2_add_0 l G cy ev K ln Ls hW _ hp658 ok659 qa901 zi663 kd901) (cwV 1 hT (good_V tb_404 tb_960 tb_402 tb_403 tb_108) rfl rfl rfl (by decide +kernel) ⟨Nat.le_of_ble_eq_true rfl, Nat.le_of_ble_eq_true rfl⟩) (pool_preV (ci := 2) hK hE hS hA hw hW kd901 (by decide) rfl) rfl rfl hl.1 rfl (lv_room (Nat.le_of_ble_eq_true rfl)) dX5_product_56 ⟨Nat.le_of_ble_eq_true rfl, Nat.le_of_ble_eq_true rfl⟩) (fun hp665 H locs hq668 hw hS => ?_)
            obtain ⟨ok666, F667⟩ := hq668
            have hw : PW G cy K ln Ls A hp665 H := hw
            obtain ⟨zi670, ea671⟩ : ∃ z : Int32, z = zi485 + 1 := ⟨_, rfl⟩
            have bd672 : (1 : Int) ≤ zi670.toInt ∧ zi670.toInt ≤ 401 := b_iadd ea671 bd618 bc_1 (by decide) (by decide) (by decide) (by decide)
            have qe673 : zi670.toInt = (zi485 : Int32).toInt + (1 : Int32).toInt := e_iadd ea671 bd618 bc_1 (by decide) (by decide)
            have qe674 : zi670.toInt = zi485.toInt + 1 := by have ha : (1 : Int32).toInt = 1 := (by decide); rw [ha] at qe673; exact qe673
            refine lv_iinc (v := zi670) (lv' := [(3, .int zi670), (4, .int zi620), (0, .ref qa900), (1, .ref qa901), (2, .int zi902)]) hx hb dX5_product_59 hl (k := 4) rfl ea671.symm (by decide) rfl (fun ls hl => ?_)
            refine lv_goto (tgt := 8) hx hb dX5_product_62 (by decide) ?_
            exact ih613 hp665 zi670 _ _ ls (by have := hm615; have := qe674; omega) ok666 (Fr.tr (Fr.tr (Fr.tr (Fr.tr (Fr.rf) F487 (by decide)) F652 (by decide)) F660 (by decide)) F667 (by decide)) (b_wid2 bd672 (by decide) (by decide)) (lv_sub hl [2, 3, 4, 0] rfl) hw hS
  exact lp614 _ hp1 0 _ _ ls (lp_in _) ok2 (Fr.rf) (b_wid2 bc_0 (by decide) (by decide)) (lv_sub hl [1, 2, 3, 0] rfl) hw hS

set_option maxRecDepth 100000 in
set_option maxHeartbeats 4000000 in
theorem cX5_sum_3 (l : Launch) (G : va_G) (cy : Nat → ClassId) (ev : Ew) (K ln : Nat → Nat) (Ls : List Nat) (hW : SW K ln Ls) (sz : Nat) (hp0 : Nat → Nat → Value) (ok0 : Ok K hp0) (qa900 : Nat) (qa901 : Nat) (zi902 : Int32) (kd900 : K qa900 = 6) (kd901 : K qa901 = 3) (bd902 : ((3 : Int) ≤ zi902.toInt ∧ zi902.toInt ≤ 3)) : Met l yX5_sum (WS yX5_sum cX5_sum 5 none) { frames := 13, cells := 0, slots := 0, locals := 302 } (PB2 [.ref qa900, .ref qa901, .int zi902] sz G cy ev (va_pl Ls (cellOf cy K ln hp0))) (QBv (S := (Nat → Nat → Value)) (fun u : (Nat → Nat → Value) => Ok K u ∧ Fr [3002, 6002, 6003, 6004, 26000] K hp0 u) G (fun u => va_pl Ls (cellOf cy K ln u)) (va_A (va_pl Ls (cellOf cy K ln hp0)) sz)) 0 0 (va_A (va_pl Ls (cellOf cy K ln hp0)) sz) := by
  refine met_of2 (y := yX5_sum) (L := 5) (av := [.ref qa900, .ref qa901, .int zi902]) (Qc := fun A => QBv (S := (Nat → Nat → Value)) (fun u : (Nat → Nat → Value) => Ok K u ∧ Fr [3002, 6002, 6003, 6004, 26000] K hp0 u) G (fun u => va_pl Ls (cellOf cy K ln u)) A) (plainFor_of_name (by decide)) (Nat.le_of_ble_eq_true rfl) ?_
  intro p e s m below meth c hsz hx hb hr hml hown hT hlocks hin hK A hA hE hw hS ls hl
  have hw : PW G cy K ln Ls A hp0 s.heap := hw
  have hown : s.vm.findClass "LieClock$Parser" = some m.cls := hown
  have hl : lv_has ls 5 [(0, .ref qa900), (1, .ref qa901), (2, .int zi902)] := hl
  obtain ⟨Q, hQ⟩ : ∃ Q : State → Prop, Q = MQ below (QBv (S := (Nat → Nat → Value)) (fun u : (Nat → Nat → Value) => Ok K u ∧ Fr [3002, 6002, 6003, 6004, 26000] K hp0 u) G (fun u => va_pl Ls (cellOf cy K ln u)) A) ([.ref qa900, .ref qa901, .int zi902] : List Value).toArray s 0 0 A := ⟨_, rfl⟩
  rw [← hQ]
  refine lv_aload_n hx hb dX5_sum_0 rfl (lv_at hl 0 rfl) ?_
  refine lv_aload_n hx hb dX5_sum_1 rfl (lv_at hl 1 rfl) ?_
  refine lv_iload_n hx hb dX5_sum_2 rfl (lv_at hl 2 rfl) ?_
  refine kq_v hw hS hA (va_runV (As := [.ref qa901, .int zi902]) (rest := []) ⟨hx, hb, hml, hown, hT⟩ (cX5_product_3 l G cy ev K ln Ls hW _ hp0 ok0 qa900 qa901 zi902 kd900 kd901 (b_wid2 bd902 (by decide) (by decide))) (cwV 2 hT (good_V tb_955 tb_952 tb_954 tb_23 tb_109) rfl rfl rfl (by decide +kernel) ⟨Nat.le_of_ble_eq_true rfl, Nat.le_of_ble_eq_true rfl⟩) (pool_preV (ci := 5) hK hE hS hA hw hW kd900 (by decide) rfl) rfl rfl hl.1 rfl (lv_room (Nat.le_of_ble_eq_true rfl)) dX5_sum_3 ⟨Nat.le_of_ble_eq_true rfl, Nat.le_of_ble_eq_true rfl⟩) (fun hp1 H locs hq4 hw hS => ?_)
  obtain ⟨ok2, F3⟩ := hq4
  have hw : PW G cy K ln Ls A hp1 H := hw
  refine lv_iconst (v := 0) hx hb dX5_sum_6 (by decide) ?_
  refine lv_istore_n (lv' := [(3, .int 0), (0, .ref qa900), (1, .ref qa901), (2, .int zi902)]) hx hb dX5_sum_7 rfl hl (by decide) rfl (fun ls hl => ?_)
  have jn611 : ∀ (hp608 : Nat → Nat → Value)  (H : Heap) (locs : List Loc) (ls : Array Slot), Ok K hp608 → Fr [3002, 6002, 6003, 6004, 26000] K hp1 hp608 → lv_has ls 5 [] → PW G cy K ln Ls A hp608 H → va_S A s.heap H locs → W p l e ({ frames := 13, cells := 0, slots := 0, locals := 302 } : Room) s m ([.ref qa900, .ref qa901, .int zi902] : List Value).toArray below meth c H locs 0 0 Q (F0 m 65 ls []) := by
    intro hp608 H locs ls ok610 F609 hl hw hS
    rw [hQ]
    exact kz_v hx hb hr hlocks hS hp608 hw ⟨ok610, (Fr.tr (Fr.tr (Fr.rf) F3 (by decide)) F609 (by decide))⟩ (Nat.le_of_ble_eq_true rfl) (Nat.le_of_ble_eq_true rfl) dX5_sum_65
  have lp614 : ∀ (n612 : Nat) (hp486 : Nat → Nat → Value) (zi485 : Int32) (H : Heap) (locs : List Loc) (ls : Array Slot), 401 - zi485.toInt < (n612 : Int) → Ok K hp486 → Fr [3002, 6002, 6003, 6004, 26000] K hp1 hp486 → ((0 : Int) ≤ zi485.toInt ∧ zi485.toInt ≤ 401) → lv_has ls 5 [(0, .ref qa900), (1, .ref qa901), (2, .int zi902), (3, .int zi485)] → PW G cy K ln Ls A hp486 H → va_S A s.heap H locs → W p l e ({ frames := 13, cells := 0, slots := 0, locals := 302 } : Room) s m ([.ref qa900, .ref qa901, .int zi902] : List Value).toArray below meth c H locs 0 0 Q (F0 m 8 ls []) := by
    intro n612
    induction n612 with
    | zero =>
      intro hp486 zi485 H locs ls hm615 ok488 F487 bd489 hl hw hS
      exact absurd hm615 (by have := bd489; omega)
    | succ n612 ih613 =>
      intro hp486 zi485 H locs ls hm615 ok488 F487 bd489 hl hw hS
      refine lv_iload_n hx hb dX5_sum_8 rfl (lv_at hl 3 rfl) ?_
      refine lv_sipush (v := 400) hx hb dX5_sum_9 (by decide) ?_
      refine lv_icmp_gt (tgt := 65) hx hb dX5_sum_12 (by decide) (fun cn616 => ?_) (fun cn616 => ?_)
      · skip
        have bd617 : (401 : Int) ≤ zi485.toInt ∧ zi485.toInt ≤ 401 := r_lt_y cn616 bc_400 bd489 (by decide) (by decide)
        exact jn611 hp486 _ _ ls ok488 (Fr.tr (Fr.rf) F487 (by decide)) (lv_sub hl [] rfl) hw hS
      · skip
        have bd618 : (0 : Int) ≤ zi485.toInt ∧ zi485.toInt ≤ 400 := r_le_x (Int32.not_lt.mp cn616) bd489 bc_400 (by decide) (by decide)
        refine lv_aload_n hx hb dX5_sum_15 rfl (lv_at hl 0 rfl) ?_
        obtain ⟨zi620, eq619⟩ := rd_6003 ok488 kd900
        refine p_get (ci := 5) (v := .int zi620) (C := RX5) (T := TX5) (N := 7) hx hb hT iw_X5 hown hK hw hW kd900 (by decide) rfl rfl 3 (by decide) eq619 (hT _ tb_374) (fun _ h9 => h9) dX5_sum_16 ?_
        refine lv_bipush (v := 43) hx hb dX5_sum_19 (by decide) ?_
        refine lv_icmp_eq (tgt := 33) hx hb dX5_sum_21 (by decide) (fun cn621 => ?_) (fun cn621 => ?_)
        · skip
          have bd622 : (43 : Int) ≤ zi620.toInt ∧ zi620.toInt ≤ 43 := r_eq_x cn621 (b_all zi620) bc_43 (by decide) (by decide)
          refine lv_aload_n hx hb dX5_sum_33 rfl (lv_at hl 0 rfl) ?_
          refine p_get (ci := 5) (v := .int zi620) (C := RX5) (T := TX5) (N := 7) hx hb hT iw_X5 hown hK hw hW kd900 (by decide) rfl rfl 3 (by decide) eq619 (hT _ tb_374) (fun _ h9 => h9) dX5_sum_34 ?_
          refine lv_istore (lv' := [(4, .int zi620), (0, .ref qa900), (1, .ref qa901), (2, .int zi902), (3, .int zi485)]) hx hb dX5_sum_37 hl (by decide) rfl (fun ls hl => ?_)
          refine lv_aload_n hx hb dX5_sum_39 rfl (lv_at hl 1 rfl) ?_
          refine lv_iload hx hb dX5_sum_40 (lv_at hl 0 rfl) ?_
          refine kq_i hw hS hA (va_runV (As := [.int zi620]) (rest := []) ⟨hx, hb, hml, hown, hT⟩ (cX5_accept_0 l G cy ev K ln Ls hW _ hp486 ok488 qa900 zi620 kd900) (cwV 1 hT (good_V tb_854 tb_851 tb_853 tb_8 tb_109) rfl rfl rfl (by decide +kernel) ⟨Nat.le_of_ble_eq_true rfl, Nat.le_of_ble_eq_true rfl⟩) (pool_preV (ci := 5) hK hE hS hA hw hW kd900 (by decide) rfl) rfl rfl hl.1 rfl (lv_room (Nat.le_of_ble_eq_true rfl)) dX5_sum_42 ⟨Nat.le_of_ble_eq_true rfl, Nat.le_of_ble_eq_true rfl⟩) (fun zi627 hp623 H locs hq626 hw hS => ?_)
          obtain ⟨ok624, F625, bd628, hc629, hc630⟩ := hq626
          have hw : PW G cy K ln Ls A hp623 H := hw
          refine lv_pop hx hb dX5_sum_45 rfl ?_
          refine lv_aload_n hx hb dX5_sum_46 rfl (lv_at hl 1 rfl) ?_
          refine lv_aload_n hx hb dX5_sum_47 rfl (lv_at hl 2 rfl) ?_
          refine lv_iload_n hx hb dX5_sum_48 rfl (lv_at hl 3 rfl) ?_
          refine kq_v hw hS hA (va_runV (As := [.ref qa901, .int zi902]) (rest := []) ⟨hx, hb, hml, hown, hT⟩ (cX5_product_3 l G cy ev K ln Ls hW _ hp623 ok624 qa900 qa901 zi902 kd900 kd901 (b_wid2 bd902 (by decide) (by decide))) (cwV 2 hT (good_V tb_955 tb_952 tb_954 tb_23 tb_109) rfl rfl rfl (by decide +kernel) ⟨Nat.le_of_ble_eq_true rfl, Nat.le_of_ble_eq_true rfl⟩) (pool_preV (ci := 5) hK hE hS hA hw hW kd900 (by decide) rfl) rfl rfl hl.1 rfl (lv_room (Nat.le_of_ble_eq_true rfl)) dX5_sum_49 ⟨Nat.le_of_ble_eq_true rfl, Nat.le_of_ble_eq_true rfl⟩) (fun hp631 H locs hq634 hw hS => ?_)
          obtain ⟨ok632, F633⟩ := hq634
          have hw : PW G cy K ln Ls A hp631 H := hw
          refine lv_aload_n hx hb dX5_sum_52 rfl (lv_at hl 2 rfl) ?_
          refine lv_iload hx hb dX5_sum_53 (lv_at hl 0 rfl) ?_
          refine lv_ineg hx hb dX5_sum_55 (lv_topi (fun zi636 ea637 => ?_))
          refine kq_v hw hS hA (va_runV (As := [.int zi636]) (rest := []) ⟨hx, hb, hml, hown, hT⟩ (cX2_add_0 l G cy ev K ln Ls hW _ hp631 ok632 qa901 zi636 kd901) (cwV 1 hT (good_V tb_404 tb_960 tb_402 tb_403 tb_108) rfl rfl rfl (by decide +kernel) ⟨Nat.le_of_ble_eq_true rfl, Nat.le_of_ble_eq_true rfl⟩) (pool_preV (ci := 2) hK hE hS hA hw hW kd901 (by decide) rfl) rfl rfl hl.1 rfl (lv_room (Nat.le_of_ble_eq_true rfl)) dX5_sum_56 ⟨Nat.le_of_ble_eq_true rfl, Nat.le_of_ble_eq_true rfl⟩) (fun hp638 H locs hq641 hw hS => ?_)
          obtain ⟨ok639, F640⟩ := hq641
          have hw : PW G cy K ln Ls A hp638 H := hw
          obtain ⟨zi643, ea644⟩ : ∃ z : Int32, z = zi485 + 1 := ⟨_, rfl⟩
          have bd645 : (1 : Int) ≤ zi643.toInt ∧ zi643.toInt ≤ 401 := b_iadd ea644 bd618 bc_1 (by decide) (by decide) (by decide) (by decide)
          have qe646 : zi643.toInt = (zi485 : Int32).toInt + (1 : Int32).toInt := e_iadd ea644 bd618 bc_1 (by decide) (by decide)
          have qe647 : zi643.toInt = zi485.toInt + 1 := by have ha : (1 : Int32).toInt = 1 := (by decide); rw [ha] at qe646; exact qe646
          refine lv_iinc (v := zi643) (lv' := [(3, .int zi643), (4, .int zi620), (0, .ref qa900), (1, .ref qa901), (2, .int zi902)]) hx hb dX5_sum_59 hl (k := 4) rfl ea644.symm (by decide) rfl (fun ls hl => ?_)
          refine lv_goto (tgt := 8) hx hb dX5_sum_62 (by decide) ?_
          exact ih613 hp638 zi643 _ _ ls (by have := hm615; have := qe647; omega) ok639 (Fr.tr (Fr.tr (Fr.tr (Fr.tr (Fr.rf) F487 (by decide)) F625 (by decide)) F633 (by decide)) F640 (by decide)) (b_wid2 bd645 (by decide) (by decide)) (lv_sub hl [2, 3, 4, 0] rfl) hw hS
        · skip
          refine lv_aload_n hx hb dX5_sum_24 rfl (lv_at hl 0 rfl) ?_
          refine p_get (ci := 5) (v := .int zi620) (C := RX5) (T := TX5) (N := 7) hx hb hT iw_X5 hown hK hw hW kd900 (by decide) rfl rfl 3 (by decide) eq619 (hT _ tb_374) (fun _ h9 => h9) dX5_sum_25 ?_
          refine lv_bipush (v := 45) hx hb dX5_sum_28 (by decide) ?_
          refine lv_icmp_ne (tgt := 65) hx hb dX5_sum_30 (by decide) (fun cn648 => ?_) (fun cn648 => ?_)
          · skip
            exact jn611 hp486 _ _ ls ok488 (Fr.tr (Fr.rf) F487 (by decide)) (lv_sub hl [] rfl) hw hS
          · skip
            have bd649 : (45 : Int) ≤ zi620.toInt ∧ zi620.toInt ≤ 45 := r_eq_x cn648 (b_all zi620) bc_45 (by decide) (by decide)
            refine lv_aload_n hx hb dX5_sum_33 rfl (lv_at hl 0 rfl) ?_
            refine p_get (ci := 5) (v := .int zi620) (C := RX5) (T := TX5) (N := 7) hx hb hT iw_X5 hown hK hw hW kd900 (by decide) rfl rfl 3 (by decide) eq619 (hT _ tb_374) (fun _ h9 => h9) dX5_sum_34 ?_
            refine lv_istore (lv' := [(4, .int zi620), (0, .ref qa900), (1, .ref qa901), (2, .int zi902), (3, .int zi485)]) hx hb dX5_sum_37 hl (by decide) rfl (fun ls hl => ?_)
            refine lv_aload_n hx hb dX5_sum_39 rfl (lv_at hl 1 rfl) ?_
            refine lv_iload hx hb dX5_sum_40 (lv_at hl 0 rfl) ?_
            refine kq_i hw hS hA (va_runV (As := [.int zi620]) (rest := []) ⟨hx, hb, hml, hown, hT⟩ (cX5_accept_0 l G cy ev K ln Ls hW _ hp486 ok488 qa900 zi620 kd900) (cwV 1 hT (good_V tb_854 tb_851 tb_853 tb_8 tb_109) rfl rfl rfl (by decide +kernel) ⟨Nat.le_of_ble_eq_true rfl, Nat.le_of_ble_eq_true rfl⟩) (pool_preV (ci := 5) hK hE hS hA hw hW kd900 (by decide) rfl) rfl rfl hl.1 rfl (lv_room (Nat.le_of_ble_eq_true rfl)) dX5_sum_42 ⟨Nat.le_of_ble_eq_true rfl, Nat.le_of_ble_eq_true rfl⟩) (fun zi654 hp650 H locs hq653 hw hS => ?_)
            obtain ⟨ok651, F652, bd655, hc656, hc657⟩ := hq653
            have hw : PW G cy K ln Ls A hp650 H := hw
            refine lv_pop hx hb dX5_sum_45 rfl ?_
            refine lv_aload_n hx hb dX5_sum_46 rfl (lv_at hl 1 rfl) ?_
            refine lv_aload_n hx hb dX5_sum_47 rfl (lv_at hl 2 rfl) ?_
            refine lv_iload_n hx hb dX5_sum_48 rfl (lv_at hl 3 rfl) ?_
            refine kq_v hw hS hA (va_runV (As := [.ref qa901, .int zi902]) (rest := []) ⟨hx, hb, hml, hown, hT⟩ (cX5_product_3 l G cy ev K ln Ls hW _ hp650 ok651 qa900 qa901 zi902 kd900 kd901 (b_wid2 bd902 (by decide) (by decide))) (cwV 2 hT (good_V tb_955 tb_952 tb_954 tb_23 tb_109) rfl rfl rfl (by decide +kernel) ⟨Nat.le_of_ble_eq_true rfl, Nat.le_of_ble_eq_true rfl⟩) (pool_preV (ci := 5) hK hE hS hA hw hW kd900 (by decide) rfl) rfl rfl hl.1 rfl (lv_room (Nat.le_of_ble_eq_true rfl)) dX5_sum_49 ⟨Nat.le_of_ble_eq_true rfl, Nat.le_of_ble_eq_true rfl⟩) (fun hp658 H locs hq661 hw hS => ?_)
            obtain ⟨ok659, F660⟩ := hq661
            have hw : PW G cy K ln Ls A hp658 H := hw
            refine lv_aload_n hx hb dX5_sum_52 rfl (lv_at hl 2 rfl) ?_
            refine lv_iload hx hb dX5_sum_53 (lv_at hl 0 rfl) ?_
            refine lv_ineg hx hb dX5_sum_55 (lv_topi (fun zi663 ea664 => ?_))
            refine kq_v hw hS hA (va_runV (As := [.int zi663]) (rest := []) ⟨hx, hb, hml, hown, hT⟩ (cX2_add_0 l G cy ev K ln Ls hW _ hp658 ok659 qa901 zi663 kd901) (cwV 1 hT (good_V tb_404 tb_960 tb_402 tb_403 tb_108) rfl rfl rfl (by decide +kernel) ⟨Nat.le_of_ble_eq_true rfl, Nat.le_of_ble_eq_true rfl⟩) (pool_preV (ci := 2) hK hE hS hA hw hW kd901 (by decide) rfl) rfl rfl hl.1 rfl (lv_room (Nat.le_of_ble_eq_true rfl)) dX5_sum_56 ⟨Nat.le_of_ble_eq_true rfl, Nat.le_of_ble_eq_true rfl⟩) (fun hp665 H locs hq668 hw hS => ?_)
            obtain ⟨ok666, F667⟩ := hq668
            have hw : PW G cy K ln Ls A hp665 H := hw
            obtain ⟨zi670, ea671⟩ : ∃ z : Int32, z = zi485 + 1 := ⟨_, rfl⟩
            have bd672 : (1 : Int) ≤ zi670.toInt ∧ zi670.toInt ≤ 401 := b_iadd ea671 bd618 bc_1 (by decide) (by decide) (by decide) (by decide)
            have qe673 : zi670.toInt = (zi485 : Int32).toInt + (1 : Int32).toInt := e_iadd ea671 bd618 bc_1 (by decide) (by decide)
            have qe674 : zi670.toInt = zi485.toInt + 1 := by have ha : (1 : Int32).toInt = 1 := (by decide); rw [ha] at qe673; exact qe673
            refine lv_iinc (v := zi670) (lv' := [(3, .int zi670), (4, .int zi620), (0, .ref qa900), (1, .ref qa901), (2, .int zi902)]) hx hb dX5_sum_59 hl (k := 4) rfl ea671.symm (by decide) rfl (fun ls hl => ?_)
            refine lv_goto (tgt := 8) hx hb dX5_sum_62 (by decide) ?_
            exact ih613 hp665 zi670 _ _ ls (by have := hm615; have := qe674; omega) ok666 (Fr.tr (Fr.tr (Fr.tr (Fr.tr (Fr.rf) F487 (by decide)) F652 (by decide)) F660 (by decide)) F667 (by decide)) (b_wid2 bd672 (by decide) (by decide)) (lv_sub hl [2, 3, 4, 0] rfl) hw hS
  exact lp614 _ hp1 0 _ _ ls (lp_in _) ok2 (Fr.rf) (b_wid2 bc_0 (by decide) (by decide)) (lv_sub hl [1, 2, 3, 0] rfl) hw hS

set_option maxRecDepth 100000 in
set_option maxHeartbeats 4000000 in
theorem cX5_unit_4 (l : Launch) (G : va_G) (cy : Nat → ClassId) (ev : Ew) (K ln : Nat → Nat) (Ls : List Nat) (hW : SW K ln Ls) (sz : Nat) (hp0 : Nat → Nat → Value) (ok0 : Ok K hp0) (qa900 : Nat) (qa901 : Nat) (zi902 : Int32) (kd900 : K qa900 = 6) (kd901 : K qa901 = 3) (bd902 : ((2 : Int) ≤ zi902.toInt ∧ zi902.toInt ≤ 2)) : Met l yX5_unit (WS yX5_unit cX5_unit 4 none) { frames := 14, cells := 0, slots := 0, locals := 326 } (PB2 [.ref qa900, .ref qa901, .int zi902] sz G cy ev (va_pl Ls (cellOf cy K ln hp0))) (QBv (S := (Nat → Nat → Value)) (fun u : (Nat → Nat → Value) => Ok K u ∧ Fr [3002, 6002, 6003, 6004, 26000] K hp0 u) G (fun u => va_pl Ls (cellOf cy K ln u)) (va_A (va_pl Ls (cellOf cy K ln hp0)) sz)) 0 0 (va_A (va_pl Ls (cellOf cy K ln hp0)) sz) := by
  refine met_of2 (y := yX5_unit) (L := 4) (av := [.ref qa900, .ref qa901, .int zi902]) (Qc := fun A => QBv (S := (Nat → Nat → Value)) (fun u : (Nat → Nat → Value) => Ok K u ∧ Fr [3002, 6002, 6003, 6004, 26000] K hp0 u) G (fun u => va_pl Ls (cellOf cy K ln u)) A) (plainFor_of_name (by decide)) (Nat.le_of_ble_eq_true rfl) ?_
  intro p e s m below meth c hsz hx hb hr hml hown hT hlocks hin hK A hA hE hw hS ls hl
  have hw : PW G cy K ln Ls A hp0 s.heap := hw
  have hown : s.vm.findClass "LieClock$Parser" = some m.cls := hown
  have hl : lv_has ls 4 [(0, .ref qa900), (1, .ref qa901), (2, .int zi902)] := hl
  obtain ⟨Q, hQ⟩ : ∃ Q : State → Prop, Q = MQ below (QBv (S := (Nat → Nat → Value)) (fun u : (Nat → Nat → Value) => Ok K u ∧ Fr [3002, 6002, 6003, 6004, 26000] K hp0 u) G (fun u => va_pl Ls (cellOf cy K ln u)) A) ([.ref qa900, .ref qa901, .int zi902] : List Value).toArray s 0 0 A := ⟨_, rfl⟩
  rw [← hQ]
  refine lv_aload_n hx hb dX5_unit_0 rfl (lv_at hl 0 rfl) ?_
  obtain ⟨zi2, eq1⟩ := rd_6003 ok0 kd900
  refine p_get (ci := 5) (v := .int zi2) (C := RX5) (T := TX5) (N := 7) hx hb hT iw_X5 hown hK hw hW kd900 (by decide) rfl rfl 3 (by decide) eq1 (hT _ tb_374) (fun _ h9 => h9) dX5_unit_1 ?_
  refine lv_istore_n (lv' := [(3, .int zi2), (0, .ref qa900), (1, .ref qa901), (2, .int zi902)]) hx hb dX5_unit_4 rfl hl (by decide) rfl (fun ls hl => ?_)
  refine lv_iload_n hx hb dX5_unit_5 rfl (lv_at hl 0 rfl) ?_
  refine lv_bipush (v := 40) hx hb dX5_unit_6 (by decide) ?_
  refine lv_icmp_ne (tgt := 36) hx hb dX5_unit_8 (by decide) (fun cn3 => ?_) (fun cn3 => ?_)
  · skip
    refine lv_iload_n hx hb dX5_unit_36 rfl (lv_at hl 0 rfl) ?_
    refine lv_bipush (v := 103) hx hb dX5_unit_37 (by decide) ?_
    refine lv_icmp_eq (tgt := 54) hx hb dX5_unit_39 (by decide) (fun cn4 => ?_) (fun cn4 => ?_)
    · skip
      have bd5 : (103 : Int) ≤ zi2.toInt ∧ zi2.toInt ≤ 103 := r_eq_x cn4 (b_all zi2) bc_103 (by decide) (by decide)
      refine lv_aload_n hx hb dX5_unit_54 rfl (lv_at hl 1 rfl) ?_
      refine lv_iload_n hx hb dX5_unit_55 rfl (lv_at hl 0 rfl) ?_
      refine kq_i hw hS hA (va_runV (As := [.int zi2]) (rest := []) ⟨hx, hb, hml, hown, hT⟩ (cX5_accept_0 l G cy ev K ln Ls hW _ hp0 ok0 qa900 zi2 kd900) (cwV 1 hT (good_V tb_854 tb_851 tb_853 tb_8 tb_109) rfl rfl rfl (by decide +kernel) ⟨Nat.le_of_ble_eq_true rfl, Nat.le_of_ble_eq_true rfl⟩) (pool_preV (ci := 5) hK hE hS hA hw hW kd900 (by decide) rfl) rfl rfl hl.1 rfl (lv_room (Nat.le_of_ble_eq_true rfl)) dX5_unit_56 ⟨Nat.le_of_ble_eq_true rfl, Nat.le_of_ble_eq_true rfl⟩) (fun zi10 hp6 H locs hq9 hw hS => ?_)
      obtain ⟨ok7, F8, bd11, hc12, hc13⟩ := hq9
      have hw : PW G cy K ln Ls A hp6 H := hw
      refine lv_pop hx hb dX5_unit_59 rfl ?_
      refine lv_aload_n hx hb dX5_unit_60 rfl (lv_at hl 2 rfl) ?_
      refine lv_iload_n hx hb dX5_unit_61 rfl (lv_at hl 0 rfl) ?_
      refine lv_ineg hx hb dX5_unit_62 (lv_topi (fun zi14 ea15 => ?_))
      refine kq_v hw hS hA (va_runV (As := [.int zi14]) (rest := []) ⟨hx, hb, hml, hown, hT⟩ (cX2_add_0 l G cy ev K ln Ls hW _ hp6 ok7 qa901 zi14 kd901) (cwV 1 hT (good_V tb_404 tb_960 tb_402 tb_403 tb_108) rfl rfl rfl (by decide +kernel) ⟨Nat.le_of_ble_eq_true rfl, Nat.le_of_ble_eq_true rfl⟩) (pool_preV (ci := 2) hK hE hS hA hw hW kd901 (by decide) rfl) rfl rfl hl.1 rfl (lv_room (Nat.le_of_ble_eq_true rfl)) dX5_unit_63 ⟨Nat.le_of_ble_eq_true rfl, Nat.le_of_ble_eq_true rfl⟩) (fun hp16 H locs hq19 hw hS => ?_)
      obtain ⟨ok17, F18⟩ := hq19
      have hw : PW G cy K ln Ls A hp16 H := hw
      refine lv_goto (tgt := 79) hx hb dX5_unit_66 (by decide) ?_
      rw [hQ]
      exact kz_v hx hb hr hlocks hS hp16 hw ⟨ok17, (Fr.tr (Fr.tr (Fr.rf) F8 (by decide)) F18 (by decide))⟩ (Nat.le_of_ble_eq_true rfl) (Nat.le_of_ble_eq_true rfl) dX5_unit_79
    · skip
      refine lv_iload_n hx hb dX5_unit_42 rfl (lv_at hl 0 rfl) ?_
      refine lv_bipush (v := 114) hx hb dX5_unit_43 (by decide) ?_
      refine lv_icmp_lt (tgt := 69) hx hb dX5_unit_45 (by decide) (fun cn21 => ?_) (fun cn21 => ?_)
      · skip
        have bd22 : (-2147483648 : Int) ≤ zi2.toInt ∧ zi2.toInt ≤ 113 := r_lt_x cn21 (b_all zi2) bc_114 (by decide) (by decide)
        refine lv_aload_n hx hb dX5_unit_69 rfl (lv_at hl 2 rfl) ?_
        refine lv_aload_n hx hb dX5_unit_70 rfl (lv_at hl 1 rfl) ?_
        refine lv_iconst (v := 3) hx hb dX5_unit_71 (by decide) ?_
        refine kq_l hw hS hA (va_runV (As := [.int 3]) (rest := [.ref qa901]) ⟨hx, hb, hml, hown, hT⟩ (cX5_take_0 l G cy ev K ln Ls hW _ hp0 ok0 qa900 3 kd900) (cwV 1 hT (good_V tb_862 tb_859 tb_861 tb_10 tb_109) rfl rfl rfl (by decide +kernel) ⟨Nat.le_of_ble_eq_true rfl, Nat.le_of_ble_eq_true rfl⟩) (pool_preV (ci := 5) hK hE hS hA hw hW kd900 (by decide) rfl) rfl rfl hl.1 rfl (lv_room (Nat.le_of_ble_eq_true rfl)) dX5_unit_72 ⟨Nat.le_of_ble_eq_true rfl, Nat.le_of_ble_eq_true rfl⟩) (fun wl27 hp23 H locs hq26 hw hS => ?_)
        obtain ⟨ok24, F25⟩ := hq26
        have hw : PW G cy K ln Ls A hp23 H := hw
        refine lv_l2i hx hb dX5_unit_75 rfl (lv_topi (fun zi28 ea29 => ?_))
        refine kq_v hw hS hA (va_runV (As := [.int zi28]) (rest := []) ⟨hx, hb, hml, hown, hT⟩ (cX2_add_0 l G cy ev K ln Ls hW _ hp23 ok24 qa901 zi28 kd901) (cwV 1 hT (good_V tb_404 tb_960 tb_402 tb_403 tb_108) rfl rfl rfl (by decide +kernel) ⟨Nat.le_of_ble_eq_true rfl, Nat.le_of_ble_eq_true rfl⟩) (pool_preV (ci := 2) hK hE hS hA hw hW kd901 (by decide) rfl) rfl rfl hl.1 rfl (lv_room (Nat.le_of_ble_eq_true rfl)) dX5_unit_76 ⟨Nat.le_of_ble_eq_true rfl, Nat.le_of_ble_eq_true rfl⟩) (fun hp30 H locs hq33 hw hS => ?_)
        obtain ⟨ok31, F32⟩ := hq33
        have hw : PW G cy K ln Ls A hp30 H := hw
        rw [hQ]
        exact kz_v hx hb hr hlocks hS hp30 hw ⟨ok31, (Fr.tr (Fr.tr (Fr.rf) F25 (by decide)) F32 (by decide))⟩ (Nat.le_of_ble_eq_true rfl) (Nat.le_of_ble_eq_true rfl) dX5_unit_79
      · skip
        have bd35 : (114 : Int) ≤ zi2.toInt ∧ zi2.toInt ≤ 2147483647 := r_le_y (Int32.not_lt.mp cn21) bc_114 (b_all zi2) (by decide) (by decide)
        refine lv_iload_n hx hb dX5_unit_48 rfl (lv_at hl 0 rfl) ?_
        refine lv_bipush (v := 117) hx hb dX5_unit_49 (by decide) ?_
        refine lv_icmp_gt (tgt := 69) hx hb dX5_unit_51 (by decide) (fun cn36 => ?_) (fun cn36 => ?_)
        · skip
          have bd37 : (118 : Int) ≤ zi2.toInt ∧ zi2.toInt ≤ 2147483647 := r_lt_y cn36 bc_117 bd35 (by decide) (by decide)
          refine lv_aload_n hx hb dX5_unit_69 rfl (lv_at hl 2 rfl) ?_
          refine lv_aload_n hx hb dX5_unit_70 rfl (lv_at hl 1 rfl) ?_
          refine lv_iconst (v := 3) hx hb dX5_unit_71 (by decide) ?_
          refine kq_l hw hS hA (va_runV (As := [.int 3]) (rest := [.ref qa901]) ⟨hx, hb, hml, hown, hT⟩ (cX5_take_0 l G cy ev K ln Ls hW _ hp0 ok0 qa900 3 kd900) (cwV 1 hT (good_V tb_862 tb_859 tb_861 tb_10 tb_109) rfl rfl rfl (by decide +kernel) ⟨Nat.le_of_ble_eq_true rfl, Nat.le_of_ble_eq_true rfl⟩) (pool_preV (ci := 5) hK hE hS hA hw hW kd900 (by decide) rfl) rfl rfl hl.1 rfl (lv_room (Nat.le_of_ble_eq_true rfl)) dX5_unit_72 ⟨Nat.le_of_ble_eq_true rfl, Nat.le_of_ble_eq_true rfl⟩) (fun wl42 hp38 H locs hq41 hw hS => ?_)
          obtain ⟨ok39, F40⟩ := hq41
          have hw : PW G cy K ln Ls A hp38 H := hw
          refine lv_l2i hx hb dX5_unit_75 rfl (lv_topi (fun zi43 ea44 => ?_))
          refine kq_v hw hS hA (va_runV (As := [.int zi43]) (rest := []) ⟨hx, hb, hml, hown, hT⟩ (cX2_add_0 l G cy ev K ln Ls hW _ hp38 ok39 qa901 zi43 kd901) (cwV 1 hT (good_V tb_404 tb_960 tb_402 tb_403 tb_108) rfl rfl rfl (by decide +kernel) ⟨Nat.le_of_ble_eq_true rfl, Nat.le_of_ble_eq_true rfl⟩) (pool_preV (ci := 2) hK hE hS hA hw hW kd901 (by decide) rfl) rfl rfl hl.1 rfl (lv_room (Nat.le_of_ble_eq_true rfl)) dX5_unit_76 ⟨Nat.le_of_ble_eq_true rfl, Nat.le_of_ble_eq_true rfl⟩) (fun hp45 H locs hq48 hw hS => ?_)
          obtain ⟨ok46, F47⟩ := hq48
          have hw : PW G cy K ln Ls A hp45 H := hw
          rw [hQ]
          exact kz_v hx hb hr hlocks hS hp45 hw ⟨ok46, (Fr.tr (Fr.tr (Fr.rf) F40 (by decide)) F47 (by decide))⟩ (Nat.le_of_ble_eq_true rfl) (Nat.le_of_ble_eq_true rfl) dX5_unit_79
        · skip
          have bd50 : (114 : Int) ≤ zi2.toInt ∧ zi2.toInt ≤ 117 := r_le_x (Int32.not_lt.mp cn36) bd35 bc_117 (by decide) (by decide)
          refine lv_aload_n hx hb dX5_unit_54 rfl (lv_at hl 1 rfl) ?_
          refine lv_iload_n hx hb dX5_unit_55 rfl (lv_at hl 0 rfl) ?_
          refine kq_i hw hS hA (va_runV (As := [.int zi2]) (rest := []) ⟨hx, hb, hml, hown, hT⟩ (cX5_accept_0 l G cy ev K ln Ls hW _ hp0 ok0 qa900 zi2 kd900) (cwV 1 hT (good_V tb_854 tb_851 tb_853 tb_8 tb_109) rfl rfl rfl (by decide +kernel) ⟨Nat.le_of_ble_eq_true rfl, Nat.le_of_ble_eq_true rfl⟩) (pool_preV (ci := 5) hK hE hS hA hw hW kd900 (by decide) rfl) rfl rfl hl.1 rfl (lv_room (Nat.le_of_ble_eq_true rfl)) dX5_unit_56 ⟨Nat.le_of_ble_eq_true rfl, Nat.le_of_ble_eq_true rfl⟩) (fun zi55 hp51 H locs hq54 hw hS => ?_)
          obtain ⟨ok52, F53, bd56, hc57, hc58⟩ := hq54
          have hw : PW G cy K ln Ls A hp51 H := hw
          refine lv_pop hx hb dX5_unit_59 rfl ?_
          refine lv_aload_n hx hb dX5_unit_60 rfl (lv_at hl 2 rfl) ?_
          refine lv_iload_n hx hb dX5_unit_61 rfl (lv_at hl 0 rfl) ?_
          refine lv_ineg hx hb dX5_unit_62 (lv_topi (fun zi59 ea60 => ?_))
          refine kq_v hw hS hA (va_runV (As := [.int zi59]) (rest := []) ⟨hx, hb, hml, hown, hT⟩ (cX2_add_0 l G cy ev K ln Ls hW _ hp51 ok52 qa901 zi59 kd901) (cwV 1 hT (good_V tb_404 tb_960 tb_402 tb_403 tb_108) rfl rfl rfl (by decide +kernel) ⟨Nat.le_of_ble_eq_true rfl, Nat.le_of_ble_eq_true rfl⟩) (pool_preV (ci := 2) hK hE hS hA hw hW kd901 (by decide) rfl) rfl rfl hl.1 rfl (lv_room (Nat.le_of_ble_eq_true rfl)) dX5_unit_63 ⟨Nat.le_of_ble_eq_true rfl, Nat.le_of_ble_eq_true rfl⟩) (fun hp61 H locs hq64 hw hS => ?_)
          obtain ⟨ok62, F63⟩ := hq64
          have hw : PW G cy K ln Ls A hp61 H := hw
          refine lv_goto (tgt := 79) hx hb dX5_unit_66 (by decide) ?_
          rw [hQ]
          exact kz_v hx hb hr hlocks hS hp61 hw ⟨ok62, (Fr.tr (Fr.tr (Fr.rf) F53 (by decide)) F63 (by decide))⟩ (Nat.le_of_ble_eq_true rfl) (Nat.le_of_ble_eq_true rfl) dX5_unit_79
  · skip
    have bd66 : (40 : Int) ≤ zi2.toInt ∧ zi2.toInt ≤ 40 := r_eq_x cn3 (b_all zi2) bc_40 (by decide) (by decide)
    refine lv_aload_n hx hb dX5_unit_11 rfl (lv_at hl 1 rfl) ?_
    refine lv_iload_n hx hb dX5_unit_12 rfl (lv_at hl 3 rfl) ?_
    refine kq_i hw hS hA (va_runV (As := [.int zi902]) (rest := []) ⟨hx, hb, hml, hown, hT⟩ (cX5_enter_2 l G cy ev K ln Ls hW _ hp0 ok0 qa900 zi902 kd900 (b_wid2 bd902 (by decide) (by decide))) (cwV 1 hT (good_V tb_922 tb_919 tb_921 tb_18 tb_109) rfl rfl rfl (by decide +kernel) ⟨Nat.le_of_ble_eq_true rfl, Nat.le_of_ble_eq_true rfl⟩) (pool_preV (ci := 5) hK hE hS hA hw hW kd900 (by decide) rfl) rfl rfl hl.1 rfl (lv_room (Nat.le_of_ble_eq_true rfl)) dX5_unit_13 ⟨Nat.le_of_ble_eq_true rfl, Nat.le_of_ble_eq_true rfl⟩) (fun zi71 hp67 H locs hq70 hw hS => ?_)
    obtain ⟨ok68, F69, bd72, hc73, hc74⟩ := hq70
    have hw : PW G cy K ln Ls A hp67 H := hw
    have jn95 : ∀ (hp92 : Nat → Nat → Value)  (H : Heap) (locs : List Loc) (ls : Array Slot), Ok K hp92 → Fr [3002, 6002, 6003, 6004, 26000] K hp67 hp92 → lv_has ls 4 [(0, .ref qa900)] → PW G cy K ln Ls A hp92 H → va_S A s.heap H locs → W p l e ({ frames := 14, cells := 0, slots := 0, locals := 326 } : Room) s m ([.ref qa900, .ref qa901, .int zi902] : List Value).toArray below meth c H locs 0 0 Q (F0 m 27 ls []) := by
      intro hp92 H locs ls ok94 F93 hl hw hS
      refine lv_aload_n hx hb dX5_unit_27 rfl (lv_at hl 0 rfl) ?_
      refine lv_bipush (v := 41) hx hb dX5_unit_28 (by decide) ?_
      refine kq_v hw hS hA (va_runV (As := [.int 41]) (rest := []) ⟨hx, hb, hml, hown, hT⟩ (cX5_expect_0 l G cy ev K ln Ls hW _ hp92 ok94 qa900 41 kd900) (cwV 1 hT (good_V tb_889 tb_886 tb_888 tb_12 tb_109) rfl rfl rfl (by decide +kernel) ⟨Nat.le_of_ble_eq_true rfl, Nat.le_of_ble_eq_true rfl⟩) (pool_preV (ci := 5) hK hE hS hA hw hW kd900 (by decide) rfl) rfl rfl hl.1 rfl (lv_room (Nat.le_of_ble_eq_true rfl)) dX5_unit_30 ⟨Nat.le_of_ble_eq_true rfl, Nat.le_of_ble_eq_true rfl⟩) (fun hp96 H locs hq99 hw hS => ?_)
      obtain ⟨ok97, F98⟩ := hq99
      have hw : PW G cy K ln Ls A hp96 H := hw
      refine lv_goto (tgt := 79) hx hb dX5_unit_33 (by decide) ?_
      rw [hQ]
      exact kz_v hx hb hr hlocks hS hp96 hw ⟨ok97, (Fr.tr (Fr.tr (Fr.tr (Fr.rf) F69 (by decide)) F93 (by decide)) F98 (by decide))⟩ (Nat.le_of_ble_eq_true rfl) (Nat.le_of_ble_eq_true rfl) dX5_unit_79
    rcases b01 bd72 with cn75 | cn75
    · skip
      subst cn75
      refine lv_if_eq (tgt := 27) hx hb dX5_unit_16 (by decide) (fun _ => ?_) (fun c => absurd (d_eq bc_0 bc_0) c)
      exact jn95 hp67 _ _ ls ok68 (Fr.rf) (lv_sub hl [1] rfl) hw hS
    · skip
      subst cn75
      obtain ⟨zi101, eq102, bd103⟩ := hc73 rfl
      obtain ⟨zi104, eq105, bd106⟩ := hc74 rfl
      refine lv_if_eq (tgt := 27) hx hb dX5_unit_16 (by decide) (fun c => absurd c (d_ne bc_1 bc_0 (by decide))) (fun _ => ?_)
      refine lv_aload_n hx hb dX5_unit_19 rfl (lv_at hl 1 rfl) ?_
      refine lv_aload_n hx hb dX5_unit_20 rfl (lv_at hl 2 rfl) ?_
      refine lv_iload_n hx hb dX5_unit_21 rfl (lv_at hl 3 rfl) ?_
      refine lv_iconst (v := 1) hx hb dX5_unit_22 (by decide) ?_
      refine lv_iadd hx hb dX5_unit_23 (lv_topi (fun zi107 ea108 => ?_))
      have bd109 : (3 : Int) ≤ zi107.toInt ∧ zi107.toInt ≤ 3 := b_iadd ea108 bd902 bc_1 (by decide) (by decide) (by decide) (by decide)
      have qe110 : zi107.toInt = (zi902 : Int32).toInt + (1 : Int32).toInt := e_iadd ea108 bd902 bc_1 (by decide) (by decide)
      have qe111 : zi107.toInt = zi902.toInt + 1 := by have ha : (1 : Int32).toInt = 1 := (by decide); rw [ha] at qe110; exact qe110
      refine kq_v hw hS hA (va_runV (As := [.ref qa901, .int zi107]) (rest := []) ⟨hx, hb, hml, hown, hT⟩ (cX5_sum_3 l G cy ev K ln Ls hW _ hp67 ok68 qa900 qa901 zi107 kd900 kd901 (b_wid2 bd109 (by decide) (by decide))) (cwV 2 hT (good_V tb_951 tb_948 tb_950 tb_22 tb_109) rfl rfl rfl (by decide +kernel) ⟨Nat.le_of_ble_eq_true rfl, Nat.le_of_ble_eq_true rfl⟩) (pool_preV (ci := 5) hK hE hS hA hw hW kd900 (by decide) rfl) rfl rfl hl.1 rfl (lv_room (Nat.le_of_ble_eq_true rfl)) dX5_unit_24 ⟨Nat.le_of_ble_eq_true rfl, Nat.le_of_ble_eq_true rfl⟩) (fun hp112 H locs hq115 hw hS => ?_)
      obtain ⟨ok113, F114⟩ := hq115
      have hw : PW G cy K ln Ls A hp112 H := hw
      exact jn95 hp112 _ _ ls ok113 (Fr.tr (Fr.rf) F114 (by decide)) (lv_sub hl [1] rfl) hw hS

set_option maxRecDepth 100000 in
set_option maxHeartbeats 4000000 in
theorem cX5_product_4 (l : Launch) (G : va_G) (cy : Nat → ClassId) (ev : Ew) (K ln : Nat → Nat) (Ls : List Nat) (hW : SW K ln Ls) (sz : Nat) (hp0 : Nat → Nat → Value) (ok0 : Ok K hp0) (qa900 : Nat) (qa901 : Nat) (zi902 : Int32) (kd900 : K qa900 = 6) (kd901 : K qa901 = 3) (bd902 : ((2 : Int) ≤ zi902.toInt ∧ zi902.toInt ≤ 2)) : Met l yX5_product (WS yX5_product cX5_product 5 none) { frames := 15, cells := 0, slots := 0, locals := 349 } (PB2 [.ref qa900, .ref qa901, .int zi902] sz G cy ev (va_pl Ls (cellOf cy K ln hp0))) (QBv (S := (Nat → Nat → Value)) (fun u : (Nat → Nat → Value) => Ok K u ∧ Fr [3002, 6002, 6003, 6004, 26000] K hp0 u) G (fun u => va_pl Ls (cellOf cy K ln u)) (va_A (va_pl Ls (cellOf cy K ln hp0)) sz)) 0 0 (va_A (va_pl Ls (cellOf cy K ln hp0)) sz) := by
  refine met_of2 (y := yX5_product) (L := 5) (av := [.ref qa900, .ref qa901, .int zi902]) (Qc := fun A => QBv (S := (Nat → Nat → Value)) (fun u : (Nat → Nat → Value) => Ok K u ∧ Fr [3002, 6002, 6003, 6004, 26000] K hp0 u) G (fun u => va_pl Ls (cellOf cy K ln u)) A) (plainFor_of_name (by decide)) (Nat.le_of_ble_eq_true rfl) ?_
  intro p e s m below meth c hsz hx hb hr hml hown hT hlocks hin hK A hA hE hw hS ls hl
  have hw : PW G cy K ln Ls A hp0 s.heap := hw
  have hown : s.vm.findClass "LieClock$Parser" = some m.cls := hown
  have hl : lv_has ls 5 [(0, .ref qa900), (1, .ref qa901), (2, .int zi902)] := hl
  obtain ⟨Q, hQ⟩ : ∃ Q : State → Prop, Q = MQ below (QBv (S := (Nat → Nat → Value)) (fun u : (Nat → Nat → Value) => Ok K u ∧ Fr [3002, 6002, 6003, 6004, 26000] K hp0 u) G (fun u => va_pl Ls (cellOf cy K ln u)) A) ([.ref qa900, .ref qa901, .int zi902] : List Value).toArray s 0 0 A := ⟨_, rfl⟩
  rw [← hQ]
  refine lv_aload_n hx hb dX5_product_0 rfl (lv_at hl 0 rfl) ?_
  refine lv_aload_n hx hb dX5_product_1 rfl (lv_at hl 1 rfl) ?_
  refine lv_iload_n hx hb dX5_product_2 rfl (lv_at hl 2 rfl) ?_
  refine kq_v hw hS hA (va_runV (As := [.ref qa901, .int zi902]) (rest := []) ⟨hx, hb, hml, hown, hT⟩ (cX5_unit_4 l G cy ev K ln Ls hW _ hp0 ok0 qa900 qa901 zi902 kd900 kd901 (b_wid2 bd902 (by decide) (by decide))) (cwV 2 hT (good_V tb_959 tb_956 tb_958 tb_24 tb_109) rfl rfl rfl (by decide +kernel) ⟨Nat.le_of_ble_eq_true rfl, Nat.le_of_ble_eq_true rfl⟩) (pool_preV (ci := 5) hK hE hS hA hw hW kd900 (by decide) rfl) rfl rfl hl.1 rfl (lv_room (Nat.le_of_ble_eq_true rfl)) dX5_product_3 ⟨Nat.le_of_ble_eq_true rfl, Nat.le_of_ble_eq_true rfl⟩) (fun hp1 H locs hq4 hw hS => ?_)
  obtain ⟨ok2, F3⟩ := hq4
  have hw : PW G cy K ln Ls A hp1 H := hw
  refine lv_iconst (v := 0) hx hb dX5_product_6 (by decide) ?_
  refine lv_istore_n (lv' := [(3, .int 0), (0, .ref qa900), (1, .ref qa901), (2, .int zi902)]) hx hb dX5_product_7 rfl hl (by decide) rfl (fun ls hl => ?_)
  have jn611 : ∀ (hp608 : Nat → Nat → Value)  (H : Heap) (locs : List Loc) (ls : Array Slot), Ok K hp608 → Fr [3002, 6002, 6003, 6004, 26000] K hp1 hp608 → lv_has ls 5 [] → PW G cy K ln Ls A hp608 H → va_S A s.heap H locs → W p l e ({ frames := 15, cells := 0, slots := 0, locals := 349 } : Room) s m ([.ref qa900, .ref qa901, .int zi902] : List Value).toArray below meth c H locs 0 0 Q (F0 m 65 ls []) := by
    intro hp608 H locs ls ok610 F609 hl hw hS
    rw [hQ]
    exact kz_v hx hb hr hlocks hS hp608 hw ⟨ok610, (Fr.tr (Fr.tr (Fr.rf) F3 (by decide)) F609 (by decide))⟩ (Nat.le_of_ble_eq_true rfl) (Nat.le_of_ble_eq_true rfl) dX5_product_65
  have lp614 : ∀ (n612 : Nat) (hp486 : Nat → Nat → Value) (zi485 : Int32) (H : Heap) (locs : List Loc) (ls : Array Slot), 401 - zi485.toInt < (n612 : Int) → Ok K hp486 → Fr [3002, 6002, 6003, 6004, 26000] K hp1 hp486 → ((0 : Int) ≤ zi485.toInt ∧ zi485.toInt ≤ 401) → lv_has ls 5 [(0, .ref qa900), (1, .ref qa901), (2, .int zi902), (3, .int zi485)] → PW G cy K ln Ls A hp486 H → va_S A s.heap H locs → W p l e ({ frames := 15, cells := 0, slots := 0, locals := 349 } : Room) s m ([.ref qa900, .ref qa901, .int zi902] : List Value).toArray below meth c H locs 0 0 Q (F0 m 8 ls []) := by
    intro n612
    induction n612 with
    | zero =>
      intro hp486 zi485 H locs ls hm615 ok488 F487 bd489 hl hw hS
      exact absurd hm615 (by have := bd489; omega)
    | succ n612 ih613 =>
      intro hp486 zi485 H locs ls hm615 ok488 F487 bd489 hl hw hS
      refine lv_iload_n hx hb dX5_product_8 rfl (lv_at hl 3 rfl) ?_
      refine lv_sipush (v := 400) hx hb dX5_product_9 (by decide) ?_
      refine lv_icmp_gt (tgt := 65) hx hb dX5_product_12 (by decide) (fun cn616 => ?_) (fun cn616 => ?_)
      · skip
        have bd617 : (401 : Int) ≤ zi485.toInt ∧ zi485.toInt ≤ 401 := r_lt_y cn616 bc_400 bd489 (by decide) (by decide)
        exact jn611 hp486 _ _ ls ok488 (Fr.tr (Fr.rf) F487 (by decide)) (lv_sub hl [] rfl) hw hS
      · skip
        have bd618 : (0 : Int) ≤ zi485.toInt ∧ zi485.toInt ≤ 400 := r_le_x (Int32.not_lt.mp cn616) bd489 bc_400 (by decide) (by decide)
        refine lv_aload_n hx hb dX5_product_15 rfl (lv_at hl 0 rfl) ?_
        obtain ⟨zi620, eq619⟩ := rd_6003 ok488 kd900
        refine p_get (ci := 5) (v := .int zi620) (C := RX5) (T := TX5) (N := 7) hx hb hT iw_X5 hown hK hw hW kd900 (by decide) rfl rfl 3 (by decide) eq619 (hT _ tb_374) (fun _ h9 => h9) dX5_product_16 ?_
        refine lv_bipush (v := 42) hx hb dX5_product_19 (by decide) ?_
        refine lv_icmp_eq (tgt := 33) hx hb dX5_product_21 (by decide) (fun cn621 => ?_) (fun cn621 => ?_)
        · skip
          have bd622 : (42 : Int) ≤ zi620.toInt ∧ zi620.toInt ≤ 42 := r_eq_x cn621 (b_all zi620) bc_42 (by decide) (by decide)
          refine lv_aload_n hx hb dX5_product_33 rfl (lv_at hl 0 rfl) ?_
          refine p_get (ci := 5) (v := .int zi620) (C := RX5) (T := TX5) (N := 7) hx hb hT iw_X5 hown hK hw hW kd900 (by decide) rfl rfl 3 (by decide) eq619 (hT _ tb_374) (fun _ h9 => h9) dX5_product_34 ?_
          refine lv_istore (lv' := [(4, .int zi620), (0, .ref qa900), (1, .ref qa901), (2, .int zi902), (3, .int zi485)]) hx hb dX5_product_37 hl (by decide) rfl (fun ls hl => ?_)
          refine lv_aload_n hx hb dX5_product_39 rfl (lv_at hl 1 rfl) ?_
          refine lv_iload hx hb dX5_product_40 (lv_at hl 0 rfl) ?_
          refine kq_i hw hS hA (va_runV (As := [.int zi620]) (rest := []) ⟨hx, hb, hml, hown, hT⟩ (cX5_accept_0 l G cy ev K ln Ls hW _ hp486 ok488 qa900 zi620 kd900) (cwV 1 hT (good_V tb_854 tb_851 tb_853 tb_8 tb_109) rfl rfl rfl (by decide +kernel) ⟨Nat.le_of_ble_eq_true rfl, Nat.le_of_ble_eq_true rfl⟩) (pool_preV (ci := 5) hK hE hS hA hw hW kd900 (by decide) rfl) rfl rfl hl.1 rfl (lv_room (Nat.le_of_ble_eq_true rfl)) dX5_product_42 ⟨Nat.le_of_ble_eq_true rfl, Nat.le_of_ble_eq_true rfl⟩) (fun zi627 hp623 H locs hq626 hw hS => ?_)
          obtain ⟨ok624, F625, bd628, hc629, hc630⟩ := hq626
          have hw : PW G cy K ln Ls A hp623 H := hw
          refine lv_pop hx hb dX5_product_45 rfl ?_
          refine lv_aload_n hx hb dX5_product_46 rfl (lv_at hl 1 rfl) ?_
          refine lv_aload_n hx hb dX5_product_47 rfl (lv_at hl 2 rfl) ?_
          refine lv_iload_n hx hb dX5_product_48 rfl (lv_at hl 3 rfl) ?_
          refine kq_v hw hS hA (va_runV (As := [.ref qa901, .int zi902]) (rest := []) ⟨hx, hb, hml, hown, hT⟩ (cX5_unit_4 l G cy ev K ln Ls hW _ hp623 ok624 qa900 qa901 zi902 kd900 kd901 (b_wid2 bd902 (by decide) (by decide))) (cwV 2 hT (good_V tb_959 tb_956 tb_958 tb_24 tb_109) rfl rfl rfl (by decide +kernel) ⟨Nat.le_of_ble_eq_true rfl, Nat.le_of_ble_eq_true rfl⟩) (pool_preV (ci := 5) hK hE hS hA hw hW kd900 (by decide) rfl) rfl rfl hl.1 rfl (lv_room (Nat.le_of_ble_eq_true rfl)) dX5_product_49 ⟨Nat.le_of_ble_eq_true rfl, Nat.le_of_ble_eq_true rfl⟩) (fun hp631 H locs hq634 hw hS => ?_)
          obtain ⟨ok632, F633⟩ := hq634
          have hw : PW G cy K ln Ls A hp631 H := hw
          refine lv_aload_n hx hb dX5_product_52 rfl (lv_at hl 2 rfl) ?_
          refine lv_iload hx hb dX5_product_53 (lv_at hl 0 rfl) ?_
          refine lv_ineg hx hb dX5_product_55 (lv_topi (fun zi636 ea637 => ?_))
          refine kq_v hw hS hA (va_runV (As := [.int zi636]) (rest := []) ⟨hx, hb, hml, hown, hT⟩ (cX2_add_0 l G cy ev K ln Ls hW _ hp631 ok632 qa901 zi636 kd901) (cwV 1 hT (good_V tb_404 tb_960 tb_402 tb_403 tb_108) rfl rfl rfl (by decide +kernel) ⟨Nat.le_of_ble_eq_true rfl, Nat.le_of_ble_eq_true rfl⟩) (pool_preV (ci := 2) hK hE hS hA hw hW kd901 (by decide) rfl) rfl rfl hl.1 rfl (lv_room (Nat.le_of_ble_eq_true rfl)) dX5_product_56 ⟨Nat.le_of_ble_eq_true rfl, Nat.le_of_ble_eq_true rfl⟩) (fun hp638 H locs hq641 hw hS => ?_)
          obtain ⟨ok639, F640⟩ := hq641
          have hw : PW G cy K ln Ls A hp638 H := hw
          obtain ⟨zi643, ea644⟩ : ∃ z : Int32, z = zi485 + 1 := ⟨_, rfl⟩
          have bd645 : (1 : Int) ≤ zi643.toInt ∧ zi643.toInt ≤ 401 := b_iadd ea644 bd618 bc_1 (by decide) (by decide) (by decide) (by decide)
          have qe646 : zi643.toInt = (zi485 : Int32).toInt + (1 : Int32).toInt := e_iadd ea644 bd618 bc_1 (by decide) (by decide)
          have qe647 : zi643.toInt = zi485.toInt + 1 := by have ha : (1 : Int32).toInt = 1 := (by decide); rw [ha] at qe646; exact qe646
          refine lv_iinc (v := zi643) (lv' := [(3, .int zi643), (4, .int zi620), (0, .ref qa900), (1, .ref qa901), (2, .int zi902)]) hx hb dX5_product_59 hl (k := 4) rfl ea644.symm (by decide) rfl (fun ls hl => ?_)
          refine lv_goto (tgt := 8) hx hb dX5_product_62 (by decide) ?_
          exact ih613 hp638 zi643 _ _ ls (by have := hm615; have := qe647; omega) ok639 (Fr.tr (Fr.tr (Fr.tr (Fr.tr (Fr.rf) F487 (by decide)) F625 (by decide)) F633 (by decide)) F640 (by decide)) (b_wid2 bd645 (by decide) (by decide)) (lv_sub hl [2, 3, 4, 0] rfl) hw hS
        · skip
          refine lv_aload_n hx hb dX5_product_24 rfl (lv_at hl 0 rfl) ?_
          refine p_get (ci := 5) (v := .int zi620) (C := RX5) (T := TX5) (N := 7) hx hb hT iw_X5 hown hK hw hW kd900 (by decide) rfl rfl 3 (by decide) eq619 (hT _ tb_374) (fun _ h9 => h9) dX5_product_25 ?_
          refine lv_bipush (v := 47) hx hb dX5_product_28 (by decide) ?_
          refine lv_icmp_ne (tgt := 65) hx hb dX5_product_30 (by decide) (fun cn648 => ?_) (fun cn648 => ?_)
          · skip
            exact jn611 hp486 _ _ ls ok488 (Fr.tr (Fr.rf) F487 (by decide)) (lv_sub hl [] rfl) hw hS
          · skip
            have bd649 : (47 : Int) ≤ zi620.toInt ∧ zi620.toInt ≤ 47 := r_eq_x cn648 (b_all zi620) bc_47 (by decide) (by decide)
            refine lv_aload_n hx hb dX5_product_33 rfl (lv_at hl 0 rfl) ?_
            refine p_get (ci := 5) (v := .int zi620) (C := RX5) (T := TX5) (N := 7) hx hb hT iw_X5 hown hK hw hW kd900 (by decide) rfl rfl 3 (by decide) eq619 (hT _ tb_374) (fun _ h9 => h9) dX5_product_34 ?_
            refine lv_istore (lv' := [(4, .int zi620), (0, .ref qa900), (1, .ref qa901), (2, .int zi902), (3, .int zi485)]) hx hb dX5_product_37 hl (by decide) rfl (fun ls hl => ?_)
            refine lv_aload_n hx hb dX5_product_39 rfl (lv_at hl 1 rfl) ?_
            refine lv_iload hx hb dX5_product_40 (lv_at hl 0 rfl) ?_
            refine kq_i hw hS hA (va_runV (As := [.int zi620]) (rest := []) ⟨hx, hb, hml, hown, hT⟩ (cX5_accept_0 l G cy ev K ln Ls hW _ hp486 ok488 qa900 zi620 kd900) (cwV 1 hT (good_V tb_854 tb_851 tb_853 tb_8 tb_109) rfl rfl rfl (by decide +kernel) ⟨Nat.le_of_ble_eq_true rfl, Nat.le_of_ble_eq_true rfl⟩) (pool_preV (ci := 5) hK hE hS hA hw hW kd900 (by decide) rfl) rfl rfl hl.1 rfl (lv_room (Nat.le_of_ble_eq_true rfl)) dX5_product_42 ⟨Nat.le_of_ble_eq_true rfl, Nat.le_of_ble_eq_true rfl⟩) (fun zi654 hp650 H locs hq653 hw hS => ?_)
            obtain ⟨ok651, F652, bd655, hc656, hc657⟩ := hq653
            have hw : PW G cy K ln Ls A hp650 H := hw
            refine lv_pop hx hb dX5_product_45 rfl ?_
            refine lv_aload_n hx hb dX5_product_46 rfl (lv_at hl 1 rfl) ?_
            refine lv_aload_n hx hb dX5_product_47 rfl (lv_at hl 2 rfl) ?_
            refine lv_iload_n hx hb dX5_product_48 rfl (lv_at hl 3 rfl) ?_
            refine kq_v hw hS hA (va_runV (As := [.ref qa901, .int zi902]) (rest := []) ⟨hx, hb, hml, hown, hT⟩ (cX5_unit_4 l G cy ev K ln Ls hW _ hp650 ok651 qa900 qa901 zi902 kd900 kd901 (b_wid2 bd902 (by decide) (by decide))) (cwV 2 hT (good_V tb_959 tb_956 tb_958 tb_24 tb_109) rfl rfl rfl (by decide +kernel) ⟨Nat.le_of_ble_eq_true rfl, Nat.le_of_ble_eq_true rfl⟩) (pool_preV (ci := 5) hK hE hS hA hw hW kd900 (by decide) rfl) rfl rfl hl.1 rfl (lv_room (Nat.le_of_ble_eq_true rfl)) dX5_product_49 ⟨Nat.le_of_ble_eq_true rfl, Nat.le_of_ble_eq_true rfl⟩) (fun hp658 H locs hq661 hw hS => ?_)
            obtain ⟨ok659, F660⟩ := hq661
            have hw : PW G cy K ln Ls A hp658 H := hw
            refine lv_aload_n hx hb dX5_product_52 rfl (lv_at hl 2 rfl) ?_
            refine lv_iload hx hb dX5_product_53 (lv_at hl 0 rfl) ?_
            refine lv_ineg hx hb dX5_product_55 (lv_topi (fun zi663 ea664 => ?_))
            refine kq_v hw hS hA (va_runV (As := [.int zi663]) (rest := []) ⟨hx, hb, hml, hown, hT⟩ (cX2_add_0 l G cy ev K ln Ls hW _ hp658 ok659 qa901 zi663 kd901) (cwV 1 hT (good_V tb_404 tb_960 tb_402 tb_403 tb_108) rfl rfl rfl (by decide +kernel) ⟨Nat.le_of_ble_eq_true rfl, Nat.le_of_ble_eq_true rfl⟩) (pool_preV (ci := 2) hK hE hS hA hw hW kd901 (by decide) rfl) rfl rfl hl.1 rfl (lv_room (Nat.le_of_ble_eq_true rfl)) dX5_product_56 ⟨Nat.le_of_ble_eq_true rfl, Nat.le_of_ble_eq_true rfl⟩) (fun hp665 H locs hq668 hw hS => ?_)
            obtain ⟨ok666, F667⟩ := hq668
            have hw : PW G cy K ln Ls A hp665 H := hw
            obtain ⟨zi670, ea671⟩ : ∃ z : Int32, z = zi485 + 1 := ⟨_, rfl⟩
            have bd672 : (1 : Int) ≤ zi670.toInt ∧ zi670.toInt ≤ 401 := b_iadd ea671 bd618 bc_1 (by decide) (by decide) (by decide) (by decide)
            have qe673 : zi670.toInt = (zi485 : Int32).toInt + (1 : Int32).toInt := e_iadd ea671 bd618 bc_1 (by decide) (by decide)
            have qe674 : zi670.toInt = zi485.toInt + 1 := by have ha : (1 : Int32).toInt = 1 := (by decide); rw [ha] at qe673; exact qe673
            refine lv_iinc (v := zi670) (lv' := [(3, .int zi670), (4, .int zi620), (0, .ref qa900), (1, .ref qa901), (2, .int zi902)]) hx hb dX5_product_59 hl (k := 4) rfl ea671.symm (by decide) rfl (fun ls hl => ?_)
            refine lv_goto (tgt := 8) hx hb dX5_product_62 (by decide) ?_
            exact ih613 hp665 zi670 _ _ ls (by have := hm615; have := qe674; omega) ok666 (Fr.tr (Fr.tr (Fr.tr (Fr.tr (Fr.rf) F487 (by decide)) F652 (by decide)) F660 (by decide)) F667 (by decide)) (b_wid2 bd672 (by decide) (by decide)) (lv_sub hl [2, 3, 4, 0] rfl) hw hS
  exact lp614 _ hp1 0 _ _ ls (lp_in _) ok2 (Fr.rf) (b_wid2 bc_0 (by decide) (by decide)) (lv_sub hl [1, 2, 3, 0] rfl) hw hS
