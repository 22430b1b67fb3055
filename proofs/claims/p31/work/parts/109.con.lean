set_option maxRecDepth 100000 in
set_option maxHeartbeats 4000000 in
theorem cX5_sum_4 (l : Launch) (G : va_G) (cy : Nat → ClassId) (ev : Ew) (K ln : Nat → Nat) (Ls : List Nat) (hW : SW K ln Ls) (sz : Nat) (hp0 : Nat → Nat → Value) (ok0 : Ok K hp0) (qa900 : Nat) (qa901 : Nat) (zi902 : Int32) (kd900 : K qa900 = 6) (kd901 : K qa901 = 3) (bd902 : ((2 : Int) ≤ zi902.toInt ∧ zi902.toInt ≤ 2)) : Met l yX5_sum (WS yX5_sum cX5_sum 5 none) { frames := 16, cells := 0, slots := 0, locals := 373 } (PB2 [.ref qa900, .ref qa901, .int zi902] sz G cy ev (va_pl Ls (cellOf cy K ln hp0))) (QBv (S := (Nat → Nat → Value)) (fun u : (Nat → Nat → Value) => Ok K u ∧ Fr [3002, 6002, 6003, 6004, 26000] K hp0 u) G (fun u => va_pl Ls (cellOf cy K ln u)) (va_A (va_pl Ls (cellOf cy K ln hp0)) sz)) 0 0 (va_A (va_pl Ls (cellOf cy K ln hp0)) sz) := by
  refine met_of2 (y := yX5_sum) (L := 5) (av := [.ref qa900, .ref qa901, .int zi902]) (Qc := fun A => QBv (S := (Nat → Nat → Value)) (fun u : (Nat → Nat → Value) => Ok K u ∧ Fr [3002, 6002, 6003, 6004, 26000] K hp0 u) G (fun u => va_pl Ls (cellOf cy K ln u)) A) (plainFor_of_name (by decide)) (Nat.le_of_ble_eq_true rfl) ?_
  intro p e s m below meth c hsz hx hb hr hml hown hT hlocks hin hK A hA hE hw hS ls hl
  have hw : PW G cy K ln Ls A hp0 s.heap := hw
  have hown : s.vm.findClass "LieClock$Parser" = some m.cls := hown
  have hl : lv_has ls 5 [(0, .ref qa900), (1, .ref qa901), (2, .int zi902)] := hl
  obtain ⟨Q, hQ⟩ : ∃ Q : State → Prop, Q = MQ below (QBv (S := (Nat → Nat → Value)) (fun u : (Nat → Nat → Value) => Ok K u ∧ Fr [3002, 6002, 6003, 6004, 26000] K hp0 u) G (fun u => va_pl Ls (cellOf cy K ln u)) A) ([.ref qa900, .ref qa901, .int zi902] : List Value).toArray s 0 0 A := ⟨_, rfl⟩
  rw [← hQ]
  refine lv_aload_n hx hb dX5_sum_0 rfl (lv_at hl 0 rfl) ?_
  refine lv_aload_n hx hb dX5_sum_1 rfl (lv_at hl 1 rfl) ?_
  refine lv_iload_n hx hb dX5_sum_2 rfl (lv_at hl 2 rfl) ?_
  refine kq_v hw hS hA (va_runV (As := [.ref qa901, .int zi902]) (rest := []) ⟨hx, hb, hml, hown, hT⟩ (cX5_product_4 l G cy ev K ln Ls hW _ hp0 ok0 qa900 qa901 zi902 kd900 kd901 (b_wid2 bd902 (by decide) (by decide))) (cwV 2 hT (good_V tb_955 tb_952 tb_954 tb_23 tb_109) rfl rfl rfl (by decide +kernel) ⟨Nat.le_of_ble_eq_true rfl, Nat.le_of_ble_eq_true rfl⟩) (pool_preV (ci := 5) hK hE hS hA hw hW kd900 (by decide) rfl) rfl rfl hl.1 rfl (lv_room (Nat.le_of_ble_eq_true rfl)) dX5_sum_3 ⟨Nat.le_of_ble_eq_true rfl, Nat.le_of_ble_eq_true rfl⟩) (fun hp1 H locs hq4 hw hS => ?_)
  obtain ⟨ok2, F3⟩ := hq4
  have hw : PW G cy K ln Ls A hp1 H := hw
  refine lv_iconst (v := 0) hx hb dX5_sum_6 (by decide) ?_
  refine lv_istore_n (lv' := [(3, .int 0), (0, .ref qa900), (1, .ref qa901), (2, .int zi902)]) hx hb dX5_sum_7 rfl hl (by decide) rfl (fun ls hl => ?_)
  have jn611 : ∀ (hp608 : Nat → Nat → Value)  (H : Heap) (locs : List Loc) (ls : Array Slot), Ok K hp608 → Fr [3002, 6002, 6003, 6004, 26000] K hp1 hp608 → lv_has ls 5 [] → PW G cy K ln Ls A hp608 H → va_S A s.heap H locs → W p l e ({ frames := 16, cells := 0, slots := 0, locals := 373 } : Room) s m ([.ref qa900, .ref qa901, .int zi902] : List Value).toArray below meth c H locs 0 0 Q (F0 m 65 ls []) := by
    intro hp608 H locs ls ok610 F609 hl hw hS
    rw [hQ]
    exact kz_v hx hb hr hlocks hS hp608 hw ⟨ok610, (Fr.tr (Fr.tr (Fr.rf) F3 (by decide)) F609 (by decide))⟩ (Nat.le_of_ble_eq_true rfl) (Nat.le_of_ble_eq_true rfl) dX5_sum_65
  have lp614 : ∀ (n612 : Nat) (hp486 : Nat → Nat → Value) (zi485 : Int32) (H : Heap) (locs : List Loc) (ls : Array Slot), 401 - zi485.toInt < (n612 : Int) → Ok K hp486 → Fr [3002, 6002, 6003, 6004, 26000] K hp1 hp486 → ((0 : Int) ≤ zi485.toInt ∧ zi485.toInt ≤ 401) → lv_has ls 5 [(0, .ref qa900), (1, .ref qa901), (2, .int zi902), (3, .int zi485)] → PW G cy K ln Ls A hp486 H → va_S A s.heap H locs → W p l e ({ frames := 16, cells := 0, slots := 0, locals := 373 } : Room) s m ([.ref qa900, .ref qa901, .int zi902] : List Value).toArray below meth c H locs 0 0 Q (F0 m 8 ls []) := by
    intro n612
    induction n612 with
    | zero =>
      intro hp486 zi485 H locs ls hm615 ok488 F487 bd489 hl hw hS
      exact absurd hm615 (by have := bd489; omega)
    | succ n612 ih613 =>
      intro hp486 zi485 H locs ls hm615 ok488 F487 bd489 hl hw hS
      refine lv_iload_n hx hb dX5_sum_8 rfl (lv_at hl 3 rfl) ?_
      refine lv_sipush (v := 400) hx hb dX5_sum_9 (by decide) ?_
      refine lv_icmp_gt (tgt := 65) hx hb dX5_sum_12 (by decide) (fun cn616 => ?_) (fun cn616 => ?_)
      · skip
        have bd617 : (401 : Int) ≤ zi485.toInt ∧ zi485.toInt ≤ 401 := r_lt_y cn616 bc_400 bd489 (by decide) (by decide)
        exact jn611 hp486 _ _ ls ok488 (Fr.tr (Fr.rf) F487 (by decide)) (lv_sub hl [] rfl) hw hS
      · skip
        have bd618 : (0 : Int) ≤ zi485.toInt ∧ zi485.toInt ≤ 400 := r_le_x (Int32.not_lt.mp cn616) bd489 bc_400 (by decide) (by decide)
        refine lv_aload_n hx hb dX5_sum_15 rfl (lv_at hl 0 rfl) ?_
        obtain ⟨zi620, eq619⟩ := rd_6003 ok488 kd900
        refine p_get (ci := 5) (v := .int zi620) (C := RX5) (T := TX5) (N := 7) hx hb hT iw_X5 hown hK hw hW kd900 (by decide) rfl rfl 3 (by decide) eq619 (hT _ tb_374) (fun _ h9 => h9) dX5_sum_16 ?_
        refine lv_bipush (v := 43) hx hb dX5_sum_19 (by decide) ?_
        refine lv_icmp_eq (tgt := 33) hx hb dX5_sum_21 (by decide) (fun cn621 => ?_) (fun cn621 => ?_)
        · skip
          have bd622 : (43 : Int) ≤ zi620.toInt ∧ zi620.toInt ≤ 43 := r_eq_x cn621 (b_all zi620) bc_43 (by decide) (by decide)
          refine lv_aload_n hx hb dX5_sum_33 rfl (lv_at hl 0 rfl) ?_
          refine p_get (ci := 5) (v := .int zi620) (C := RX5) (T := TX5) (N := 7) hx hb hT iw_X5 hown hK hw hW kd900 (by decide) rfl rfl 3 (by decide) eq619 (hT _ tb_374) (fun _ h9 => h9) dX5_sum_34 ?_
          refine lv_istore (lv' := [(4, .int zi620), (0, .ref qa900), (1, .ref qa901), (2, .int zi902), (3, .int zi485)]) hx hb dX5_sum_37 hl (by decide) rfl (fun ls hl => ?_)
          refine lv_aload_n hx hb dX5_sum_39 rfl (lv_at hl 1 rfl) ?_
          refine lv_iload hx hb dX5_sum_40 (lv_at hl 0 rfl) ?_
          refine kq_i hw hS hA (va_runV (As := [.int zi620]) (rest := []) ⟨hx, hb, hml, hown, hT⟩ (cX5_accept_0 l G cy ev K ln Ls hW _ hp486 ok488 qa900 zi620 kd900) (cwV 1 hT (good_V tb_854 tb_851 tb_853 tb_8 tb_109) rfl rfl rfl (by decide +kernel) ⟨Nat.le_of_ble_eq_true rfl, Nat.le_of_ble_eq_true rfl⟩) (pool_preV (ci := 5) hK hE hS hA hw hW kd900 (by decide) rfl) rfl rfl hl.1 rfl (lv_room (Nat.le_of_ble_eq_true rfl)) dX5_sum_42 ⟨Nat.le_of_ble_eq_true rfl, Nat.le_of_ble_eq_true rfl⟩) (fun zi627 hp623 H locs hq626 hw hS => ?_)
          obtain ⟨ok624, F625, bd628, hc629, hc630⟩ := hq626
          have hw : PW G cy K ln Ls A hp623 H := hw
          refine lv_pop hx hb dX5_sum_45 rfl ?_
          refine lv_aload_n hx hb dX5_sum_46 rfl (lv_at hl 1 rfl) ?_
          refine lv_aload_n hx hb dX5_sum_47 rfl (lv_at hl 2 rfl) ?_
          refine lv_iload_n hx hb dX5_sum_48 rfl (lv_at hl 3 rfl) ?_
          refine kq_v hw hS hA (va_runV (As := [.ref qa901, .int zi902]) (rest := []) ⟨hx, hb, hml, hown, hT⟩ (cX5_product_4 l G cy ev K ln Ls hW _ hp623 ok624 qa900 qa901 zi902 kd900 kd901 (b_wid2 bd902 (by decide) (by decide))) (cwV 2 hT (good_V tb_955 tb_952 tb_954 tb_23 tb_109) rfl rfl rfl (by decide +kernel) ⟨Nat.le_of_ble_eq_true rfl, Nat.le_of_ble_eq_true rfl⟩) (pool_preV (ci := 5) hK hE hS hA hw hW kd900 (by decide) rfl) rfl rfl hl.1 rfl (lv_room (Nat.le_of_ble_eq_true rfl)) dX5_sum_49 ⟨Nat.le_of_ble_eq_true rfl, Nat.le_of_ble_eq_true rfl⟩) (fun hp631 H locs hq634 hw hS => ?_)
          obtain ⟨ok632, F633⟩ := hq634
          have hw : PW G cy K ln Ls A hp631 H := hw
          refine lv_aload_n hx hb dX5_sum_52 rfl (lv_at hl 2 rfl) ?_
          refine lv_iload hx hb dX5_sum_53 (lv_at hl 0 rfl) ?_
          refine lv_ineg hx hb dX5_sum_55 (lv_topi (fun zi636 ea637 => ?_))
          refine kq_v hw hS hA (va_runV (As := [.int zi636]) (rest := []) ⟨hx, hb, hml, hown, hT⟩ (cX2_add_0 l G cy ev K ln Ls hW _ hp631 ok632 qa901 zi636 kd901) (cwV 1 hT (good_V tb_404 tb_960 tb_402 tb_403 tb_108) rfl rfl rfl (by decide +kernel) ⟨Nat.le_of_ble_eq_true rfl, Nat.le_of_ble_eq_true rfl⟩) (pool_preV (ci := 2) hK hE hS hA hw hW kd901 (by decide) rfl) rfl rfl hl.1 rfl (lv_room (Nat.le_of_ble_eq_true rfl)) dX5_sum_56 ⟨Nat.le_of_ble_eq_true rfl, Nat.le_of_ble_eq_true rfl⟩) (fun hp638 H locs hq641 hw hS => ?_)
          obtain ⟨ok639, F640⟩ := hq641
          have hw : PW G cy K ln Ls A hp638 H := hw
          obtain ⟨zi643, ea644⟩ : ∃ z : Int32, z = zi485 + 1 := ⟨_, rfl⟩
          have bd645 : (1 : Int) ≤ zi643.toInt ∧ zi643.toInt ≤ 401 := b_iadd ea644 bd618 bc_1 (by decide) (by decide) (by decide) (by decide)
          have qe646 : zi643.toInt = (zi485 : Int32).toInt + (1 : Int32).toInt := e_iadd ea644 bd618 bc_1 (by decide) (by decide)
          have qe647 : zi643.toInt = zi485.toInt + 1 := by have ha : (1 : Int32).toInt = 1 := (by decide); rw [ha] at qe646; exact qe646
          refine lv_iinc (v := zi643) (lv' := [(3, .int zi643), (4, .int zi620), (0, .ref qa900), (1, .ref qa901), (2, .int zi902)]) hx hb dX5_sum_59 hl (k := 4) rfl ea644.symm (by decide) rfl (fun ls hl => ?_)
          refine lv_goto (tgt := 8) hx hb dX5_sum_62 (by decide) ?_
          exact ih613 hp638 zi643 _ _ ls (by have := hm615; have := qe647; omega) ok639 (Fr.tr (Fr.tr (Fr.tr (Fr.tr (Fr.rf) F487 (by decide)) F625 (by decide)) F633 (by decide)) F640 (by decide)) (b_wid2 bd645 (by decide) (by decide)) (lv_sub hl [2, 3, 4, 0] rfl) hw hS
        · skip
          refine lv_aload_n hx hb dX5_sum_24 rfl (lv_at hl 0 rfl) ?_
          refine p_get (ci := 5) (v := .int zi620) (C := RX5) (T := TX5) (N := 7) hx hb hT iw_X5 hown hK hw hW kd900 (by decide) rfl rfl 3 (by decide) eq619 (hT _ tb_374) (fun _ h9 => h9) dX5_sum_25 ?_
          refine lv_bipush (v := 45) hx hb dX5_sum_28 (by decide) ?_
          refine lv_icmp_ne (tgt := 65) hx hb dX5_sum_30 (by decide) (fun cn648 => ?_) (fun cn648 => ?_)
          · skip
            exact jn611 hp486 _ _ ls ok488 (Fr.tr (Fr.rf) F487 (by decide)) (lv_sub hl [] rfl) hw hS
          · skip
            have bd649 : (45 : Int) ≤ zi620.toInt ∧ zi620.toInt ≤ 45 := r_eq_x cn648 (b_all zi620) bc_45 (by decide) (by decide)
            refine lv_aload_n hx hb dX5_sum_33 rfl (lv_at hl 0 rfl) ?_
            refine p_get (ci := 5) (v := .int zi620) (C := RX5) (T := TX5) (N := 7) hx hb hT iw_X5 hown hK hw hW kd900 (by decide) rfl rfl 3 (by decide) eq619 (hT _ tb_374) (fun _ h9 => h9) dX5_sum_34 ?_
            refine lv_istore (lv' := [(4, .int zi620), (0, .ref qa900), (1, .ref qa901), (2, .int zi902), (3, .int zi485)]) hx hb dX5_sum_37 hl (by decide) rfl (fun ls hl => ?_)
            refine lv_aload_n hx hb dX5_sum_39 rfl (lv_at hl 1 rfl) ?_
            refine lv_iload hx hb dX5_sum_40 (lv_at hl 0 rfl) ?_
            refine kq_i hw hS hA (va_runV (As := [.int zi620]) (rest := []) ⟨hx, hb, hml, hown, hT⟩ (cX5_accept_0 l G cy ev K ln Ls hW _ hp486 ok488 qa900 zi620 kd900) (cwV 1 hT (good_V tb_854 tb_851 tb_853 tb_8 tb_109) rfl rfl rfl (by decide +kernel) ⟨Nat.le_of_ble_eq_true rfl, Nat.le_of_ble_eq_true rfl⟩) (pool_preV (ci := 5) hK hE hS hA hw hW kd900 (by decide) rfl) rfl rfl hl.1 rfl (lv_room (Nat.le_of_ble_eq_true rfl)) dX5_sum_42 ⟨Nat.le_of_ble_eq_true rfl, Nat.le_of_ble_eq_true rfl⟩) (fun zi654 hp650 H locs hq653 hw hS => ?_)
            obtain ⟨ok651, F652, bd655, hc656, hc657⟩ := hq653
            have hw : PW G cy K ln Ls A hp650 H := hw
            refine lv_pop hx hb dX5_sum_45 rfl ?_
            refine lv_aload_n hx hb dX5_sum_46 rfl (lv_at hl 1 rfl) ?_
            refine lv_aload_n hx hb dX5_sum_47 rfl (lv_at hl 2 rfl) ?_
            refine lv_iload_n hx hb dX5_sum_48 rfl (lv_at hl 3 rfl) ?_
            refine kq_v hw hS hA (va_runV (As := [.ref qa901, .int zi902]) (rest := []) ⟨hx, hb, hml, hown, hT⟩ (cX5_product_4 l G cy ev K ln Ls hW _ hp650 ok651 qa900 qa901 zi902 kd900 kd901 (b_wid2 bd902 (by decide) (by decide))) (cwV 2 hT (good_V tb_955 tb_952 tb_954 tb_23 tb_109) rfl rfl rfl (by decide +kernel) ⟨Nat.le_of_ble_eq_true rfl, Nat.le_of_ble_eq_true rfl⟩) (pool_preV (ci := 5) hK hE hS hA hw hW kd900 (by decide) rfl) rfl rfl hl.1 rfl (lv_room (Nat.le_of_ble_eq_true rfl)) dX5_sum_49 ⟨Nat.le_of_ble_eq_true rfl, Nat.le_of_ble_eq_true rfl⟩) (fun hp658 H locs hq661 hw hS => ?_)
            obtain ⟨ok659, F660⟩ := hq661
            have hw : PW G cy K ln Ls A hp658 H := hw
            refine lv_aload_n hx hb dX5_sum_52 rfl (lv_at hl 2 rfl) ?_
            refine lv_iload hx hb dX5_sum_53 (lv_at hl 0 rfl) ?_
            refine lv_ineg hx hb dX5_sum_55 (lv_topi (fun zi663 ea664 => ?_))
            refine kq_v hw hS hA (va_runV (As := [.int zi663]) (rest := []) ⟨hx, hb, hml, hown, hT⟩ (cX2_add_0 l G cy ev K ln Ls hW _ hp658 ok659 qa901 zi663 kd901) (cwV 1 hT (good_V tb_404 tb_960 tb_402 tb_403 tb_108) rfl rfl rfl (by decide +kernel) ⟨Nat.le_of_ble_eq_true rfl, Nat.le_of_ble_eq_true rfl⟩) (pool_preV (ci := 2) hK hE hS hA hw hW kd901 (by decide) rfl) rfl rfl hl.1 rfl (lv_room (Nat.le_of_ble_eq_true rfl)) dX5_sum_56 ⟨Nat.le_of_ble_eq_true rfl, Nat.le_of_ble_eq_true rfl⟩) (fun hp665 H locs hq668 hw hS => ?_)
            obtain ⟨ok666, F667⟩ := hq668
            have hw : PW G cy K ln Ls A hp665 H := hw
            obtain ⟨zi670, ea671⟩ : ∃ z : Int32, z = zi485 + 1 := ⟨_, rfl⟩
            have bd672 : (1 : Int) ≤ zi670.toInt ∧ zi670.toInt ≤ 401 := b_iadd ea671 bd618 bc_1 (by decide) (by decide) (by decide) (by decide)
            have qe673 : zi670.toInt = (zi485 : Int32).toInt + (1 : Int32).toInt := e_iadd ea671 bd618 bc_1 (by decide) (by decide)
            have qe674 : zi670.toInt = zi485.toInt + 1 := by have ha : (1 : Int32).toInt = 1 := (by decide); rw [ha] at qe673; exact qe673
            refine lv_iinc (v := zi670) (lv' := [(3, .int zi670), (4, .int zi620), (0, .ref qa900), (1, .ref qa901), (2, .int zi902)]) hx hb dX5_sum_59 hl (k := 4) rfl ea671.symm (by decide) rfl (fun ls hl => ?_)
            refine lv_goto (tgt := 8) hx hb dX5_sum_62 (by decide) ?_
            exact ih613 hp665 zi670 _ _ ls (by have := hm615; have := qe674; omega) ok666 (Fr.tr (Fr.tr (Fr.tr (Fr.tr (Fr.rf) F487 (by decide)) F652 (by decide)) F660 (by decide)) F667 (by decide)) (b_wid2 bd672 (by decide) (by decide)) (lv_sub hl [2, 3, 4, 0] rfl) hw hS
  exact lp614 _ hp1 0 _ _ ls (lp_in _) ok2 (Fr.rf) (b_wid2 bc_0 (by decide) (by decide)) (lv_sub hl [1, 2, 3, 0] rfl) hw hS

set_option maxRecDepth 100000 in
set_option maxHeartbeats 4000000 in
theorem cX5_unit_5 (l : Launch) (G : va_G) (cy : Nat → ClassId) (ev : Ew) (K ln : Nat → Nat) (Ls : List Nat) (hW : SW K ln Ls) (sz : Nat) (hp0 : Nat → Nat → Value) (ok0 : Ok K hp0) (qa900 : Nat) (qa901 : Nat) (zi902 : Int32) (kd900 : K qa900 = 6) (kd901 : K qa901 = 3) (bd902 : ((1 : Int) ≤ zi902.toInt ∧ zi902.toInt ≤ 1)) : Met l yX5_unit (WS yX5_unit cX5_unit 4 none) { frames := 17, cells := 0, slots := 0, locals := 397 } (PB2 [.ref qa900, .ref qa901, .int zi902] sz G cy ev (va_pl Ls (cellOf cy K ln hp0))) (QBv (S := (Nat → Nat → Value)) (fun u : (Nat → Nat → Value) => Ok K u ∧ Fr [3002, 6002, 6003, 6004, 26000] K hp0 u) G (fun u => va_pl Ls (cellOf cy K ln u)) (va_A (va_pl Ls (cellOf cy K ln hp0)) sz)) 0 0 (va_A (va_pl Ls (cellOf cy K ln hp0)) sz) := by
  refine met_of2 (y := yX5_unit) (L := 4) (av := [.ref qa900, .ref qa901, .int zi902]) (Qc := fun A => QBv (S := (Nat → Nat → Value)) (fun u : (Nat → Nat → Value) => Ok K u ∧ Fr [3002, 6002, 6003, 6004, 26000] K hp0 u) G (fun u => va_pl Ls (cellOf cy K ln u)) A) (plainFor_of_name (by decide)) (Nat.le_of_ble_eq_true rfl) ?_
  intro p e s m below meth c hsz hx hb hr hml hown hT hlocks hin hK A hA hE hw hS ls hl
  have hw : PW G cy K ln Ls A hp0 s.heap := hw
  have hown : s.vm.findClass "LieClock$Parser" = some m.cls := hown
  have hl : lv_has ls 4 [(0, .ref qa900), (1, .ref qa901), (2, .int zi902)] := hl
  obtain ⟨Q, hQ⟩ : ∃ Q : State → Prop, Q = MQ below (QBv (S := (Nat → Nat → Value)) (fun u : (Nat → Nat → Value) => Ok K u ∧ Fr [3002, 6002, 6003, 6004, 26000] K hp0 u) G (fun u => va_pl Ls (cellOf cy K ln u)) A) ([.ref qa900, .ref qa901, .int zi902] : List Value).toArray s 0 0 A := ⟨_, rfl⟩
  rw [← hQ]
  refine lv_aload_n hx hb dX5_unit_0 rfl (lv_at hl 0 rfl) ?_
  obtain ⟨zi2, eq1⟩ := rd_6003 ok0 kd900
  refine p_get (ci := 5) (v := .int zi2) (C := RX5) (T := TX5) (N := 7) hx hb hT iw_X5 hown hK hw hW kd900 (by decide) rfl rfl 3 (by decide) eq1 (hT _ tb_374) (fun _ h9 => h9) dX5_unit_1 ?_
  refine lv_istore_n (lv' := [(3, .int zi2), (0, .ref qa900), (1, .ref qa901), (2, .int zi902)]) hx hb dX5_unit_4 rfl hl (by decide) rfl (fun ls hl => ?_)
  refine lv_iload_n hx hb dX5_unit_5 rfl (lv_at hl 0 rfl) ?_
  refine lv_bipush (v := 40) hx hb dX5_unit_6 (by decide) ?_
  refine lv_icmp_ne (tgt := 36) hx hb dX5_unit_8 (by decide) (fun cn3 => ?_) (fun cn3 => ?_)
  · skip
    refine lv_iload_n hx hb dX5_unit_36 rfl (lv_at hl 0 rfl) ?_
    refine lv_bipush (v := 103) hx hb dX5_unit_37 (by decide) ?_
    refine lv_icmp_eq (tgt := 54) hx hb dX5_unit_39 (by decide) (fun cn4 => ?_) (fun cn4 => ?_)
    · skip
      have bd5 : (103 : Int) ≤ zi2.toInt ∧ zi2.toInt ≤ 103 := r_eq_x cn4 (b_all zi2) bc_103 (by decide) (by decide)
      refine lv_aload_n hx hb dX5_unit_54 rfl (lv_at hl 1 rfl) ?_
      refine lv_iload_n hx hb dX5_unit_55 rfl (lv_at hl 0 rfl) ?_
      refine kq_i hw hS hA (va_runV (As := [.int zi2]) (rest := []) ⟨hx, hb, hml, hown, hT⟩ (cX5_accept_0 l G cy ev K ln Ls hW _ hp0 ok0 qa900 zi2 kd900) (cwV 1 hT (good_V tb_854 tb_851 tb_853 tb_8 tb_109) rfl rfl rfl (by decide +kernel) ⟨Nat.le_of_ble_eq_true rfl, Nat.le_of_ble_eq_true rfl⟩) (pool_preV (ci := 5) hK hE hS hA hw hW kd900 (by decide) rfl) rfl rfl hl.1 rfl (lv_room (Nat.le_of_ble_eq_true rfl)) dX5_unit_56 ⟨Nat.le_of_ble_eq_true rfl, Nat.le_of_ble_eq_true rfl⟩) (fun zi10 hp6 H locs hq9 hw hS => ?_)
      obtain ⟨ok7, F8, bd11, hc12, hc13⟩ := hq9
      have hw : PW G cy K ln Ls A hp6 H := hw
      refine lv_pop hx hb dX5_unit_59 rfl ?_
      refine lv_aload_n hx hb dX5_unit_60 rfl (lv_at hl 2 rfl) ?_
      refine lv_iload_n hx hb dX5_unit_61 rfl (lv_at hl 0 rfl) ?_
      refine lv_ineg hx hb dX5_unit_62 (lv_topi (fun zi14 ea15 => ?_))
      refine kq_v hw hS hA (va_runV (As := [.int zi14]) (rest := []) ⟨hx, hb, hml, hown, hT⟩ (cX2_add_0 l G cy ev K ln Ls hW _ hp6 ok7 qa901 zi14 kd901) (cwV 1 hT (good_V tb_404 tb_960 tb_402 tb_403 tb_108) rfl rfl rfl (by decide +kernel) ⟨Nat.le_of_ble_eq_true rfl, Nat.le_of_ble_eq_true rfl⟩) (pool_preV (ci := 2) hK hE hS hA hw hW kd901 (by decide) rfl) rfl rfl hl.1 rfl (lv_room (Nat.le_of_ble_eq_true rfl)) dX5_unit_63 ⟨Nat.le_of_ble_eq_true rfl, Nat.le_of_ble_eq_true rfl⟩) (fun hp16 H locs hq19 hw hS => ?_)
      obtain ⟨ok17, F18⟩ := hq19
      have hw : PW G cy K ln Ls A hp16 H := hw
      refine lv_goto (tgt := 79) hx hb dX5_unit_66 (by decide) ?_
      rw [hQ]
      exact kz_v hx hb hr hlocks hS hp16 hw ⟨ok17, (Fr.tr (Fr.tr (Fr.rf) F8 (by decide)) F18 (by decide))⟩ (Nat.le_of_ble_eq_true rfl) (Nat.le_of_ble_eq_true rfl) dX5_unit_79
    · skip
      refine lv_iload_n hx hb dX5_unit_42 rfl (lv_at hl 0 rfl) ?_
      refine lv_bipush (v := 114) hx hb dX5_unit_43 (by decide) ?_
      refine lv_icmp_lt (tgt := 69) hx hb dX5_unit_45 (by decide) (fun cn21 => ?_) (fun cn21 => ?_)
      · skip
        have bd22 : (-2147483648 : Int) ≤ zi2.toInt ∧ zi2.toInt ≤ 113 := r_lt_x cn21 (b_all zi2) bc_114 (by decide) (by decide)
        refine lv_aload_n hx hb dX5_unit_69 rfl (lv_at hl 2 rfl) ?_
        refine lv_aload_n hx hb dX5_unit_70 rfl (lv_at hl 1 rfl) ?_
        refine lv_iconst (v := 3) hx hb dX5_unit_71 (by decide) ?_
        refine kq_l hw hS hA (va_runV (As := [.int 3]) (rest := [.ref qa901]) ⟨hx, hb, hml, hown, hT⟩ (cX5_take_0 l G cy ev K ln Ls hW _ hp0 ok0 qa900 3 kd900) (cwV 1 hT (good_V tb_862 tb_859 tb_861 tb_10 tb_109) rfl rfl rfl (by decide +kernel) ⟨Nat.le_of_ble_eq_true rfl, Nat.le_of_ble_eq_true rfl⟩) (pool_preV (ci := 5) hK hE hS hA hw hW kd900 (by decide) rfl) rfl rfl hl.1 rfl (lv_room (Nat.le_of_ble_eq_true rfl)) dX5_unit_72 ⟨Nat.le_of_ble_eq_true rfl, Nat.le_of_ble_eq_true rfl⟩) (fun wl27 hp23 H locs hq26 hw hS => ?_)
        obtain ⟨ok24, F25⟩ := hq26
        have hw : PW G cy K ln Ls A hp23 H := hw
        refine lv_l2i hx hb dX5_unit_75 rfl (lv_topi (fun zi28 ea29 => ?_))
        refine kq_v hw hS hA (va_runV (As := [.int zi28]) (rest := []) ⟨hx, hb, hml, hown, hT⟩ (cX2_add_0 l G cy ev K ln Ls hW _ hp23 ok24 qa901 zi28 kd901) (cwV 1 hT (good_V tb_404 tb_960 tb_402 tb_403 tb_108) rfl rfl rfl (by decide +kernel) ⟨Nat.le_of_ble_eq_true rfl, Nat.le_of_ble_eq_true rfl⟩) (pool_preV (ci := 2) hK hE hS hA hw hW kd901 (by decide) rfl) rfl rfl hl.1 rfl (lv_room (Nat.le_of_ble_eq_true rfl)) dX5_unit_76 ⟨Nat.le_of_ble_eq_true rfl, Nat.le_of_ble_eq_true rfl⟩) (fun hp30 H locs hq33 hw hS => ?_)
        obtain ⟨ok31, F32⟩ := hq33
        have hw : PW G cy K ln Ls A hp30 H := hw
        rw [hQ]
        exact kz_v hx hb hr hlocks hS hp30 hw ⟨ok31, (Fr.tr (Fr.tr (Fr.rf) F25 (by decide)) F32 (by decide))⟩ (Nat.le_of_ble_eq_true rfl) (Nat.le_of_ble_eq_true rfl) dX5_unit_79
      · skip
        have bd35 : (114 : Int) ≤ zi2.toInt ∧ zi2.toInt ≤ 2147483647 := r_le_y (Int32.not_lt.mp cn21) bc_114 (b_all zi2) (by decide) (by decide)
        refine lv_iload_n hx hb dX5_unit_48 rfl (lv_at hl 0 rfl) ?_
        refine lv_bipush (v := 117) hx hb dX5_unit_49 (by decide) ?_
        refine lv_icmp_gt (tgt := 69) hx hb dX5_unit_51 (by decide) (fun cn36 => ?_) (fun cn36 => ?_)
        · skip
          have bd37 : (118 : Int) ≤ zi2.toInt ∧ zi2.toInt ≤ 2147483647 := r_lt_y cn36 bc_117 bd35 (by decide) (by decide)
          refine lv_aload_n hx hb dX5_unit_69 rfl (lv_at hl 2 rfl) ?_
          refine lv_aload_n hx hb dX5_unit_70 rfl (lv_at hl 1 rfl) ?_
          refine lv_iconst (v := 3) hx hb dX5_unit_71 (by decide) ?_
          refine kq_l hw hS hA (va_runV (As := [.int 3]) (rest := [.ref qa901]) ⟨hx, hb, hml, hown, hT⟩ (cX5_take_0 l G cy ev K ln Ls hW _ hp0 ok0 qa900 3 kd900) (cwV 1 hT (good_V tb_862 tb_859 tb_861 tb_10 tb_109) rfl rfl rfl (by decide +kernel) ⟨Nat.le_of_ble_eq_true rfl, Nat.le_of_ble_eq_true rfl⟩) (pool_preV (ci := 5) hK hE hS hA hw hW kd900 (by decide) rfl) rfl rfl hl.1 rfl (lv_room (Nat.le_of_ble_eq_true rfl)) dX5_unit_72 ⟨Nat.le_of_ble_eq_true rfl, Nat.le_of_ble_eq_true rfl⟩) (fun wl42 hp38 H locs hq41 hw hS => ?_)
          obtain ⟨ok39, F40⟩ := hq41
          have hw : PW G cy K ln Ls A hp38 H := hw
          refine lv_l2i hx hb dX5_unit_75 rfl (lv_topi (fun zi43 ea44 => ?_))
          refine kq_v hw hS hA (va_runV (As := [.int zi43]) (rest := []) ⟨hx, hb, hml, hown, hT⟩ (cX2_add_0 l G cy ev K ln Ls hW _ hp38 ok39 qa901 zi43 kd901) (cwV 1 hT (good_V tb_404 tb_960 tb_402 tb_403 tb_108) rfl rfl rfl (by decide +kernel) ⟨Nat.le_of_ble_eq_true rfl, Nat.le_of_ble_eq_true rfl⟩) (pool_preV (ci := 2) hK hE hS hA hw hW kd901 (by decide) rfl) rfl rfl hl.1 rfl (lv_room (Nat.le_of_ble_eq_true rfl)) dX5_unit_76 ⟨Nat.le_of_ble_eq_true rfl, Nat.le_of_ble_eq_true rfl⟩) (fun hp45 H locs hq48 hw hS => ?_)
          obtain ⟨ok46, F47⟩ := hq48
          have hw : PW G cy K ln Ls A hp45 H := hw
          rw [hQ]
          exact kz_v hx hb hr hlocks hS hp45 hw ⟨ok46, (Fr.tr (Fr.tr (Fr.rf) F40 (by decide)) F47 (by decide))⟩ (Nat.le_of_ble_eq_true rfl) (Nat.le_of_ble_eq_true rfl) dX5_unit_79
        · skip
          have bd50 : (114 : Int) ≤ zi2.toInt ∧ zi2.toInt ≤ 117 := r_le_x (Int32.not_lt.mp cn36) bd35 bc_117 (by decide) (by decide)
          refine lv_aload_n hx hb dX5_unit_54 rfl (lv_at hl 1 rfl) ?_
          refine lv_iload_n hx hb dX5_unit_55 rfl (lv_at hl 0 rfl) ?_
          refine kq_i hw hS hA (va_runV (As := [.int zi2]) (rest := []) ⟨hx, hb, hml, hown, hT⟩ (cX5_accept_0 l G cy ev K ln Ls hW _ hp0 ok0 qa900 zi2 kd900) (cwV 1 hT (good_V tb_854 tb_851 tb_853 tb_8 tb_109) rfl rfl rfl (by decide +kernel) ⟨Nat.le_of_ble_eq_true rfl, Nat.le_of_ble_eq_true rfl⟩) (pool_preV (ci := 5) hK hE hS hA hw hW kd900 (by decide) rfl) rfl rfl hl.1 rfl (lv_room (Nat.le_of_ble_eq_true rfl)) dX5_unit_56 ⟨Nat.le_of_ble_eq_true rfl, Nat.le_of_ble_eq_true rfl⟩) (fun zi55 hp51 H locs hq54 hw hS => ?_)
          obtain ⟨ok52, F53, bd56, hc57, hc58⟩ := hq54
          have hw : PW G cy K ln Ls A hp51 H := hw
          refine lv_pop hx hb dX5_unit_59 rfl ?_
          refine lv_aload_n hx hb dX5_unit_60 rfl (lv_at hl 2 rfl) ?_
          refine lv_iload_n hx hb dX5_unit_61 rfl (lv_at hl 0 rfl) ?_
          refine lv_ineg hx hb dX5_unit_62 (lv_topi (fun zi59 ea60 => ?_))
          refine kq_v hw hS hA (va_runV (As := [.int zi59]) (rest := []) ⟨hx, hb, hml, hown, hT⟩ (cX2_add_0 l G cy ev K ln Ls hW _ hp51 ok52 qa901 zi59 kd901) (cwV 1 hT (good_V tb_404 tb_960 tb_402 tb_403 tb_108) rfl rfl rfl (by decide +kernel) ⟨Nat.le_of_ble_eq_true rfl, Nat.le_of_ble_eq_true rfl⟩) (pool_preV (ci := 2) hK hE hS hA hw hW kd901 (by decide) rfl) rfl rfl hl.1 rfl (lv_room (Nat.le_of_ble_eq_true rfl)) dX5_unit_63 ⟨Nat.le_of_ble_eq_true rfl, Nat.le_of_ble_eq_true rfl⟩) (fun hp61 H locs hq64 hw hS => ?_)
          obtain ⟨ok62, F63⟩ := hq64
          have hw : PW G cy K ln Ls A hp61 H := hw
          refine lv_goto (tgt := 79) hx hb dX5_unit_66 (by decide) ?_
          rw [hQ]
          exact kz_v hx hb hr hlocks hS hp61 hw ⟨ok62, (Fr.tr (Fr.tr (Fr.rf) F53 (by decide)) F63 (by decide))⟩ (Nat.le_of_ble_eq_true rfl) (Nat.le_of_ble_eq_true rfl) dX5_unit_79
  · skip
    have bd66 : (40 : Int) ≤ zi2.toInt ∧ zi2.toInt ≤ 40 := r_eq_x cn3 (b_all zi2) bc_40 (by decide) (by decide)
    refine lv_aload_n hx hb dX5_unit_11 rfl (lv_at hl 1 rfl) ?_
    refine lv_iload_n hx hb dX5_unit_12 rfl (lv_at hl 3 rfl) ?_
    refine kq_i hw hS hA (va_runV (As := [.int zi902]) (rest := []) ⟨hx, hb, hml, hown, hT⟩ (cX5_enter_1 l G cy ev K ln Ls hW _ hp0 ok0 qa900 zi902 kd900 (b_wid2 bd902 (by decide) (by decide))) (cwV 1 hT (good_V tb_922 tb_919 tb_921 tb_18 tb_109) rfl rfl rfl (by decide +kernel) ⟨Nat.le_of_ble_eq_true rfl, Nat.le_of_ble_eq_true rfl⟩) (pool_preV (ci := 5) hK hE hS hA hw hW kd900 (by decide) rfl) rfl rfl hl.1 rfl (lv_room (Nat.le_of_ble_eq_true rfl)) dX5_unit_13 ⟨Nat.le_of_ble_eq_true rfl, Nat.le_of_ble_eq_true rfl⟩) (fun zi71 hp67 H locs hq70 hw hS => ?_)
    obtain ⟨ok68, F69, bd72, hc73, hc74⟩ := hq70
    have hw : PW G cy K ln Ls A hp67 H := hw
    have jn95 : ∀ (hp92 : Nat → Nat → Value)  (H : Heap) (locs : List Loc) (ls : Array Slot), Ok K hp92 → Fr [3002, 6002, 6003, 6004, 26000] K hp67 hp92 → lv_has ls 4 [(0, .ref qa900)] → PW G cy K ln Ls A hp92 H → va_S A s.heap H locs → W p l e ({ frames := 17, cells := 0, slots := 0, locals := 397 } : Room) s m ([.ref qa900, .ref qa901, .int zi902] : List Value).toArray below meth c H locs 0 0 Q (F0 m 27 ls []) := by
      intro hp92 H locs ls ok94 F93 hl hw hS
      refine lv_aload_n hx hb dX5_unit_27 rfl (lv_at hl 0 rfl) ?_
      refine lv_bipush (v := 41) hx hb dX5_unit_28 (by decide) ?_
      refine kq_v hw hS hA (va_runV (As := [.int 41]) (rest := []) ⟨hx, hb, hml, hown, hT⟩ (cX5_expect_0 l G cy ev K ln Ls hW _ hp92 ok94 qa900 41 kd900) (cwV 1 hT (good_V tb_889 tb_886 tb_888 tb_12 tb_109) rfl rfl rfl (by decide +kernel) ⟨Nat.le_of_ble_eq_true rfl, Nat.le_of_ble_eq_true rfl⟩) (pool_preV (ci := 5) hK hE hS hA hw hW kd900 (by decide) rfl) rfl rfl hl.1 rfl (lv_room (Nat.le_of_ble_eq_true rfl)) dX5_unit_30 ⟨Nat.le_of_ble_eq_true rfl, Nat.le_of_ble_eq_true rfl⟩) (fun hp96 H locs hq99 hw hS => ?_)
      obtain ⟨ok97, F98⟩ := hq99
      have hw : PW G cy K ln Ls A hp96 H := hw
      refine lv_goto (tgt := 79) hx hb dX5_unit_33 (by decide) ?_
      rw [hQ]
      exact kz_v hx hb hr hlocks hS hp96 hw ⟨ok97, (Fr.tr (Fr.tr (Fr.tr (Fr.rf) F69 (by decide)) F93 (by decide)) F98 (by decide))⟩ (Nat.le_of_ble_eq_true rfl) (Nat.le_of_ble_eq_true rfl) dX5_unit_79
    rcases b01 bd72 with cn75 | cn75
    · skip
      subst cn75
      refine lv_if_eq (tgt := 27) hx hb dX5_unit_16 (by decide) (fun _ => ?_) (fun c => absurd (d_eq bc_0 bc_0) c)
      exact jn95 hp67 _ _ ls ok68 (Fr.rf) (lv_sub hl [1] rfl) hw hS
    · skip
      subst cn75
      obtain ⟨zi101, eq102, bd103⟩ := hc73 rfl
      obtain ⟨zi104, eq105, bd106⟩ := hc74 rfl
      refine lv_if_eq (tgt := 27) hx hb dX5_unit_16 (by decide) (fun c => absurd c (d_ne bc_1 bc_0 (by decide))) (fun _ => ?_)
      refine lv_aload_n hx hb dX5_unit_19 rfl (lv_at hl 1 rfl) ?_
      refine lv_aload_n hx hb dX5_unit_20 rfl (lv_at hl 2 rfl) ?_
      refine lv_iload_n hx hb dX5_unit_21 rfl (lv_at hl 3 rfl) ?_
      refine lv_iconst (v := 1) hx hb dX5_unit_22 (by decide) ?_
      refine lv_iadd hx hb dX5_unit_23 (lv_topi (fun zi107 ea108 => ?_))
      have bd109 : (2 : Int) ≤ zi107.toInt ∧ zi107.toInt ≤ 2 := b_iadd ea108 bd902 bc_1 (by decide) (by decide) (by decide) (by decide)
      have qe110 : zi107.toInt = (zi902 : Int32).toInt + (1 : Int32).toInt := e_iadd ea108 bd902 bc_1 (by decide) (by decide)
      have qe111 : zi107.toInt = zi902.toInt + 1 := by have ha : (1 : Int32).toInt = 1 := (by decide); rw [ha] at qe110; exact qe110
      refine kq_v hw hS hA (va_runV (As := [.ref qa901, .int zi107]) (rest := []) ⟨hx, hb, hml, hown, hT⟩ (cX5_sum_4 l G cy ev K ln Ls hW _ hp67 ok68 qa900 qa901 zi107 kd900 kd901 (b_wid2 bd109 (by decide) (by decide))) (cwV 2 hT (good_V tb_951 tb_948 tb_950 tb_22 tb_109) rfl rfl rfl (by decide +kernel) ⟨Nat.le_of_ble_eq_true rfl, Nat.le_of_ble_eq_true rfl⟩) (pool_preV (ci := 5) hK hE hS hA hw hW kd900 (by decide) rfl) rfl rfl hl.1 rfl (lv_room (Nat.le_of_ble_eq_true rfl)) dX5_unit_24 ⟨Nat.le_of_ble_eq_true rfl, Nat.le_of_ble_eq_true rfl⟩) (fun hp112 H locs hq115 hw hS => ?_)
      obtain ⟨ok113, F114⟩ := hq115
      have hw : PW G cy K ln Ls A hp112 H := hw
      exact jn95 hp112 _ _ ls ok113 (Fr.tr (Fr.rf) F114 (by decide)) (lv_sub hl [1] rfl) hw hS

set_option maxRecDepth 100000 in
set_option maxHeartbeats 4000000 in
theorem cX5_product_5 (l : Launch) (G : va_G) (cy : Nat → ClassId) (ev : Ew) (K ln : Nat → Nat) (Ls : List Nat) (hW : SW K ln Ls) (sz : Nat) (hp0 : Nat → Nat → Value) (ok0 : Ok K hp0) (qa900 : Nat) (qa901 : Nat) (zi902 : Int32) (kd900 : K qa900 = 6) (kd901 : K qa901 = 3) (bd902 : ((1 : Int) ≤ zi902.toInt ∧ zi902.toInt ≤ 1)) : Met l yX5_product (WS yX5_product cX5_product 5 none) { frames := 18, cells := 0, slots := 0, locals := 420 } (PB2 [.ref qa900, .ref qa901, .int zi902] sz G cy ev (va_pl Ls (cellOf cy K ln hp0))) (QBv (S := (Nat → Nat → Value)) (fun u : (Nat → Nat → Value) => Ok K u ∧ Fr [3002, 6002, 6003, 6004, 26000] K hp0 u) G (fun u => va_pl Ls (cellOf cy K ln u)) (va_A (va_pl Ls (cellOf cy K ln hp0)) sz)) 0 0 (va_A (va_pl Ls (cellOf cy K ln hp0)) sz) := by
  refine met_of2 (y := yX5_product) (L := 5) (av := [.ref qa900, .ref qa901, .int zi902]) (Qc := fun A => QBv (S := (Nat → Nat → Value)) (fun u : (Nat → Nat → Value) => Ok K u ∧ Fr [3002, 6002, 6003, 6004, 26000] K hp0 u) G (fun u => va_pl Ls (cellOf cy K ln u)) A) (plainFor_of_name (by decide)) (Nat.le_of_ble_eq_true rfl) ?_
  intro p e s m below meth c hsz hx hb hr hml hown hT hlocks hin hK A hA hE hw hS ls hl
  have hw : PW G cy K ln Ls A hp0 s.heap := hw
  have hown : s.vm.findClass "LieClock$Parser" = some m.cls := hown
  have hl : lv_has ls 5 [(0, .ref qa900), (1, .ref qa901), (2, .int zi902)] := hl
  obtain ⟨Q, hQ⟩ : ∃ Q : State → Prop, Q = MQ below (QBv (S := (Nat → Nat → Value)) (fun u : (Nat → Nat → Value) => Ok K u ∧ Fr [3002, 6002, 6003, 6004, 26000] K hp0 u) G (fun u => va_pl Ls (cellOf cy K ln u)) A) ([.ref qa900, .ref qa901, .int zi902] : List Value).toArray s 0 0 A := ⟨_, rfl⟩
  rw [← hQ]
  refine lv_aload_n hx hb dX5_product_0 rfl (lv_at hl 0 rfl) ?_
  refine lv_aload_n hx hb dX5_product_1 rfl (lv_at hl 1 rfl) ?_
  refine lv_iload_n hx hb dX5_product_2 rfl (lv_at hl 2 rfl) ?_
  refine kq_v hw hS hA (va_runV (As := [.ref qa901, .int zi902]) (rest := []) ⟨hx, hb, hml, hown, hT⟩ (cX5_unit_5 l G cy ev K ln Ls hW _ hp0 ok0 qa900 qa901 zi902 kd900 kd901 (b_wid2 bd902 (by decide) (by decide))) (cwV 2 hT (good_V tb_959 tb_956 tb_958 tb_24 tb_109) rfl rfl rfl (by decide +kernel) ⟨Nat.le_of_ble_eq_true rfl, Nat.le_of_ble_eq_true rfl⟩) (pool_preV (ci := 5) hK hE hS hA hw hW kd900 (by decide) rfl) rfl rfl hl.1 rfl (lv_room (Nat.le_of_ble_eq_true rfl)) dX5_product_3 ⟨Nat.le_of_ble_eq_true rfl, Nat.le_of_ble_eq_true rfl⟩) (fun hp1 H locs hq4 hw hS => ?_)
  obtain ⟨ok2, F3⟩ := hq4
  have hw : PW G cy K ln Ls A hp1 H := hw
  refine lv_iconst (v := 0) hx hb dX5_product_6 (by decide) ?_
  refine lv_istore_n (lv' := [(3, .int 0), (0, .ref qa900), (1, .ref qa901), (2, .int zi902)]) hx hb dX5_product_7 rfl hl (by decide) rfl (fun ls hl => ?_)
  have jn611 : ∀ (hp608 : Nat → Nat → Value)  (H : Heap) (locs : List Loc) (ls : Array Slot), Ok K hp608 → Fr [3002, 6002, 6003, 6004, 26000] K hp1 hp608 → lv_has ls 5 [] → PW G cy K ln Ls A hp608 H → va_S A s.heap H locs → W p l e ({ frames := 18, cells := 0, slots := 0, locals := 420 } : Room) s m ([.ref qa900, .ref qa901, .int zi902] : List Value).toArray below meth c H locs 0 0 Q (F0 m 65 ls []) := by
    intro hp608 H locs ls ok610 F609 hl hw hS
    rw [hQ]
    exact kz_v hx hb hr hlocks hS hp608 hw ⟨ok610, (Fr.tr (Fr.tr (Fr.rf) F3 (by decide)) F609 (by decide))⟩ (Nat.le_of_ble_eq_true rfl) (Nat.le_of_ble_eq_true rfl) dX5_product_65
  have lp614 : ∀ (n612 : Nat) (hp486 : Nat → Nat → Value) (zi485 : Int32) (H : Heap) (locs : List Loc) (ls : Array Slot), 401 - zi485.toInt < (n612 : Int) → Ok K hp486 → Fr [3002, 6002, 6003, 6004, 26000] K hp1 hp486 → ((0 : Int) ≤ zi485.toInt ∧ zi485.toInt ≤ 401) → lv_has ls 5 [(0, .ref qa900), (1, .ref qa901), (2, .int zi902), (3, .int zi485)] → PW G cy K ln Ls A hp486 H → va_S A s.heap H locs → W p l e ({ frames := 18, cells := 0, slots := 0, locals := 420 } : Room) s m ([.ref qa900, .ref qa901, .int zi902] : List Value).toArray below meth c H locs 0 0 Q (F0 m 8 ls []) := by
    intro n612
    induction n612 with
    | zero =>
      intro hp486 zi485 H locs ls hm615 ok488 F487 bd489 hl hw hS
      exact absurd hm615 (by have := bd489; omega)
    | succ n612 ih613 =>
      intro hp486 zi485 H locs ls hm615 ok488 F487 bd489 hl hw hS
      refine lv_iload_n hx hb dX5_product_8 rfl (lv_at hl 3 rfl) ?_
      refine lv_sipush (v := 400) hx hb dX5_product_9 (by decide) ?_
      refine lv_icmp_gt (tgt := 65) hx hb dX5_product_12 (by decide) (fun cn616 => ?_) (fun cn616 => ?_)
      · skip
        have bd617 : (401 : Int) ≤ zi485.toInt ∧ zi485.toInt ≤ 401 := r_lt_y cn616 bc_400 bd489 (by decide) (by decide)
        exact jn611 hp486 _ _ ls ok488 (Fr.tr (Fr.rf) F487 (by decide)) (lv_sub hl [] rfl) hw hS
      · skip
        have bd618 : (0 : Int) ≤ zi485.toInt ∧ zi485.toInt ≤ 400 := r_le_x (Int32.not_lt.mp cn616) bd489 bc_400 (by decide) (by decide)
        refine lv_aload_n hx hb dX5_product_15 rfl (lv_at hl 0 rfl) ?_
        obtain ⟨zi620, eq619⟩ := rd_6003 ok488 kd900
        refine p_get (ci := 5) (v := .int zi620) (C := RX5) (T := TX5) (N := 7) hx hb hT iw_X5 hown hK hw hW kd900 (by decide) rfl rfl 3 (by decide) eq619 (hT _ tb_374) (fun _ h9 => h9) dX5_product_16 ?_
        refine lv_bipush (v := 42) hx hb dX5_product_19 (by decide) ?_
        refine lv_icmp_eq (tgt := 33) hx hb dX5_product_21 (by decide) (fun cn621 => ?_) (fun cn621 => ?_)
        · skip
          have bd622 : (42 : Int) ≤ zi620.toInt ∧ zi620.toInt ≤ 42 := r_eq_x cn621 (b_all zi620) bc_42 (by decide) (by decide)
          refine lv_aload_n hx hb dX5_product_33 rfl (lv_at hl 0 rfl) ?_
          refine p_get (ci := 5) (v := .int zi620) (C := RX5) (T := TX5) (N := 7) hx hb hT iw_X5 hown hK hw hW kd900 (by decide) rfl rfl 3 (by decide) eq619 (hT _ tb_374) (fun _ h9 => h9) dX5_product_34 ?_
          refine lv_istore (lv' := [(4, .int zi620), (0, .ref qa900), (1, .ref qa901), (2, .int zi902), (3, .int zi485)]) hx hb dX5_product_37 hl (by decide) rfl (fun ls hl => ?_)
          refine lv_aload_n hx hb dX5_product_39 rfl (lv_at hl 1 rfl) ?_
          refine lv_iload hx hb dX5_product_40 (lv_at hl 0 rfl) ?_
          refine kq_i hw hS hA (va_runV (As := [.int zi620]) (rest := []) ⟨hx, hb, hml, hown, hT⟩ (cX5_accept_0 l G cy ev K ln Ls hW _ hp486 ok488 qa900 zi620 kd900) (cwV 1 hT (good_V tb_854 tb_851 tb_853 tb_8 tb_109) rfl rfl rfl (by decide +kernel) ⟨Nat.le_of_ble_eq_true rfl, Nat.le_of_ble_eq_true rfl⟩) (pool_preV (ci := 5) hK hE hS hA hw hW kd900 (by decide) rfl) rfl rfl hl.1 rfl (lv_room (Nat.le_of_ble_eq_true rfl)) dX5_product_42 ⟨Nat.le_of_ble_eq_true rfl, Nat.le_of_ble_eq_true rfl⟩) (fun zi627 hp623 H locs hq626 hw hS => ?_)
          obtain ⟨ok624, F625, bd628, hc629, hc630⟩ := hq626
          have hw : PW G cy K ln Ls A hp623 H := hw
          refine lv_pop hx hb dX5_product_45 rfl ?_
          refine lv_aload_n hx hb dX5_product_46 rfl (lv_at hl 1 rfl) ?_
          refine lv_aload_n hx hb dX5_product_47 rfl (lv_at hl 2 rfl) ?_
          refine lv_iload_n hx hb dX5_product_48 rfl (lv_at hl 3 rfl) ?_
          refine kq_v hw hS hA (va_runV (As := [.ref qa901, .int zi902]) (rest := []) ⟨hx, hb, hml, hown, hT⟩ (cX5_unit_5 l G cy ev K ln Ls hW _ hp623 ok624 qa900 qa901 zi902 kd900 kd901 (b_wid2 bd902 (by decide) (by decide))) (cwV 2 hT (good_V tb_959 tb_956 tb_958 tb_24 tb_109) rfl rfl rfl (by decide +kernel) ⟨Nat.le_of_ble_eq_true rfl, Nat.le_of_ble_eq_true rfl⟩) (pool_preV (ci := 5) hK hE hS hA hw hW kd900 (by decide) rfl) rfl rfl hl.1 rfl (lv_room (Nat.le_of_ble_eq_true rfl)) dX5_product_49 ⟨Nat.le_of_ble_eq_true rfl, Nat.le_of_ble_eq_true rfl⟩) (fun hp631 H locs hq634 hw hS => ?_)
          obtain ⟨ok632, F633⟩ := hq634
          have hw : PW G cy K ln Ls A hp631 H := hw
          refine lv_aload_n hx hb dX5_product_52 rfl (lv_at hl 2 rfl) ?_
          refine lv_iload hx hb dX5_product_53 (lv_at hl 0 rfl) ?_
          refine lv_ineg hx hb dX5_product_55 (lv_topi (fun zi636 ea637 => ?_))
          refine kq_v hw hS hA (va_runV (As := [.int zi636]) (rest := []) ⟨hx, hb, hml, hown, hT⟩ (cX2_add_0 l G cy ev K ln Ls hW _ hp631 ok632 qa901 zi636 kd901) (cwV 1 hT (good_V tb_404 tb_960 tb_402 tb_403 tb_108) rfl rfl rfl (by decide +kernel) ⟨Nat.le_of_ble_eq_true rfl, Nat.le_of_ble_eq_true rfl⟩) (pool_preV (ci := 2) hK hE hS hA hw hW kd901 (by decide) rfl) rfl rfl hl.1 rfl (lv_room (Nat.le_of_ble_eq_true rfl)) dX5_product_56 ⟨Nat.le_of_ble_eq_true rfl, Nat.le_of_ble_eq_true rfl⟩) (fun hp638 H locs hq641 hw hS => ?_)
          obtain ⟨ok639, F640⟩ := hq641
          have hw : PW G cy K ln Ls A hp638 H := hw
          obtain ⟨zi643, ea644⟩ : ∃ z : Int32, z = zi485 + 1 := ⟨_, rfl⟩
          have bd645 : (1 : Int) ≤ zi643.toInt ∧ zi643.toInt ≤ 401 := b_iadd ea644 bd618 bc_1 (by decide) (by decide) (by decide) (by decide)
          have qe646 : zi643.toInt = (zi485 : Int32).toInt + (1 : Int32).toInt := e_iadd ea644 bd618 bc_1 (by decide) (by decide)
          have qe647 : zi643.toInt = zi485.toInt + 1 := by have ha : (1 : Int32).toInt = 1 := (by decide); rw [ha] at qe646; exact qe646
          refine lv_iinc (v := zi643) (lv' := [(3, .int zi643), (4, .int zi620), (0, .ref qa900), (1, .ref qa901), (2, .int zi902)]) hx hb dX5_product_59 hl (k := 4) rfl ea644.symm (by decide) rfl (fun ls hl => ?_)
          refine lv_goto (tgt := 8) hx hb dX5_product_62 (by decide) ?_
          exact ih613 hp638 zi643 _ _ ls (by have := hm615; have := qe647; omega) ok639 (Fr.tr (Fr.tr (Fr.tr (Fr.tr (Fr.rf) F487 (by decide)) F625 (by decide)) F633 (by decide)) F640 (by decide)) (b_wid2 bd645 (by decide) (by decide)) (lv_sub hl [2, 3, 4, 0] rfl) hw hS
        · skip
          refine lv_aload_n hx hb dX5_product_24 rfl (lv_at hl 0 rfl) ?_
          refine p_get (ci := 5) (v := .int zi620) (C := RX5) (T := TX5) (N := 7) hx hb hT iw_X5 hown hK hw hW kd900 (by decide) rfl rfl 3 (by decide) eq619 (hT _ tb_374) (fun _ h9 => h9) dX5_product_25 ?_
          refine lv_bipush (v := 47) hx hb dX5_product_28 (by decide) ?_
          refine lv_icmp_ne (tgt := 65) hx hb dX5_product_30 (by decide) (fun cn648 => ?_) (fun cn648 => ?_)
          · skip
            exact jn611 hp486 _ _ ls ok488 (Fr.tr (Fr.rf) F487 (by decide)) (lv_sub hl [] rfl) hw hS
          · skip
            have bd649 : (47 : Int) ≤ zi620.toInt ∧ zi620.toInt ≤ 47 := r_eq_x cn648 (b_all zi620) bc_47 (by decide) (by decide)
            refine lv_aload_n hx hb dX5_product_33 rfl (lv_at hl 0 rfl) ?_
            refine p_get (ci := 5) (v := .int zi620) (C := RX5) (T := TX5) (N := 7) hx hb hT iw_X5 hown hK hw hW kd900 (by decide) rfl rfl 3 (by decide) eq619 (hT _ tb_374) (fun _ h9 => h9) dX5_product_34 ?_
            refine lv_istore (lv' := [(4, .int zi620), (0, .ref qa900), (1, .ref qa901), (2, .int zi902), (3, .int zi485)]) hx hb dX5_product_37 hl (by decide) rfl (fun ls hl => ?_)
            refine lv_aload_n hx hb dX5_product_39 rfl (lv_at hl 1 rfl) ?_
            refine lv_iload hx hb dX5_product_40 (lv_at hl 0 rfl) ?_
            refine kq_i hw hS hA (va_runV (As := [.int zi620]) (rest := []) ⟨hx, hb, hml, hown, hT⟩ (cX5_accept_0 l G cy ev K ln Ls hW _ hp486 ok488 qa900 zi620 kd900) (cwV 1 hT (good_V tb_854 tb_851 tb_853 tb_8 tb_109) rfl rfl rfl (by decide +kernel) ⟨Nat.le_of_ble_eq_true rfl, Nat.le_of_ble_eq_true rfl⟩) (pool_preV (ci := 5) hK hE hS hA hw hW kd900 (by decide) rfl) rfl rfl hl.1 rfl (lv_room (Nat.le_of_ble_eq_true rfl)) dX5_product_42 ⟨Nat.le_of_ble_eq_true rfl, Nat.le_of_ble_eq_true rfl⟩) (fun zi654 hp650 H locs hq653 hw hS => ?_)
            obtain ⟨ok651, F652, bd655, hc656, hc657⟩ := hq653
            have hw : PW G cy K ln Ls A hp650 H := hw
            refine lv_pop hx hb dX5_product_45 rfl ?_
            refine lv_aload_n hx hb dX5_product_46 rfl (lv_at hl 1 rfl) ?_
            refine lv_aload_n hx hb dX5_product_47 rfl (lv_at hl 2 rfl) ?_
            refine lv_iload_n hx hb dX5_product_48 rfl (lv_at hl 3 rfl) ?_
            refine kq_v hw hS hA (va_runV (As := [.ref qa901, .int zi902]) (rest := []) ⟨hx, hb, hml, hown, hT⟩ (cX5_unit_5 l G cy ev K ln Ls hW _ hp650 ok651 qa900 qa901 zi902 kd900 kd901 (b_wid2 bd902 (by decide) (by decide))) (cwV 2 hT (good_V tb_959 tb_956 tb_958 tb_24 tb_109) rfl rfl rfl (by decide +kernel) ⟨Nat.le_of_ble_eq_true rfl, Nat.le_of_ble_eq_true rfl⟩) (pool_preV (ci := 5) hK hE hS hA hw hW kd900 (by decide) rfl) rfl rfl hl.1 rfl (lv_room (Nat.le_of_ble_eq_true rfl)) dX5_product_49 ⟨Nat.le_of_ble_eq_true rfl, Nat.le_of_ble_eq_true rfl⟩) (fun hp658 H locs hq661 hw hS => ?_)
            obtain ⟨ok659, F660⟩ := hq661
            have hw : PW G cy K ln Ls A hp658 H := hw
            refine lv_aload_n hx hb dX5_product_52 rfl (lv_at hl 2 rfl) ?_
            refine lv_iload hx hb dX5_product_53 (lv_at hl 0 rfl) ?_
            refine lv_ineg hx hb dX5_product_55 (lv_topi (fun zi663 ea664 => ?_))
            refine kq_v hw hS hA (va_runV (As := [.int zi663]) (rest := []) ⟨hx, hb, hml, hown, hT⟩ (cX2_add_0 l G cy ev K ln Ls hW _ hp658 ok659 qa901 zi663 kd901) (cwV 1 hT (good_V tb_404 tb_960 tb_402 tb_403 tb_108) rfl rfl rfl (by decide +kernel) ⟨Nat.le_of_ble_eq_true rfl, Nat.le_of_ble_eq_true rfl⟩) (pool_preV (ci := 2) hK hE hS hA hw hW kd901 (by decide) rfl) rfl rfl hl.1 rfl (lv_room (Nat.le_of_ble_eq_true rfl)) dX5_product_56 ⟨Nat.le_of_ble_eq_true rfl, Nat.le_of_ble_eq_true rfl⟩) (fun hp665 H locs hq668 hw hS => ?_)
            obtain ⟨ok666, F667⟩ := hq668
            have hw : PW G cy K ln Ls A hp665 H := hw
            obtain ⟨zi670, ea671⟩ : ∃ z : Int32, z = zi485 + 1 := ⟨_, rfl⟩
            have bd672 : (1 : Int) ≤ zi670.toInt ∧ zi670.toInt ≤ 401 := b_iadd ea671 bd618 bc_1 (by decide) (by decide) (by decide) (by decide)
            have qe673 : zi670.toInt = (zi485 : Int32).toInt + (1 : Int32).toInt := e_iadd ea671 bd618 bc_1 (by decide) (by decide)
            have qe674 : zi670.toInt = zi485.toInt + 1 := by have ha : (1 : Int32).toInt = 1 := (by decide); rw [ha] at qe673; exact qe673
            refine lv_iinc (v := zi670) (lv' := [(3, .int zi670), (4, .int zi620), (0, .ref qa900), (1, .ref qa901), (2, .int zi902)]) hx hb dX5_product_59 hl (k := 4) rfl ea671.symm (by decide) rfl (fun ls hl => ?_)
            refine lv_goto (tgt := 8) hx hb dX5_product_62 (by decide) ?_
            exact ih613 hp665 zi670 _ _ ls (by have := hm615; have := qe674; omega) ok666 (Fr.tr (Fr.tr (Fr.tr (Fr.tr (Fr.rf) F487 (by decide)) F652 (by decide)) F660 (by decide)) F667 (by decide)) (b_wid2 bd672 (by decide) (by decide)) (lv_sub hl [2, 3, 4, 0] rfl) hw hS
  exact lp614 _ hp1 0 _ _ ls (lp_in _) ok2 (Fr.rf) (b_wid2 bc_0 (by decide) (by decide)) (lv_sub hl [1, 2, 3, 0] rfl) hw hS

set_option maxRecDepth 100000 in
set_option maxHeartbeats 4000000 in
theorem cX5_sum_5 (l : Launch) (G : va_G) (cy : Nat → ClassId) (ev : Ew) (K ln : Nat → Nat) (Ls : List Nat) (hW : SW K ln Ls) (sz : Nat) (hp0 : Nat → Nat → Value) (ok0 : Ok K hp0) (qa900 : Nat) (qa901 : Nat) (zi902 : Int32) (kd900 : K qa900 = 6) (kd901 : K qa901 = 3) (bd902 : ((1 : Int) ≤ zi902.toInt ∧ zi902.toInt ≤ 1)) : Met l yX5_sum (WS yX5_sum cX5_sum 5 none) { frames := 19, cells := 0, slots := 0, locals := 444 } (PB2 [.ref qa900, .ref qa901, .int zi902] sz G cy ev (va_pl Ls (cellOf cy K ln hp0))) (QBv (S := (Nat → Nat → Value)) (fun u : (Nat → Nat → Value) => Ok K u ∧ Fr [3002, 6002, 6003, 6004, 26000] K hp0 u) G (fun u => va_pl Ls (cellOf cy K ln u)) (va_A (va_pl Ls (cellOf cy K ln hp0)) sz)) 0 0 (va_A (va_pl Ls (cellOf cy K ln hp0)) sz) := by
  refine met_of2 (y := yX5_sum) (L := 5) (av := [.ref qa900, .ref qa901, .int zi902]) (Qc := fun A => QBv (S := (Nat → Nat → Value)) (fun u : (Nat → Nat → Value) => Ok K u ∧ Fr [3002, 6002, 6003, 6004, 26000] K hp0 u) G (fun u => va_pl Ls (cellOf cy K ln u)) A) (plainFor_of_name (by decide)) (Nat.le_of_ble_eq_true rfl) ?_
  intro p e s m below meth c hsz hx hb hr hml hown hT hlocks hin hK A hA hE hw hS ls hl
  have hw : PW G cy K ln Ls A hp0 s.heap := hw
  have hown : s.vm.findClass "LieClock$Parser" = some m.cls := hown
  have hl : lv_has ls 5 [(0, .ref qa900), (1, .ref qa901), (2, .int zi902)] := hl
  obtain ⟨Q, hQ⟩ : ∃ Q : State → Prop, Q = MQ below (QBv (S := (Nat → Nat → Value)) (fun u : (Nat → Nat → Value) => Ok K u ∧ Fr [3002, 6002, 6003, 6004, 26000] K hp0 u) G (fun u => va_pl Ls (cellOf cy K ln u)) A) ([.ref qa900, .ref qa901, .int zi902] : List Value).toArray s 0 0 A := ⟨_, rfl⟩
  rw [← hQ]
  refine lv_aload_n hx hb dX5_sum_0 rfl (lv_at hl 0 rfl) ?_
  refine lv_aload_n hx hb dX5_sum_1 rfl (lv_at hl 1 rfl) ?_
  refine lv_iload_n hx hb dX5_sum_2 rfl (lv_at hl 2 rfl) ?_
  refine kq_v hw hS hA (va_runV (As := [.ref qa901, .int zi902]) (rest := []) ⟨hx, hb, hml, hown, hT⟩ (cX5_product_5 l G cy ev K ln Ls hW _ hp0 ok0 qa900 qa901 zi902 kd900 kd901 (b_wid2 bd902 (by decide) (by decide))) (cwV 2 hT (good_V tb_955 tb_952 tb_954 tb_23 tb_109) rfl rfl rfl (by decide +kernel) ⟨Nat.le_of_ble_eq_true rfl, Nat.le_of_ble_eq_true rfl⟩) (pool_preV (ci := 5) hK hE hS hA hw hW kd900 (by decide) rfl) rfl rfl hl.1 rfl (lv_room (Nat.le_of_ble_eq_true rfl)) dX5_sum_3 ⟨Nat.le_of_ble_eq_true rfl, Nat.le_of_ble_eq_true rfl⟩) (fun hp1 H locs hq4 hw hS => ?_)
  obtain ⟨ok2, F3⟩ := hq4
  have hw : PW G cy K ln Ls A hp1 H := hw
  refine lv_iconst (v := 0) hx hb dX5_sum_6 (by decide) ?_
  refine lv_istore_n (lv' := [(3, .int 0), (0, .ref qa900), (1, .ref qa901), (2, .int zi902)]) hx hb dX5_sum_7 rfl hl (by decide) rfl (fun ls hl => ?_)
  have jn611 : ∀ (hp608 : Nat → Nat → Value)  (H : Heap) (locs : List Loc) (ls : Array Slot), Ok K hp608 → Fr [3002, 6002, 6003, 6004, 26000] K hp1 hp608 → lv_has ls 5 [] → PW G cy K ln Ls A hp608 H → va_S A s.heap H locs → W p l e ({ frames := 19, cells := 0, slots := 0, locals := 444 } : Room) s m ([.ref qa900, .ref qa901, .int zi902] : List Value).toArray below meth c H locs 0 0 Q (F0 m 65 ls []) := by
    intro hp608 H locs ls ok610 F609 hl hw hS
    rw [hQ]
    exact kz_v hx hb hr hlocks hS hp608 hw ⟨ok610, (Fr.tr (Fr.tr (Fr.rf) F3 (by decide)) F609 (by decide))⟩ (Nat.le_of_ble_eq_true rfl) (Nat.le_of_ble_eq_true rfl) dX5_sum_65
  have lp614 : ∀ (n612 : Nat) (hp486 : Nat → Nat → Value) (zi485 : Int32) (H : Heap) (locs : List Loc) (ls : Array Slot), 401 - zi485.toInt < (n612 : Int) → Ok K hp486 → Fr [3002, 6002, 6003, 6004, 26000] K hp1 hp486 → ((0 : Int) ≤ zi485.toInt ∧ zi485.toInt ≤ 401) → lv_has ls 5 [(0, .ref qa900), (1, .ref qa901), (2, .int zi902), (3, .int zi485)] → PW G cy K ln Ls A hp486 H → va_S A s.heap H locs → W p l e ({ frames := 19, cells := 0, slots := 0, locals := 444 } : Room) s m ([.ref qa900, .ref qa901, .int zi902] : List Value).toArray below meth c H locs 0 0 Q (F0 m 8 ls []) := by
    intro n612
    induction n612 with
    | zero =>
      intro hp486 zi485 H locs ls hm615 ok488 F487 bd489 hl hw hS
      exact absurd hm615 (by have := bd489; omega)
    | succ n612 ih613 =>
      intro hp486 zi485 H locs ls hm615 ok488 F487 bd489 hl hw hS
      refine lv_iload_n hx hb dX5_sum_8 rfl (lv_at hl 3 rfl) ?_
      refine lv_sipush (v := 400) hx hb dX5_sum_9 (by decide) ?_
      refine lv_icmp_gt (tgt := 65) hx hb dX5_sum_12 (by decide) (fun cn616 => ?_) (fun cn616 => ?_)
      · skip
        have bd617 : (401 : Int) ≤ zi485.toInt ∧ zi485.toInt ≤ 401 := r_lt_y cn616 bc_400 bd489 (by decide) (by decide)
        exact jn611 hp486 _ _ ls ok488 (Fr.tr (Fr.rf) F487 (by decide)) (lv_sub hl [] rfl) hw hS
      · skip
        have bd618 : (0 : Int) ≤ zi485.toInt ∧ zi485.toInt ≤ 400 := r_le_x (Int32.not_lt.mp cn616) bd489 bc_400 (by decide) (by decide)
        refine lv_aload_n hx hb dX5_sum_15 rfl (lv_at hl 0 rfl) ?_
        obtain ⟨zi620, eq619⟩ := rd_6003 ok488 kd900
        refine p_get (ci := 5) (v := .int zi620) (C := RX5) (T := TX5) (N := 7) hx hb hT iw_X5 hown hK hw hW kd900 (by decide) rfl rfl 3 (by decide) eq619 (hT _ tb_374) (fun _ h9 => h9) dX5_sum_16 ?_
        refine lv_bipush (v := 43) hx hb dX5_sum_19 (by decide) ?_
        refine lv_icmp_eq (tgt := 33) hx hb dX5_sum_21 (by decide) (fun cn621 => ?_) (fun cn621 => ?_)
        · skip
          have bd622 : (43 : Int) ≤ zi620.toInt ∧ zi620.toInt ≤ 43 := r_eq_x cn621 (b_all zi620) bc_43 (by decide) (by decide)
          refine lv_aload_n hx hb dX5_sum_33 rfl (lv_at hl 0 rfl) ?_
          refine p_get (ci := 5) (v := .int zi620) (C := RX5) (T := TX5) (N := 7) hx hb hT iw_X5 hown hK hw hW kd900 (by decide) rfl rfl 3 (by decide) eq619 (hT _ tb_374) (fun _ h9 => h9) dX5_sum_34 ?_
          refine lv_istore (lv' := [(4, .int zi620), (0, .ref qa900), (1, .ref qa901), (2, .int zi902), (3, .int zi485)]) hx hb dX5_sum_37 hl (by decide) rfl (fun ls hl => ?_)
          refine lv_aload_n hx hb dX5_sum_39 rfl (lv_at hl 1 rfl) ?_
          refine lv_iload hx hb dX5_sum_40 (lv_at hl 0 rfl) ?_
          refine kq_i hw hS hA (va_runV (As := [.int zi620]) (rest := []) ⟨hx, hb, hml, hown, hT⟩ (cX5_accept_0 l G cy ev K ln Ls hW _ hp486 ok488 qa900 zi620 kd900) (cwV 1 hT (good_V tb_854 tb_851 tb_853 tb_8 tb_109) rfl rfl rfl (by decide +kernel) ⟨Nat.le_of_ble_eq_true rfl, Nat.le_of_ble_eq_true rfl⟩) (pool_preV (ci := 5) hK hE hS hA hw hW kd900 (by decide) rfl) rfl rfl hl.1 rfl (lv_room (Nat.le_of_ble_eq_true rfl)) dX5_sum_42 ⟨Nat.le_of_ble_eq_true rfl, Nat.le_of_ble_eq_true rfl⟩) (fun zi627 hp623 H locs hq626 hw hS => ?_)
          obtain ⟨ok624, F625, bd628, hc629, hc630⟩ := hq626
          have hw : PW G cy K ln Ls A hp623 H := hw
          refine lv_pop hx hb dX5_sum_45 rfl ?_
          refine lv_aload_n hx hb dX5_sum_46 rfl (lv_at hl 1 rfl) ?_
          refine lv_aload_n hx hb dX5_sum_47 rfl (lv_at hl 2 rfl) ?_
          refine lv_iload_n hx hb dX5_sum_48 rfl (lv_at hl 3 rfl) ?_
          refine kq_v hw hS hA (va_runV (As := [.ref qa901, .int zi902]) (rest := []) ⟨hx, hb, hml, hown, hT⟩ (cX5_product_5 l G cy ev K ln Ls hW _ hp623 ok624 qa900 qa901 zi902 kd900 kd901 (b_wid2 bd902 (by decide) (by decide))) (cwV 2 hT (good_V tb_955 tb_952 tb_954 tb_23 tb_109) rfl rfl rfl (by decide +kernel) ⟨Nat.le_of_ble_eq_true rfl, Nat.le_of_ble_eq_true rfl⟩) (pool_preV (ci := 5) hK hE hS hA hw hW kd900 (by decide) rfl) rfl rfl hl.1 rfl (lv_room (Nat.le_of_ble_eq_true rfl)) dX5_sum_49 ⟨Nat.le_of_ble_eq_true rfl, Nat.le_of_ble_eq_true rfl⟩) (fun hp631 H locs hq634 hw hS => ?_)
          obtain ⟨ok632, F633⟩ := hq634
          have hw : PW G cy K ln Ls A hp631 H := hw
          refine lv_aload_n hx hb dX5_sum_52 rfl (lv_at hl 2 rfl) ?_
          refine lv_iload hx hb dX5_sum_53 (lv_at hl 0 rfl) ?_
          refine lv_ineg hx hb dX5_sum_55 (lv_topi (fun zi636 ea637 => ?_))
          refine kq_v hw hS hA (va_runV (As := [.int zi636]) (rest := []) ⟨hx, hb, hml, hown, hT⟩ (cX2_add_0 l G cy ev K ln Ls hW _ hp631 ok632 qa901 zi636 kd901) (cwV 1 hT (good_V tb_404 tb_960 tb_402 tb_403 tb_108) rfl rfl rfl (by decide +kernel) ⟨Nat.le_of_ble_eq_true rfl, Nat.le_of_ble_eq_true rfl⟩) (pool_preV (ci := 2) hK hE hS hA hw hW kd901 (by decide) rfl) rfl rfl hl.1 rfl (lv_room (Nat.le_of_ble_eq_true rfl)) dX5_sum_56 ⟨Nat.le_of_ble_eq_true rfl, Nat.le_of_ble_eq_true rfl⟩) (fun hp638 H locs hq641 hw hS => ?_)
          obtain ⟨ok639, F640⟩ := hq641
          have hw : PW G cy K ln Ls A hp638 H := hw
          obtain ⟨zi643, ea644⟩ : ∃ z : Int32, z = zi485 + 1 := ⟨_, rfl⟩
          have bd645 : (1 : Int) ≤ zi643.toInt ∧ zi643.toInt ≤ 401 := b_iadd ea644 bd618 bc_1 (by decide) (by decide) (by decide) (by decide)
          have qe646 : zi643.toInt = (zi485 : Int32).toInt + (1 : Int32).toInt := e_iadd ea644 bd618 bc_1 (by decide) (by decide)
          have qe647 : zi643.toInt = zi485.toInt + 1 := by have ha : (1 : Int32).toInt = 1 := (by decide); rw [ha] at qe646; exact qe646
          refine lv_iinc (v := zi643) (lv' := [(3, .int zi643), (4, .int zi620), (0, .ref qa900), (1, .ref qa901), (2, .int zi902)]) hx hb dX5_sum_59 hl (k := 4) rfl ea644.symm (by decide) rfl (fun ls hl => ?_)
          refine lv_goto (tgt := 8) hx hb dX5_sum_62 (by decide) ?_
          exact ih613 hp638 zi643 _ _ ls (by have := hm615; have := qe647; omega) ok639 (Fr.tr (Fr.tr (Fr.tr (Fr.tr (Fr.rf) F487 (by decide)) F625 (by decide)) F633 (by decide)) F640 (by decide)) (b_wid2 bd645 (by decide) (by decide)) (lv_sub hl [2, 3, 4, 0] rfl) hw hS
        · skip
          refine lv_aload_n hx hb dX5_sum_24 rfl (lv_at hl 0 rfl) ?_
          refine p_get (ci := 5) (v := .int zi620) (C := RX5) (T := TX5) (N := 7) hx hb hT iw_X5 hown hK hw hW kd900 (by decide) rfl rfl 3 (by decide) eq619 (hT _ tb_374) (fun _ h9 => h9) dX5_sum_25 ?_
          refine lv_bipush (v := 45) hx hb dX5_sum_28 (by decide) ?_
          refine lv_icmp_ne (tgt := 65) hx hb dX5_sum_30 (by decide) (fun cn648 => ?_) (fun cn648 => ?_)
          · skip
            exact jn611 hp486 _ _ ls ok488 (Fr.tr (Fr.rf) F487 (by decide)) (lv_sub hl [] rfl) hw hS
          · skip
            have bd649 : (45 : Int) ≤ zi620.toInt ∧ zi620.toInt ≤ 45 := r_eq_x cn648 (b_all zi620) bc_45 (by decide) (by decide)
            refine lv_aload_n hx hb dX5_sum_33 rfl (lv_at hl 0 rfl) ?_
            refine p_get (ci := 5) (v := .int zi620) (C := RX5) (T := TX5) (N := 7) hx hb hT iw_X5 hown hK hw hW kd900 (by decide) rfl rfl 3 (by decide) eq619 (hT _ tb_374) (fun _ h9 => h9) dX5_sum_34 ?_
            refine lv_istore (lv' := [(4, .int zi620), (0, .ref qa900), (1, .ref qa901), (2, .int zi902), (3, .int zi485)]) hx hb dX5_sum_37 hl (by decide) rfl (fun ls hl => ?_)
            refine lv_aload_n hx hb dX5_sum_39 rfl (lv_at hl 1 rfl) ?_
            refine lv_iload hx hb dX5_sum_40 (lv_at hl 0 rfl) ?_
            refine kq_i hw hS hA (va_runV (As := [.int zi620]) (rest := []) ⟨hx, hb, hml, hown, hT⟩ (cX5_accept_0 l G cy ev K ln Ls hW _ hp486 ok488 qa900 zi620 kd900) (cwV 1 hT (good_V tb_854 tb_851 tb_853 tb_8 tb_109) rfl rfl rfl (by decide +kernel) ⟨Nat.le_of_ble_eq_true rfl, Nat.le_of_ble_eq_true rfl⟩) (pool_preV (ci := 5) hK hE hS hA hw hW kd900 (by decide) rfl) rfl rfl hl.1 rfl (lv_room (Nat.le_of_ble_eq_true rfl)) dX5_sum_42 ⟨Nat.le_of_ble_eq_true rfl, Nat.le_of_ble_eq_true rfl⟩) (fun zi654 hp650 H locs hq653 hw hS => ?_)
            obtain ⟨ok651, F652, bd655, hc656, hc657⟩ := hq653
            have hw : PW G cy K ln Ls A hp650 H := hw
            refine lv_pop hx hb dX5_sum_45 rfl ?_
            refine lv_aload_n hx hb dX5_sum_46 rfl (lv_at hl 1 rfl) ?_
            refine lv_aload_n hx hb dX5_sum_47 rfl (lv_at hl 2 rfl) ?_
            refine lv_iload_n hx hb dX5_sum_48 rfl (lv_at hl 3 rfl) ?_
            refine kq_v hw hS hA (va_runV (As := [.ref qa901, .int zi902]) (rest := []) ⟨hx, hb, hml, hown, hT⟩ (cX5_product_5 l G cy ev K ln Ls hW _ hp650 ok651 qa900 qa901 zi902 kd900 kd901 (b_wid2 bd902 (by decide) (by decide))) (cwV 2 hT (good_V tb_955 tb_952 tb_954 tb_23 tb_109) rfl rfl rfl (by decide +kernel) ⟨Nat.le_of_ble_eq_true rfl, Nat.le_of_ble_eq_true rfl⟩) (pool_preV (ci := 5) hK hE hS hA hw hW kd900 (by decide) rfl) rfl rfl hl.1 rfl (lv_room (Nat.le_of_ble_eq_true rfl)) dX5_sum_49 ⟨Nat.le_of_ble_eq_true rfl, Nat.le_of_ble_eq_true rfl⟩) (fun hp658 H locs hq661 hw hS => ?_)
            obtain ⟨ok659, F660⟩ := hq661
            have hw : PW G cy K ln Ls A hp658 H := hw
            refine lv_aload_n hx hb dX5_sum_52 rfl (lv_at hl 2 rfl) ?_
            refine lv_iload hx hb dX5_sum_53 (lv_at hl 0 rfl) ?_
            refine lv_ineg hx hb dX5_sum_55 (lv_topi (fun zi663 ea664 => ?_))
            refine kq_v hw hS hA (va_runV (As := [.int zi663]) (rest := []) ⟨hx, hb, hml, hown, hT⟩ (cX2_add_0 l G cy ev K ln Ls hW _ hp658 ok659 qa901 zi663 kd901) (cwV 1 hT (good_V tb_404 tb_960 tb_402 tb_403 tb_108) rfl rfl rfl (by decide +kernel) ⟨Nat.le_of_ble_eq_true rfl, Nat.le_of_ble_eq_true rfl⟩) (pool_preV (ci := 2) hK hE hS hA hw hW kd901 (by decide) rfl) rfl rfl hl.1 rfl (lv_room (Nat.le_of_ble_eq_true rfl)) dX5_sum_56 ⟨Nat.le_of_ble_eq_true rfl, Nat.le_of_ble_eq_true rfl⟩) (fun hp665 H locs hq668 hw hS => ?_)
            obtain ⟨ok666, F667⟩ := hq668
            have hw : PW G cy K ln Ls A hp665 H := hw
            obtain ⟨zi670, ea671⟩ : ∃ z : Int32, z = zi485 + 1 := ⟨_, rfl⟩
            have bd672 : (1 : Int) ≤ zi670.toInt ∧ zi670.toInt ≤ 401 := b_iadd ea671 bd618 bc_1 (by decide) (by decide) (by decide) (by decide)
            have qe673 : zi670.toInt = (zi485 : Int32).toInt + (1 : Int32).toInt := e_iadd ea671 bd618 bc_1 (by decide) (by decide)
            have qe674 : zi670.toInt = zi485.toInt + 1 := by have ha : (1 : Int32).toInt = 1 := (by decide); rw [ha] at qe673; exact qe673
            refine lv_iinc (v := zi670) (lv' := [(3, .int zi670), (4, .int zi620), (0, .ref qa900), (1, .ref qa901), (2, .int zi902)]) hx hb dX5_sum_59 hl (k := 4) rfl ea671.symm (by decide) rfl (fun ls hl => ?_)
            refine lv_goto (tgt := 8) hx hb dX5_sum_62 (by decide) ?_
            exact ih613 hp665 zi670 _ _ ls (by have := hm615; have := qe674; omega) ok666 (Fr.tr (Fr.tr (Fr.tr (Fr.tr (Fr.rf) F487 (by decide)) F652 (by decide)) F660 (by decide)) F667 (by decide)) (b_wid2 bd672 (by decide) (by decide)) (lv_sub hl [2, 3, 4, 0] rfl) hw hS
  exact lp614 _ hp1 0 _ _ ls (lp_in _) ok2 (Fr.rf) (b_wid2 bc_0 (by decide) (by decide)) (lv_sub hl [1, 2, 3, 0] rfl) hw hS

set_option maxRecDepth 100000 in
set_option maxHeartbeats 4000000 in
theorem cX5_unit_6 (l : Launch) (G : va_G) (cy : Nat → ClassId) (ev : Ew) (K ln : Nat → Nat) (Ls : List Nat) (hW : SW K ln Ls) (sz : Nat) (hp0 : Nat → Nat → Value) (ok0 : Ok K hp0) (qa900 : Nat) (qa901 : Nat) (zi902 : Int32) (kd900 : K qa900 = 6) (kd901 : K qa901 = 3) (bd902 : ((0 : Int) ≤ zi902.toInt ∧ zi902.toInt ≤ 0)) : Met l yX5_unit (WS yX5_unit cX5_unit 4 none) { frames := 20, cells := 0, slots := 0, locals := 468 } (PB2 [.ref qa900, .ref qa901, .int zi902] sz G cy ev (va_pl Ls (cellOf cy K ln hp0))) (QBv (S := (Nat → Nat → Value)) (fun u : (Nat → Nat → Value) => Ok K u ∧ Fr [3002, 6002, 6003, 6004, 26000] K hp0 u) G (fun u => va_pl Ls (cellOf cy K ln u)) (va_A (va_pl Ls (cellOf cy K ln hp0)) sz)) 0 0 (va_A (va_pl Ls (cellOf cy K ln hp0)) sz) := by
  refine met_of2 (y := yX5_unit) (L := 4) (av := [.ref qa900, .ref qa901, .int zi902]) (Qc := fun A => QBv (S := (Nat → Nat → Value)) (fun u : (Nat → Nat → Value) => Ok K u ∧ Fr [3002, 6002, 6003, 6004, 26000] K hp0 u) G (fun u => va_pl Ls (cellOf cy K ln u)) A) (plainFor_of_name (by decide)) (Nat.le_of_ble_eq_true rfl) ?_
  intro p e s m below meth c hsz hx hb hr hml hown hT hlocks hin hK A hA hE hw hS ls hl
  have hw : PW G cy K ln Ls A hp0 s.heap := hw
  have hown : s.vm.findClass "LieClock$Parser" = some m.cls := hown
  have hl : lv_has ls 4 [(0, .ref qa900), (1, .ref qa901), (2, .int zi902)] := hl
  obtain ⟨Q, hQ⟩ : ∃ Q : State → Prop, Q = MQ below (QBv (S := (Nat → Nat → Value)) (fun u : (Nat → Nat → Value) => Ok K u ∧ Fr [3002, 6002, 6003, 6004, 26000] K hp0 u) G (fun u => va_pl Ls (cellOf cy K ln u)) A) ([.ref qa900, .ref qa901, .int zi902] : List Value).toArray s 0 0 A := ⟨_, rfl⟩
  rw [← hQ]
  refine lv_aload_n hx hb dX5_unit_0 rfl (lv_at hl 0 rfl) ?_
  obtain ⟨zi2, eq1⟩ := rd_6003 ok0 kd900
  refine p_get (ci := 5) (v := .int zi2) (C := RX5) (T := TX5) (N := 7) hx hb hT iw_X5 hown hK hw hW kd900 (by decide) rfl rfl 3 (by decide) eq1 (hT _ tb_374) (fun _ h9 => h9) dX5_unit_1 ?_
  refine lv_istore_n (lv' := [(3, .int zi2), (0, .ref qa900), (1, .ref qa901), (2, .int zi902)]) hx hb dX5_unit_4 rfl hl (by decide) rfl (fun ls hl => ?_)
  refine lv_iload_n hx hb dX5_unit_5 rfl (lv_at hl 0 rfl) ?_
  refine lv_bipush (v := 40) hx hb dX5_unit_6 (by decide) ?_
  refine lv_icmp_ne (tgt := 36) hx hb dX5_unit_8 (by decide) (fun cn3 => ?_) (fun cn3 => ?_)
  · skip
    refine lv_iload_n hx hb dX5_unit_36 rfl (lv_at hl 0 rfl) ?_
    refine lv_bipush (v := 103) hx hb dX5_unit_37 (by decide) ?_
    refine lv_icmp_eq (tgt := 54) hx hb dX5_unit_39 (by decide) (fun cn4 => ?_) (fun cn4 => ?_)
    · skip
      have bd5 : (103 : Int) ≤ zi2.toInt ∧ zi2.toInt ≤ 103 := r_eq_x cn4 (b_all zi2) bc_103 (by decide) (by decide)
      refine lv_aload_n hx hb dX5_unit_54 rfl (lv_at hl 1 rfl) ?_
      refine lv_iload_n hx hb dX5_unit_55 rfl (lv_at hl 0 rfl) ?_
      refine kq_i hw hS hA (va_runV (As := [.int zi2]) (rest := []) ⟨hx, hb, hml, hown, hT⟩ (cX5_accept_0 l G cy ev K ln Ls hW _ hp0 ok0 qa900 zi2 kd900) (cwV 1 hT (good_V tb_854 tb_851 tb_853 tb_8 tb_109) rfl rfl rfl (by decide +kernel) ⟨Nat.le_of_ble_eq_true rfl, Nat.le_of_ble_eq_true rfl⟩) (pool_preV (ci := 5) hK hE hS hA hw hW kd900 (by decide) rfl) rfl rfl hl.1 rfl (lv_room (Nat.le_of_ble_eq_true rfl)) dX5_unit_56 ⟨Nat.le_of_ble_eq_true rfl, Nat.le_of_ble_eq_true rfl⟩) (fun zi10 hp6 H locs hq9 hw hS => ?_)
      obtain ⟨ok7, F8, bd11, hc12, hc13⟩ := hq9
      have hw : PW G cy K ln Ls A hp6 H := hw
      refine lv_pop hx hb dX5_unit_59 rfl ?_
      refine lv_aload_n hx hb dX5_unit_60 rfl (lv_at hl 2 rfl) ?_
      refine lv_iload_n hx hb dX5_unit_61 rfl (lv_at hl 0 rfl) ?_
      refine lv_ineg hx hb dX5_unit_62 (lv_topi (fun zi14 ea15 => ?_))
      refine kq_v hw hS hA (va_runV (As := [.int zi14]) (rest := []) ⟨hx, hb, hml, hown, hT⟩ (cX2_add_0 l G cy ev K ln Ls hW _ hp6 ok7 qa901 zi14 kd901) (cwV 1 hT (good_V tb_404 tb_960 tb_402 tb_403 tb_108) rfl rfl rfl (by decide +kernel) ⟨Nat.le_of_ble_eq_true rfl, Nat.le_of_ble_eq_true rfl⟩) (pool_preV (ci := 2) hK hE hS hA hw hW kd901 (by decide) rfl) rfl rfl hl.1 rfl (lv_room (Nat.le_of_ble_eq_true rfl)) dX5_unit_63 ⟨Nat.le_of_ble_eq_true rfl, Nat.le_of_ble_eq_true rfl⟩) (fun hp16 H locs hq19 hw hS => ?_)
      obtain ⟨ok17, F18⟩ := hq19
      have hw : PW G cy K ln Ls A hp16 H := hw
      refine lv_goto (tgt := 79) hx hb dX5_unit_66 (by decide) ?_
      rw [hQ]
      exact kz_v hx hb hr hlocks hS hp16 hw ⟨ok17, (Fr.tr (Fr.tr (Fr.rf) F8 (by decide)) F18 (by decide))⟩ (Nat.le_of_ble_eq_true rfl) (Nat.le_of_ble_eq_true rfl) dX5_unit_79
    · skip
      refine lv_iload_n hx hb dX5_unit_42 rfl (lv_at hl 0 rfl) ?_
      refine lv_bipush (v := 114) hx hb dX5_unit_43 (by decide) ?_
      refine lv_icmp_lt (tgt := 69) hx hb dX5_unit_45 (by decide) (fun cn21 => ?_) (fun cn21 => ?_)
      · skip
        have bd22 : (-2147483648 : Int) ≤ zi2.toInt ∧ zi2.toInt ≤ 113 := r_lt_x cn21 (b_all zi2) bc_114 (by decide) (by decide)
        refine lv_aload_n hx hb dX5_unit_69 rfl (lv_at hl 2 rfl) ?_
        refine lv_aload_n hx hb dX5_unit_70 rfl (lv_at hl 1 rfl) ?_
        refine lv_iconst (v := 3) hx hb dX5_unit_71 (by decide) ?_
        refine kq_l hw hS hA (va_runV (As := [.int 3]) (rest := [.ref qa901]) ⟨hx, hb, hml, hown, hT⟩ (cX5_take_0 l G cy ev K ln Ls hW _ hp0 ok0 qa900 3 kd900) (cwV 1 hT (good_V tb_862 tb_859 tb_861 tb_10 tb_109) rfl rfl rfl (by decide +kernel) ⟨Nat.le_of_ble_eq_true rfl, Nat.le_of_ble_eq_true rfl⟩) (pool_preV (ci := 5) hK hE hS hA hw hW kd900 (by decide) rfl) rfl rfl hl.1 rfl (lv_room (Nat.le_of_ble_eq_true rfl)) dX5_unit_72 ⟨Nat.le_of_ble_eq_true rfl, Nat.le_of_ble_eq_true rfl⟩) (fun wl27 hp23 H locs hq26 hw hS => ?_)
        obtain ⟨ok24, F25⟩ := hq26
        have hw : PW G cy K ln Ls A hp23 H := hw
        refine lv_l2i hx hb dX5_unit_75 rfl (lv_topi (fun zi28 ea29 => ?_))
        refine kq_v hw hS hA (va_runV (As := [.int zi28]) (rest := []) ⟨hx, hb, hml, hown, hT⟩ (cX2_add_0 l G cy ev K ln Ls hW _ hp23 ok24 qa901 zi28 kd901) (cwV 1 hT (good_V tb_404 tb_960 tb_402 tb_403 tb_108) rfl rfl rfl (by decide +kernel) ⟨Nat.le_of_ble_eq_true rfl, Nat.le_of_ble_eq_true rfl⟩) (pool_preV (ci := 2) hK hE hS hA hw hW kd901 (by decide) rfl) rfl rfl hl.1 rfl (lv_room (Nat.le_of_ble_eq_true rfl)) dX5_unit_76 ⟨Nat.le_of_ble_eq_true rfl, Nat.le_of_ble_eq_true rfl⟩) (fun hp30 H locs hq33 hw hS => ?_)
        obtain ⟨ok31, F32⟩ := hq33
        have hw : PW G cy K ln Ls A hp30 H := hw
        rw [hQ]
        exact kz_v hx hb hr hlocks hS hp30 hw ⟨ok31, (Fr.tr (Fr.tr (Fr.rf) F25 (by decide)) F32 (by decide))⟩ (Nat.le_of_ble_eq_true rfl) (Nat.le_of_ble_eq_true rfl) dX5_unit_79
      · skip
        have bd35 : (114 : Int) ≤ zi2.toInt ∧ zi2.toInt ≤ 2147483647 := r_le_y (Int32.not_lt.mp cn21) bc_114 (b_all zi2) (by decide) (by decide)
        refine lv_iload_n hx hb dX5_unit_48 rfl (lv_at hl 0 rfl) ?_
        refine lv_bipush (v := 117) hx hb dX5_unit_49 (by decide) ?_
        refine lv_icmp_gt (tgt := 69) hx hb dX5_unit_51 (by decide) (fun cn36 => ?_) (fun cn36 => ?_)
        · skip
          have bd37 : (118 : Int) ≤ zi2.toInt ∧ zi2.toInt ≤ 2147483647 := r_lt_y cn36 bc_117 bd35 (by decide) (by decide)
          refine lv_aload_n hx hb dX5_unit_69 rfl (lv_at hl 2 rfl) ?_
          refine lv_aload_n hx hb dX5_unit_70 rfl (lv_at hl 1 rfl) ?_
          refine lv_iconst (v := 3) hx hb dX5_unit_71 (by decide) ?_
          refine kq_l hw hS hA (va_runV (As := [.int 3]) (rest := [.ref qa901]) ⟨hx, hb, hml, hown, hT⟩ (cX5_take_0 l G cy ev K ln Ls hW _ hp0 ok0 qa900 3 kd900) (cwV 1 hT (good_V tb_862 tb_859 tb_861 tb_10 tb_109) rfl rfl rfl (by decide +kernel) ⟨Nat.le_of_ble_eq_true rfl, Nat.le_of_ble_eq_true rfl⟩) (pool_preV (ci := 5) hK hE hS hA hw hW kd900 (by decide) rfl) rfl rfl hl.1 rfl (lv_room (Nat.le_of_ble_eq_true rfl)) dX5_unit_72 ⟨Nat.le_of_ble_eq_true rfl, Nat.le_of_ble_eq_true rfl⟩) (fun wl42 hp38 H locs hq41 hw hS => ?_)
          obtain ⟨ok39, F40⟩ := hq41
          have hw : PW G cy K ln Ls A hp38 H := hw
          refine lv_l2i hx hb dX5_unit_75 rfl (lv_topi (fun zi43 ea44 => ?_))
          refine kq_v hw hS hA (va_runV (As := [.int zi43]) (rest := []) ⟨hx, hb, hml, hown, hT⟩ (cX2_add_0 l G cy ev K ln Ls hW _ hp38 ok39 qa901 zi43 kd901) (cwV 1 hT (good_V tb_404 tb_960 tb_402 tb_403 tb_108) rfl rfl rfl (by decide +kernel) ⟨Nat.le_of_ble_eq_true rfl, Nat.le_of_ble_eq_true rfl⟩) (pool_preV (ci := 2) hK hE hS hA hw hW kd901 (by decide) rfl) rfl rfl hl.1 rfl (lv_room (Nat.le_of_ble_eq_true rfl)) dX5_unit_76 ⟨Nat.le_of_ble_eq_true rfl, Nat.le_of_ble_eq_true rfl⟩) (fun hp45 H locs hq48 hw hS => ?_)
          obtain ⟨ok46, F47⟩ := hq48
          have hw : PW G cy K ln Ls A hp45 H := hw
          rw [hQ]
          exact kz_v hx hb hr hlocks hS hp45 hw ⟨ok46, (Fr.tr (Fr.tr (Fr.rf) F40 (by decide)) F47 (by decide))⟩ (Nat.le_of_ble_eq_true rfl) (Nat.le_of_ble_eq_true rfl) dX5_unit_79
        · skip
          have bd50 : (114 : Int) ≤ zi2.toInt ∧ zi2.toInt ≤ 117 := r_le_x (Int32.not_lt.mp cn36) bd35 bc_117 (by decide) (by decide)
          refine lv_aload_n hx hb dX5_unit_54 rfl (lv_at hl 1 rfl) ?_
          refine lv_iload_n hx hb dX5_unit_55 rfl (lv_at hl 0 rfl) ?_
          refine kq_i hw hS hA (va_runV (As := [.int zi2]) (rest := []) ⟨hx, hb, hml, hown, hT⟩ (cX5_accept_0 l G cy ev K ln Ls hW _ hp0 ok0 qa900 zi2 kd900) (cwV 1 hT (good_V tb_854 tb_851 tb_853 tb_8 tb_109) rfl rfl rfl (by decide +kernel) ⟨Nat.le_of_ble_eq_true rfl, Nat.le_of_ble_eq_true rfl⟩) (pool_preV (ci := 5) hK hE hS hA hw hW kd900 (by decide) rfl) rfl rfl hl.1 rfl (lv_room (Nat.le_of_ble_eq_true rfl)) dX5_unit_56 ⟨Nat.le_of_ble_eq_true rfl, Nat.le_of_ble_eq_true rfl⟩) (fun zi55 hp51 H locs hq54 hw hS => ?_)
          obtain ⟨ok52, F53, bd56, hc57, hc58⟩ := hq54
          have hw : PW G cy K ln Ls A hp51 H := hw
          refine lv_pop hx hb dX5_unit_59 rfl ?_
          refine lv_aload_n hx hb dX5_unit_60 rfl (lv_at hl 2 rfl) ?_
          refine lv_iload_n hx hb dX5_unit_61 rfl (lv_at hl 0 rfl) ?_
          refine lv_ineg hx hb dX5_unit_62 (lv_topi (fun zi59 ea60 => ?_))
          refine kq_v hw hS hA (va_runV (As := [.int zi59]) (rest := []) ⟨hx, hb, hml, hown, hT⟩ (cX2_add_0 l G cy ev K ln Ls hW _ hp51 ok52 qa901 zi59 kd901) (cwV 1 hT (good_V tb_404 tb_960 tb_402 tb_403 tb_108) rfl rfl rfl (by decide +kernel) ⟨Nat.le_of_ble_eq_true rfl, Nat.le_of_ble_eq_true rfl⟩) (pool_preV (ci := 2) hK hE hS hA hw hW kd901 (by decide) rfl) rfl rfl hl.1 rfl (lv_room (Nat.le_of_ble_eq_true rfl)) dX5_unit_63 ⟨Nat.le_of_ble_eq_true rfl, Nat.le_of_ble_eq_true rfl⟩) (fun hp61 H locs hq64 hw hS => ?_)
          obtain ⟨ok62, F63⟩ := hq64
          have hw : PW G cy K ln Ls A hp61 H := hw
          refine lv_goto (tgt := 79) hx hb dX5_unit_66 (by decide) ?_
          rw [hQ]
          exact kz_v hx hb hr hlocks hS hp61 hw ⟨ok62, (Fr.tr (Fr.tr (Fr.rf) F53 (by decide)) F63 (by decide))⟩ (Nat.le_of_ble_eq_true rfl) (Nat.le_of_ble_eq_true rfl) dX5_unit_79
  · skip
    have bd66 : (40 : Int) ≤ zi2.toInt ∧ zi2.toInt ≤ 40 := r_eq_x cn3 (b_all zi2) bc_40 (by decide) (by decide)
    refine lv_aload_n hx hb dX5_unit_11 rfl (lv_at hl 1 rfl) ?_
    refine lv_iload_n hx hb dX5_unit_12 rfl (lv_at hl 3 rfl) ?_
    refine kq_i hw hS hA (va_runV (As := [.int zi902]) (rest := []) ⟨hx, hb, hml, hown, hT⟩ (cX5_enter_0 l G cy ev K ln Ls hW _ hp0 ok0 qa900 zi902 kd900 (b_wid2 bd902 (by decide) (by decide))) (cwV 1 hT (good_V tb_922 tb_919 tb_921 tb_18 tb_109) rfl rfl rfl (by decide +kernel) ⟨Nat.le_of_ble_eq_true rfl, Nat.le_of_ble_eq_true rfl⟩) (pool_preV (ci := 5) hK hE hS hA hw hW kd900 (by decide) rfl) rfl rfl hl.1 rfl (lv_room (Nat.le_of_ble_eq_true rfl)) dX5_unit_13 ⟨Nat.le_of_ble_eq_true rfl, Nat.le_of_ble_eq_true rfl⟩) (fun zi71 hp67 H locs hq70 hw hS => ?_)
    obtain ⟨ok68, F69, bd72, hc73, hc74⟩ := hq70
    have hw : PW G cy K ln Ls A hp67 H := hw
    have jn95 : ∀ (hp92 : Nat → Nat → Value)  (H : Heap) (locs : List Loc) (ls : Array Slot), Ok K hp92 → Fr [3002, 6002, 6003, 6004, 26000] K hp67 hp92 → lv_has ls 4 [(0, .ref qa900)] → PW G cy K ln Ls A hp92 H → va_S A s.heap H locs → W p l e ({ frames := 20, cells := 0, slots := 0, locals := 468 } : Room) s m ([.ref qa900, .ref qa901, .int zi902] : List Value).toArray below meth c H locs 0 0 Q (F0 m 27 ls []) := by
      intro hp92 H locs ls ok94 F93 hl hw hS
      refine lv_aload_n hx hb dX5_unit_27 rfl (lv_at hl 0 rfl) ?_
      refine lv_bipush (v := 41) hx hb dX5_unit_28 (by decide) ?_
      refine kq_v hw hS hA (va_runV (As := [.int 41]) (rest := []) ⟨hx, hb, hml, hown, hT⟩ (cX5_expect_0 l G cy ev K ln Ls hW _ hp92 ok94 qa900 41 kd900) (cwV 1 hT (good_V tb_889 tb_886 tb_888 tb_12 tb_109) rfl rfl rfl (by decide +kernel) ⟨Nat.le_of_ble_eq_true rfl, Nat.le_of_ble_eq_true rfl⟩) (pool_preV (ci := 5) hK hE hS hA hw hW kd900 (by decide) rfl) rfl rfl hl.1 rfl (lv_room (Nat.le_of_ble_eq_true rfl)) dX5_unit_30 ⟨Nat.le_of_ble_eq_true rfl, Nat.le_of_ble_eq_true rfl⟩) (fun hp96 H locs hq99 hw hS => ?_)
      obtain ⟨ok97, F98⟩ := hq99
      have hw : PW G cy K ln Ls A hp96 H := hw
      refine lv_goto (tgt := 79) hx hb dX5_unit_33 (by decide) ?_
      rw [hQ]
      exact kz_v hx hb hr hlocks hS hp96 hw ⟨ok97, (Fr.tr (Fr.tr (Fr.tr (Fr.rf) F69 (by decide)) F93 (by decide)) F98 (by decide))⟩ (Nat.le_of_ble_eq_true rfl) (Nat.le_of_ble_eq_true rfl) dX5_unit_79
    rcases b01 bd72 with cn75 | cn75
    · skip
      subst cn75
      refine lv_if_eq (tgt := 27) hx hb dX5_unit_16 (by decide) (fun _ => ?_) (fun c => absurd (d_eq bc_0 bc_0) c)
      exact jn95 hp67 _ _ ls ok68 (Fr.rf) (lv_sub hl [1] rfl) hw hS
    · skip
      subst cn75
      obtain ⟨zi101, eq102, bd103⟩ := hc73 rfl
      obtain ⟨zi104, eq105, bd106⟩ := hc74 rfl
      refine lv_if_eq (tgt := 27) hx hb dX5_unit_16 (by decide) (fun c => absurd c (d_ne bc_1 bc_0 (by decide))) (fun _ => ?_)
      refine lv_aload_n hx hb dX5_unit_19 rfl (lv_at hl 1 rfl) ?_
      refine lv_aload_n hx hb dX5_unit_20 rfl (lv_at hl 2 rfl) ?_
      refine lv_iload_n hx hb dX5_unit_21 rfl (lv_at hl 3 rfl) ?_
      refine lv_iconst (v := 1) hx hb dX5_unit_22 (by decide) ?_
      refine lv_iadd hx hb dX5_unit_23 (lv_topi (fun zi107 ea108 => ?_))
      have bd109 : (1 : Int) ≤ zi107.toInt ∧ zi107.toInt ≤ 1 := b_iadd ea108 bd902 bc_1 (by decide) (by decide) (by decide) (by decide)
      have qe110 : zi107.toInt = (zi902 : Int32).toInt + (1 : Int32).toInt := e_iadd ea108 bd902 bc_1 (by decide) (by decide)
      have qe111 : zi107.toInt = zi902.toInt + 1 := by have ha : (1 : Int32).toInt = 1 := (by decide); rw [ha] at qe110; exact qe110
      refine kq_v hw hS hA (va_runV (As := [.ref qa901, .int zi107]) (rest := []) ⟨hx, hb, hml, hown, hT⟩ (cX5_sum_5 l G cy ev K ln Ls hW _ hp67 ok68 qa900 qa901 zi107 kd900 kd901 (b_wid2 bd109 (by decide) (by decide))) (cwV 2 hT (good_V tb_951 tb_948 tb_950 tb_22 tb_109) rfl rfl rfl (by decide +kernel) ⟨Nat.le_of_ble_eq_true rfl, Nat.le_of_ble_eq_true rfl⟩) (pool_preV (ci := 5) hK hE hS hA hw hW kd900 (by decide) rfl) rfl rfl hl.1 rfl (lv_room (Nat.le_of_ble_eq_true rfl)) dX5_unit_24 ⟨Nat.le_of_ble_eq_true rfl, Nat.le_of_ble_eq_true rfl⟩) (fun hp112 H locs hq115 hw hS => ?_)
      obtain ⟨ok113, F114⟩ := hq115
      have hw : PW G cy K ln Ls A hp112 H := hw
      exact jn95 hp112 _ _ ls ok113 (Fr.tr (Fr.rf) F114 (by decide)) (lv_sub hl [1] rfl) hw hS

set_option maxRecDepth 100000 in
set_option maxHeartbeats 4000000 in
theorem cX5_product_6 (l : Launch) (G : va_G) (cy : Nat → ClassId) (ev : Ew) (K ln : Nat → Nat) (Ls : List Nat) (hW : SW K ln Ls) (sz : Nat) (hp0 : Nat → Nat → Value) (ok0 : Ok K hp0) (qa900 : Nat) (qa901 : Nat) (zi902 : Int32) (kd900 : K qa900 = 6) (kd901 : K qa901 = 3) (bd902 : ((0 : Int) ≤ zi902.toInt ∧ zi902.toInt ≤ 0)) : Met l yX5_product (WS yX5_product cX5_product 5 none) { frames := 21, cells := 0, slots := 0, locals := 491 } (PB2 [.ref qa900, .ref qa901, .int zi902] sz G cy ev (va_pl Ls (cellOf cy K ln hp0))) (QBv (S := (Nat → Nat → Value)) (fun u : (Nat → Nat → Value) => Ok K u ∧ Fr [3002, 6002, 6003, 6004, 26000] K hp0 u) G (fun u => va_pl Ls (cellOf cy K ln u)) (va_A (va_pl Ls (cellOf cy K ln hp0)) sz)) 0 0 (va_A (va_pl Ls (cellOf cy K ln hp0)) sz) := by
  refine met_of2 (y := yX5_product) (L := 5) (av := [.ref qa900, .ref qa901, .int zi902]) (Qc := fun A => QBv (S := (Nat → Nat → Value)) (fun u : (Nat → Nat → Value) => Ok K u ∧ Fr [3002, 6002, 6003, 6004, 26000] K hp0 u) G (fun u => va_pl Ls (cellOf cy K ln u)) A) (plainFor_of_name (by decide)) (Nat.le_of_ble_eq_true rfl) ?_
  intro p e s m below meth c hsz hx hb hr hml hown hT hlocks hin hK A hA hE hw hS ls hl
  have hw : PW G cy K ln Ls A hp0 s.heap := hw
  have hown : s.vm.findClass "LieClock$Parser" = some m.cls := hown
  have hl : lv_has ls 5 [(0, .ref qa900), (1, .ref qa901), (2, .int zi902)] := hl
  obtain ⟨Q, hQ⟩ : ∃ Q : State → Prop, Q = MQ below (QBv (S := (Nat → Nat → Value)) (fun u : (Nat → Nat → Value) => Ok K u ∧ Fr [3002, 6002, 6003, 6004, 26000] K hp0 u) G (fun u => va_pl Ls (cellOf cy K ln u)) A) ([.ref qa900, .ref qa901, .int zi902] : List Value).toArray s 0 0 A := ⟨_, rfl⟩
  rw [← hQ]
  refine lv_aload_n hx hb dX5_product_0 rfl (lv_at hl 0 rfl) ?_
  refine lv_aload_n hx hb dX5_product_1 rfl (lv_at hl 1 rfl) ?_
  refine lv_iload_n hx hb dX5_product_2 rfl (lv_at hl 2 rfl) ?_
  refine kq_v hw hS hA (va_runV (As := [.ref qa901, .int zi902]) (rest := []) ⟨hx, hb, hml, hown, hT⟩ (cX5_unit_6 l G cy ev K ln Ls hW _ hp0 ok0 qa900 qa901 zi902 kd900 kd901 (b_wid2 bd902 (by decide) (by decide))) (cwV 2 hT (good_V tb_959 tb_956 tb_958 tb_24 tb_109) rfl rfl rfl (by decide +kernel) ⟨Nat.le_of_ble_eq_true rfl, Nat.le_of_ble_eq_true rfl⟩) (pool_preV (ci := 5) hK hE hS hA hw hW kd900 (by decide) rfl) rfl rfl hl.1 rfl (lv_room (Nat.le_of_ble_eq_true rfl)) dX5_product_3 ⟨Nat.le_of_ble_eq_true rfl, Nat.le_of_ble_eq_true rfl⟩) (fun hp1 H locs hq4 hw hS => ?_)
  obtain ⟨ok2, F3⟩ := hq4
  have hw : PW G cy K ln Ls A hp1 H := hw
  refine lv_iconst (v := 0) hx hb dX5_product_6 (by decide) ?_
  refine lv_istore_n (lv' := [(3, .int 0), (0, .ref qa900), (1, .ref qa901), (2, .int zi902)]) hx hb dX5_product_7 rfl hl (by decide) rfl (fun ls hl => ?_)
  have jn611 : ∀ (hp608 : Nat → Nat → Value)  (H : Heap) (locs : List Loc) (ls : Array Slot), Ok K hp608 → Fr [3002, 6002, 6003, 6004, 26000] K hp1 hp608 → lv_has ls 5 [] → PW G cy K ln Ls A hp608 H → va_S A s.heap H locs → W p l e ({ frames := 21, cells := 0, slots := 0, locals := 491 } : Room) s m ([.ref qa900, .ref qa901, .int zi902] : List Value).toArray below meth c H locs 0 0 Q (F0 m 65 ls []) := by
    intro hp608 H locs ls ok610 F609 hl hw hS
    rw [hQ]
    exact kz_v hx hb hr hlocks hS hp608 hw ⟨ok610, (Fr.tr (Fr.tr (Fr.rf) F3 (by decide)) F609 (by decide))⟩ (Nat.le_of_ble_eq_true rfl) (Nat.le_of_ble_eq_true rfl) dX5_product_65
  have lp614 : ∀ (n612 : Nat) (hp486 : Nat → Nat → Value) (zi485 : Int32) (H : Heap) (locs : List Loc) (ls : Array Slot), 401 - zi485.toInt < (n612 : Int) → Ok K hp486 → Fr [3002, 6002, 6003, 6004, 26000] K hp1 hp486 → ((0 : Int) ≤ zi485.toInt ∧ zi485.toInt ≤ 401) → lv_has ls 5 [(0, .ref qa900), (1, .ref qa901), (2, .int zi902), (3, .int zi485)] → PW G cy K ln Ls A hp486 H → va_S A s.heap H locs → W p l e ({ frames := 21, cells := 0, slots := 0, locals := 491 } : Room) s m ([.ref qa900, .ref qa901, .int zi902] : List Value).toArray below meth c H locs 0 0 Q (F0 m 8 ls []) := by
    intro n612
    induction n612 with
    | zero =>
      intro hp486 zi485 H locs ls hm615 ok488 F487 bd489 hl hw hS
      exact absurd hm615 (by have := bd489; omega)
    | succ n612 ih613 =>
      intro hp486 zi485 H locs ls hm615 ok488 F487 bd489 hl hw hS
      refine lv_iload_n hx hb dX5_product_8 rfl (lv_at hl 3 rfl) ?_
      refine lv_sipush (v := 400) hx hb dX5_product_9 (by decide) ?_
      refine lv_icmp_gt (tgt := 65) hx hb dX5_product_12 (by decide) (fun cn616 => ?_) (fun cn616 => ?_)
      · skip
        have bd617 : (401 : Int) ≤ zi485.toInt ∧ zi485.toInt ≤ 401 := r_lt_y cn616 bc_400 bd489 (by decide) (by decide)
        exact jn611 hp486 _ _ ls ok488 (Fr.tr (Fr.rf) F487 (by decide)) (lv_sub hl [] rfl) hw hS
      · skip
        have bd618 : (0 : Int) ≤ zi485.toInt ∧ zi485.toInt ≤ 400 := r_le_x (Int32.not_lt.mp cn616) bd489 bc_400 (by decide) (by decide)
        refine lv_aload_n hx hb dX5_product_15 rfl (lv_at hl 0 rfl) ?_
        obtain ⟨zi620, eq619⟩ := rd_6003 ok488 kd900
        refine p_get (ci := 5) (v := .int zi620) (C := RX5) (T := TX5) (N := 7) hx hb hT iw_X5 hown hK hw hW kd900 (by decide) rfl rfl 3 (by decide) eq619 (hT _ tb_374) (fun _ h9 => h9) dX5_product_16 ?_
        refine lv_bipush (v := 42) hx hb dX5_product_19 (by decide) ?_
        refine lv_icmp_eq (tgt := 33) hx hb dX5_product_21 (by decide) (fun cn621 => ?_) (fun cn621 => ?_)
        · skip
          have bd622 : (42 : Int) ≤ zi620.toInt ∧ zi620.toInt ≤ 42 := r_eq_x cn621 (b_all zi620) bc_42 (by decide) (by decide)
          refine lv_aload_n hx hb dX5_product_33 rfl (lv_at hl 0 rfl) ?_
          refine p_get (ci := 5) (v := .int zi620) (C := RX5) (T := TX5) (N := 7) hx hb hT iw_X5 hown hK hw hW kd900 (by decide) rfl rfl 3 (by decide) eq619 (hT _ tb_374) (fun _ h9 => h9) dX5_product_34 ?_
          refine lv_istore (lv' := [(4, .int zi620), (0, .ref qa900), (1, .ref qa901), (2, .int zi902), (3, .int zi485)]) hx hb dX5_product_37 hl (by decide) rfl (fun ls hl => ?_)
          refine lv_aload_n hx hb dX5_product_39 rfl (lv_at hl 1 rfl) ?_
          refine lv_iload hx hb dX5_product_40 (lv_at hl 0 rfl) ?_
          refine kq_i hw hS hA (va_runV (As := [.int zi620]) (rest := []) ⟨hx, hb, hml, hown, hT⟩ (cX5_accept_0 l G cy ev K ln Ls hW _ hp486 ok488 qa900 zi620 kd900) (cwV 1 hT (good_V tb_854 tb_851 tb_853 tb_8 tb_109) rfl rfl rfl (by decide +kernel) ⟨Nat.le_of_ble_eq_true rfl, Nat.le_of_ble_eq_true rfl⟩) (pool_preV (ci := 5) hK hE hS hA hw hW kd900 (by decide) rfl) rfl rfl hl.1 rfl (lv_room (Nat.le_of_ble_eq_true rfl)) dX5_product_42 ⟨Nat.le_of_ble_eq_true rfl, Nat.le_of_ble_eq_true rfl⟩) (fun zi627 hp623 H locs hq626 hw hS => ?_)
          obtain ⟨ok624, F625, bd628, hc629, hc630⟩ := hq626
          have hw : PW G cy K ln Ls A hp623 H := hw
          refine lv_pop hx hb dX5_product_45 rfl ?_
          refine lv_aload_n hx hb dX5_product_46 rfl (lv_at hl 1 rfl) ?_
          refine lv_aload_n hx hb dX5_product_47 rfl (lv_at hl 2 rfl) ?_
          refine lv_iload_n hx hb dX5_product_48 rfl (lv_at hl 3 rfl) ?_
          refine kq_v hw hS hA (va_runV (As := [.ref qa901, .int zi902]) (rest := []) ⟨hx, hb, hml, hown, hT⟩ (cX5_unit_6 l G cy ev K ln Ls hW _ hp623 ok624 qa900 qa901 zi902 kd900 kd901 (b_wid2 bd902 (by decide) (by decide))) (cwV 2 hT (good_V tb_959 tb_956 tb_958 tb_24 tb_109) rfl rfl rfl (by decide +kernel) ⟨Nat.le_of_ble_eq_true rfl, Nat.le_of_ble_eq_true rfl⟩) (pool_preV (ci := 5) hK hE hS hA hw hW kd900 (by decide) rfl) rfl rfl hl.1 rfl (lv_room (Nat.le_of_ble_eq_true rfl)) dX5_product_49 ⟨Nat.le_of_ble_eq_true rfl, Nat.le_of_ble_eq_true rfl⟩) (fun hp631 H locs hq634 hw hS => ?_)
          obtain ⟨ok632, F633⟩ := hq634
          have hw : PW G cy K ln Ls A hp631 H := hw
          refine lv_aload_n hx hb dX5_product_52 rfl (lv_at hl 2 rfl) ?_
          refine lv_iload hx hb dX5_product_53 (lv_at hl 0 rfl) ?_
          refine lv_ineg hx hb dX5_product_55 (lv_topi (fun zi636 ea637 => ?_))
          refine kq_v hw hS hA (va_runV (As := [.int zi636]) (rest := []) ⟨hx, hb, hml, hown, hT⟩ (cX2_add_0 l G cy ev K ln Ls hW _ hp631 ok632 qa901 zi636 kd901) (cwV 1 hT (good_V tb_404 tb_960 tb_402 tb_403 tb_108) rfl rfl rfl (by decide +kernel) ⟨Nat.le_of_ble_eq_true rfl, Nat.le_of_ble_eq_true rfl⟩) (pool_preV (ci := 2) hK hE hS hA hw hW kd901 (by decide) rfl) rfl rfl hl.1 rfl (lv_room (Nat.le_of_ble_eq_true rfl)) dX5_product_56 ⟨Nat.le_of_ble_eq_true rfl, Nat.le_of_ble_eq_true rfl⟩) (fun hp638 H locs hq641 hw hS => ?_)
          obtain ⟨ok639, F640⟩ := hq641
          have hw : PW G cy K ln Ls A hp638 H := hw
          obtain ⟨zi643, ea644⟩ : ∃ z : Int32, z = zi485 + 1 := ⟨_, rfl⟩
          have bd645 : (1 : Int) ≤ zi643.toInt ∧ zi643.toInt ≤ 401 := b_iadd ea644 bd618 bc_1 (by decide) (by decide) (by decide) (by decide)
          have qe646 : zi643.toInt = (zi485 : Int32).toInt + (1 : Int32).toInt := e_iadd ea644 bd618 bc_1 (by decide) (by decide)
          have qe647 : zi643.toInt = zi485.toInt + 1 := by have ha : (1 : Int32).toInt = 1 := (by decide); rw [ha] at qe646; exact qe646
          refine lv_iinc (v := zi643) (lv' := [(3, .int zi643), (4, .int zi620), (0, .ref qa900), (1, .ref qa901), (2, .int zi902)]) hx hb dX5_product_59 hl (k := 4) rfl ea644.symm (by decide) rfl (fun ls hl => ?_)
          refine lv_goto (tgt := 8) hx hb dX5_product_62 (by decide) ?_
          exact ih613 hp638 zi643 _ _ ls (by have := hm615; have := qe647; omega) ok639 (Fr.tr (Fr.tr (Fr.tr (Fr.tr (Fr.rf) F487 (by decide)) F625 (by decide)) F633 (by decide)) F640 (by decide)) (b_wid2 bd645 (by decide) (by decide)) (lv_sub hl [2, 3, 4, 0] rfl) hw hS
        · skip
          refine lv_aload_n hx hb dX5_product_24 rfl (lv_at hl 0 rfl) ?_
          refine p_get (ci := 5) (v := .int zi620) (C := RX5) (T := TX5) (N := 7) hx hb hT iw_X5 hown hK hw hW kd900 (by decide) rfl rfl 3 (by decide) eq619 (hT _ tb_374) (fun _ h9 => h9) dX5_product_25 ?_
          refine lv_bipush (v := 47) hx hb dX5_product_28 (by decide) ?_
          refine lv_icmp_ne (tgt := 65) hx hb dX5_product_30 (by decide) (fun cn648 => ?_) (fun cn648 => ?_)
          · skip
            exact jn611 hp486 _ _ ls ok488 (Fr.tr (Fr.rf) F487 (by decide)) (lv_sub hl [] rfl) hw hS
          · skip
            have bd649 : (47 : Int) ≤ zi620.toInt ∧ zi620.toInt ≤ 47 := r_eq_x cn648 (b_all zi620) bc_47 (by decide) (by decide)
            refine lv_aload_n hx hb dX5_product_33 rfl (lv_at hl 0 rfl) ?_
            refine p_get (ci := 5) (v := .int zi620) (C := RX5) (T := TX5) (N := 7) hx hb hT iw_X5 hown hK hw hW kd900 (by decide) rfl rfl 3 (by decide) eq619 (hT _ tb_374) (fun _ h9 => h9) dX5_product_34 ?_
            refine lv_istore (lv' := [(4, .int zi620), (0, .ref qa900), (1, .ref qa901), (2, .int zi902), (3, .int zi485)]) hx hb dX5_product_37 hl (by decide) rfl (fun ls hl => ?_)
            refine lv_aload_n hx hb dX5_product_39 rfl (lv_at hl 1 rfl) ?_
            refine lv_iload hx hb dX5_product_40 (lv_at hl 0 rfl) ?_
            refine kq_i hw hS hA (va_runV (As := [.int zi620]) (rest := []) ⟨hx, hb, hml, hown, hT⟩ (cX5_accept_0 l G cy ev K ln Ls hW _ hp486 ok488 qa900 zi620 kd900) (cwV 1 hT (good_V tb_854 tb_851 tb_853 tb_8 tb_109) rfl rfl rfl (by decide +kernel) ⟨Nat.le_of_ble_eq_true rfl, Nat.le_of_ble_eq_true rfl⟩) (pool_preV (ci := 5) hK hE hS hA hw hW kd900 (by decide) rfl) rfl rfl hl.1 rfl (lv_room (Nat.le_of_ble_eq_true rfl)) dX5_product_42 ⟨Nat.le_of_ble_eq_true rfl, Nat.le_of_ble_eq_true rfl⟩) (fun zi654 hp650 H locs hq653 hw hS => ?_)
            obtain ⟨ok651, F652, bd655, hc656, hc657⟩ := hq653
            have hw : PW G cy K ln Ls A hp650 H := hw
            refine lv_pop hx hb dX5_product_45 rfl ?_
            refine lv_aload_n hx hb dX5_product_46 rfl (lv_at hl 1 rfl) ?_
            refine lv_aload_n hx hb dX5_product_47 rfl (lv_at hl 2 rfl) ?_
            refine lv_iload_n hx hb dX5_product_48 rfl (lv_at hl 3 rfl) ?_
            refine kq_v hw hS hA (va_runV (As := [.ref qa901, .int zi902]) (rest := []) ⟨hx, hb, hml, hown, hT⟩ (cX5_unit_6 l G cy ev K ln Ls hW _ hp650 ok651 qa900 qa901 zi902 kd900 kd901 (b_wid2 bd902 (by decide) (by decide))) (cwV 2 hT (good_V tb_959 tb_956 tb_958 tb_24 tb_109) rfl rfl rfl (by decide +kernel) ⟨Nat.le_of_ble_eq_true rfl, Nat.le_of_ble_eq_true rfl⟩) (pool_preV (ci := 5) hK hE hS hA hw hW kd900 (by decide) rfl) rfl rfl hl.1 rfl (lv_room (Nat.le_of_ble_eq_true rfl)) dX5_product_49 ⟨Nat.le_of_ble_eq_true rfl, Nat.le_of_ble_eq_true rfl⟩) (fun hp658 H locs hq661 hw hS => ?_)
            obtain ⟨ok659, F660⟩ := hq661
            have hw : PW G cy K ln Ls A hp658 H := hw
            refine lv_aload_n hx hb dX5_product_52 rfl (lv_at hl 2 rfl) ?_
            refine lv_iload hx hb dX5_product_53 (lv_at hl 0 rfl) ?_
            refine lv_ineg hx hb dX5_product_55 (lv_topi (fun zi663 ea664 => ?_))
            refine kq_v hw hS hA (va_runV (As := [.int zi663]) (rest := []) ⟨hx, hb, hml, hown, hT⟩ (cX2_add_0 l G cy ev K ln Ls hW _ hp658 ok659 qa901 zi663 kd901) (cwV 1 hT (good_V tb_404 tb_960 tb_402 tb_403 tb_108) rfl rfl rfl (by decide +kernel) ⟨Nat.le_of_ble_eq_true rfl, Nat.le_of_ble_eq_true rfl⟩) (pool_preV (ci := 2) hK hE hS hA hw hW kd901 (by decide) rfl) rfl rfl hl.1 rfl (lv_room (Nat.le_of_ble_eq_true rfl)) dX5_product_56 ⟨Nat.le_of_ble_eq_true rfl, Nat.le_of_ble_eq_true rfl⟩) (fun hp665 H locs hq668 hw hS => ?_)
            obtain ⟨ok666, F667⟩ := hq668
            have hw : PW G cy K ln Ls A hp665 H := hw
            obtain ⟨zi670, ea671⟩ : ∃ z : Int32, z = zi485 + 1 := ⟨_, rfl⟩
            have bd672 : (1 : Int) ≤ zi670.toInt ∧ zi670.toInt ≤ 401 := b_iadd ea671 bd618 bc_1 (by decide) (by decide) (by decide) (by decide)
            have qe673 : zi670.toInt = (zi485 : Int32).toInt + (1 : Int32).toInt := e_iadd ea671 bd618 bc_1 (by decide) (by decide)
            have qe674 : zi670.toInt = zi485.toInt + 1 := by have ha : (1 : Int32).toInt = 1 := (by decide); rw [ha] at qe673; exact qe673
            refine lv_iinc (v := zi670) (lv' := [(3, .int zi670), (4, .int zi620), (0, .ref qa900), (1, .ref qa901), (2, .int zi902)]) hx hb dX5_product_59 hl (k := 4) rfl ea671.symm (by decide) rfl (fun ls hl => ?_)
            refine lv_goto (tgt := 8) hx hb dX5_product_62 (by decide) ?_
            exact ih613 hp665 zi670 _ _ ls (by have := hm615; have := qe674; omega) ok666 (Fr.tr (Fr.tr (Fr.tr (Fr.tr (Fr.rf) F487 (by decide)) F652 (by decide)) F660 (by decide)) F667 (by decide)) (b_wid2 bd672 (by decide) (by decide)) (lv_sub hl [2, 3, 4, 0] rfl) hw hS
  exact lp614 _ hp1 0 _ _ ls (lp_in _) ok2 (Fr.rf) (b_wid2 bc_0 (by decide) (by decide)) (lv_sub hl [1, 2, 3, 0] rfl) hw hS

set_option maxRecDepth 100000 in
set_option maxHeartbeats 4000000 in
theorem cX5_sum_6 (l : Launch) (G : va_G) (cy : Nat → ClassId) (ev : Ew) (K ln : Nat → Nat) (Ls : List Nat) (hW : SW K ln Ls) (sz : Nat) (hp0 : Nat → Nat → Value) (ok0 : Ok K hp0) (qa900 : Nat) (qa901 : Nat) (zi902 : Int32) (kd900 : K qa900 = 6) (kd901 : K qa901 = 3) (bd902 : ((0 : Int) ≤ zi902.toInt ∧ zi902.toInt ≤ 0)) : Met l yX5_sum (WS yX5_sum cX5_sum 5 none) { frames := 22, cells := 0, slots := 0, locals := 515 } (PB2 [.ref qa900, .ref qa901, .int zi902] sz G cy ev (va_pl Ls (cellOf cy K ln hp0))) (QBv (S := (Nat → Nat → Value)) (fun u : (Nat → Nat → Value) => Ok K u ∧ Fr [3002, 6002, 6003, 6004, 26000] K hp0 u) G (fun u => va_pl Ls (cellOf cy K ln u)) (va_A (va_pl Ls (cellOf cy K ln hp0)) sz)) 0 0 (va_A (va_pl Ls (cellOf cy K ln hp0)) sz) := by
  refine met_of2 (y := yX5_sum) (L := 5) (av := [.ref qa900, .ref qa901, .int zi902]) (Qc := fun A => QBv (S := (Nat → Nat → Value)) (fun u : (Nat → Nat → Value) => Ok K u ∧ Fr [3002, 6002, 6003, 6004, 26000] K hp0 u) G (fun u => va_pl Ls (cellOf cy K ln u)) A) (plainFor_of_name (by decide)) (Nat.le_of_ble_eq_true rfl) ?_
  intro p e s m below meth c hsz hx hb hr hml hown hT hlocks hin hK A hA hE hw hS ls hl
  have hw : PW G cy K ln Ls A hp0 s.heap := hw
  have hown : s.vm.findClass "LieClock$Parser" = some m.cls := hown
  have hl : lv_has ls 5 [(0, .ref qa900), (1, .ref qa901), (2, .int zi902)] := hl
  obtain ⟨Q, hQ⟩ : ∃ Q : State → Prop, Q = MQ below (QBv (S := (Nat → Nat → Value)) (fun u : (Nat → Nat → Value) => Ok K u ∧ Fr [3002, 6002, 6003, 6004, 26000] K hp0 u) G (fun u => va_pl Ls (cellOf cy K ln u)) A) ([.ref qa900, .ref qa901, .int zi902] : List Value).toArray s 0 0 A := ⟨_, rfl⟩
  rw [← hQ]
  refine lv_aload_n hx hb dX5_sum_0 rfl (lv_at hl 0 rfl) ?_
  refine lv_aload_n hx hb dX5_sum_1 rfl (lv_at hl 1 rfl) ?_
  refine lv_iload_n hx hb dX5_sum_2 rfl (lv_at hl 2 rfl) ?_
  refine kq_v hw hS hA (va_runV (As := [.ref qa901, .int zi902]) (rest := []) ⟨hx, hb, hml, hown, hT⟩ (cX5_product_6 l G cy ev K ln Ls hW _ hp0 ok0 qa900 qa901 zi902 kd900 kd901 (b_wid2 bd902 (by decide) (by decide))) (cwV 2 hT (good_V tb_955 tb_952 tb_954 tb_23 tb_109) rfl rfl rfl (by decide +kernel) ⟨Nat.le_of_ble_eq_true rfl, Nat.le_of_ble_eq_true rfl⟩) (pool_preV (ci := 5) hK hE hS hA hw hW kd900 (by decide) rfl) rfl rfl hl.1 rfl (lv_room (Nat.le_of_ble_eq_true rfl)) dX5_sum_3 ⟨Nat.le_of_ble_eq_true rfl, Nat.le_of_ble_eq_true rfl⟩) (fun hp1 H locs hq4 hw hS => ?_)
  obtain ⟨ok2, F3⟩ := hq4
  have hw : PW G cy K ln Ls A hp1 H := hw
  refine lv_iconst (v := 0) hx hb dX5_sum_6 (by decide) ?_
  refine lv_istore_n (lv' := [(3, .int 0), (0, .ref qa900), (1, .ref qa901), (2, .int zi902)]) hx hb dX5_sum_7 rfl hl (by decide) rfl (fun ls hl => ?_)
  have jn611 : ∀ (hp608 : Nat → Nat → Value)  (H : Heap) (locs : List Loc) (ls : Array Slot), Ok K hp608 → Fr [3002, 6002, 6003, 6004, 26000] K hp1 hp608 → lv_has ls 5 [] → PW G cy K ln Ls A hp608 H → va_S A s.heap H locs → W p l e ({ frames := 22, cells := 0, slots := 0, locals := 515 } : Room) s m ([.ref qa900, .ref qa901, .int zi902] : List Value).toArray below meth c H locs 0 0 Q (F0 m 65 ls []) := by
    intro hp608 H locs ls ok610 F609 hl hw hS
    rw [hQ]
    exact kz_v hx hb hr hlocks hS hp608 hw ⟨ok610, (Fr.tr (Fr.tr (Fr.rf) F3 (by decide)) F609 (by decide))⟩ (Nat.le_of_ble_eq_true rfl) (Nat.le_of_ble_eq_true rfl) dX5_sum_65
  have lp614 : ∀ (n612 : Nat) (hp486 : Nat → Nat → Value) (zi485 : Int32) (H : Heap) (locs : List Loc) (ls : Array Slot), 401 - zi485.toInt < (n612 : Int) → Ok K hp486 → Fr [3002, 6002, 6003, 6004, 26000] K hp1 hp486 → ((0 : Int) ≤ zi485.toInt ∧ zi485.toInt ≤ 401) → lv_has ls 5 [(0, .ref qa900), (1, .ref qa901), (2, .int zi902), (3, .int zi485)] → PW G cy K ln Ls A hp486 H → va_S A s.heap H locs → W p l e ({ frames := 22, cells := 0, slots := 0, locals := 515 } : Room) s m ([.ref qa900, .ref qa901, .int zi902] : List Value).toArray below meth c H locs 0 0 Q (F0 m 8 ls []) := by
    intro n612
    induction n612 with
    | zero =>
      intro hp486 zi485 H locs ls hm615 ok488 F487 bd489 hl hw hS
      exact absurd hm615 (by have := bd489; omega)
    | succ n612 ih613 =>
      intro hp486 zi485 H locs ls hm615 ok488 F487 bd489 hl hw hS
      refine lv_iload_n hx hb dX5_sum_8 rfl (lv_at hl 3 rfl) ?_
      refine lv_sipush (v := 400) hx hb dX5_sum_9 (by decide) ?_
      refine lv_icmp_gt (tgt := 65) hx hb dX5_sum_12 (by decide) (fun cn616 => ?_) (fun cn616 => ?_)
      · skip
        have bd617 : (401 : Int) ≤ zi485.toInt ∧ zi485.toInt ≤ 401 := r_lt_y cn616 bc_400 bd489 (by decide) (by decide)
        exact jn611 hp486 _ _ ls ok488 (Fr.tr (Fr.rf) F487 (by decide)) (lv_sub hl [] rfl) hw hS
      · skip
        have bd618 : (0 : Int) ≤ zi485.toInt ∧ zi485.toInt ≤ 400 := r_le_x (Int32.not_lt.mp cn616) bd489 bc_400 (by decide) (by decide)
        refine lv_aload_n hx hb dX5_sum_15 rfl (lv_at hl 0 rfl) ?_
        obtain ⟨zi620, eq619⟩ := rd_6003 ok488 kd900
        refine p_get (ci := 5) (v := .int zi620) (C := RX5) (T := TX5) (N := 7) hx hb hT iw_X5 hown hK hw hW kd900 (by decide) rfl rfl 3 (by decide) eq619 (hT _ tb_374) (fun _ h9 => h9) dX5_sum_16 ?_
        refine lv_bipush (v := 43) hx hb dX5_sum_19 (by decide) ?_
        refine lv_icmp_eq (tgt := 33) hx hb dX5_sum_21 (by decide) (fun cn621 => ?_) (fun cn621 => ?_)
        · skip
          have bd622 : (43 : Int) ≤ zi620.toInt ∧ zi620.toInt ≤ 43 := r_eq_x cn621 (b_all zi620) bc_43 (by decide) (by decide)
          refine lv_aload_n hx hb dX5_sum_33 rfl (lv_at hl 0 rfl) ?_
          refine p_get (ci := 5) (v := .int zi620) (C := RX5) (T := TX5) (N := 7) hx hb hT iw_X5 hown hK hw hW kd900 (by decide) rfl rfl 3 (by decide) eq619 (hT _ tb_374) (fun _ h9 => h9) dX5_sum_34 ?_
          refine lv_istore (lv' := [(4, .int zi620), (0, .ref qa900), (1, .ref qa901), (2, .int zi902), (3, .int zi485)]) hx hb dX5_sum_37 hl (by decide) rfl (fun ls hl => ?_)
          refine lv_aload_n hx hb dX5_sum_39 rfl (lv_at hl 1 rfl) ?_
          refine lv_iload hx hb dX5_sum_40 (lv_at hl 0 rfl) ?_
          refine kq_i hw hS hA (va_runV (As := [.int zi620]) (rest := []) ⟨hx, hb, hml, hown, hT⟩ (cX5_accept_0 l G cy ev K ln Ls hW _ hp486 ok488 qa900 zi620 kd900) (cwV 1 hT (good_V tb_854 tb_851 tb_853 tb_8 tb_109) rfl rfl rfl (by decide +kernel) ⟨Nat.le_of_ble_eq_true rfl, Nat.le_of_ble_eq_true rfl⟩) (pool_preV (ci := 5) hK hE hS hA hw hW kd900 (by decide) rfl) rfl rfl hl.1 rfl (lv_room (Nat.le_of_ble_eq_true rfl)) dX5_sum_42 ⟨Nat.le_of_ble_eq_true rfl, Nat.le_of_ble_eq_true rfl⟩) (fun zi627 hp623 H locs hq626 hw hS => ?_)
          obtain ⟨ok624, F625, bd628, hc629, hc630⟩ := hq626
          have hw : PW G cy K ln Ls A hp623 H := hw
          refine lv_pop hx hb dX5_sum_45 rfl ?_
          refine lv_aload_n hx hb dX5_sum_46 rfl (lv_at hl 1 rfl) ?_
          refine lv_aload_n hx hb dX5_sum_47 rfl (lv_at hl 2 rfl) ?_
          refine lv_iload_n hx hb dX5_sum_48 rfl (lv_at hl 3 rfl) ?_
          refine kq_v hw hS hA (va_runV (As := [.ref qa901, .int zi902]) (rest := []) ⟨hx, hb, hml, hown, hT⟩ (cX5_product_6 l G cy ev K ln Ls hW _ hp623 ok624 qa900 qa901 zi902 kd900 kd901 (b_wid2 bd902 (by decide) (by decide))) (cwV 2 hT (good_V tb_955 tb_952 tb_954 tb_23 tb_109) rfl rfl rfl (by decide +kernel) ⟨Nat.le_of_ble_eq_true rfl, Nat.le_of_ble_eq_true rfl⟩) (pool_preV (ci := 5) hK hE hS hA hw hW kd900 (by decide) rfl) rfl rfl hl.1 rfl (lv_room (Nat.le_of_ble_eq_true rfl)) dX5_sum_49 ⟨Nat.le_of_ble_eq_true rfl, Nat.le_of_ble_eq_true rfl⟩) (fun hp631 H locs hq634 hw hS => ?_)
          obtain ⟨ok632, F633⟩ := hq634
          have hw : PW G cy K ln Ls A hp631 H := hw
          refine lv_aload_n hx hb dX5_sum_52 rfl (lv_at hl 2 rfl) ?_
          refine lv_iload hx hb dX5_sum_53 (lv_at hl 0 rfl) ?_
          refine lv_ineg hx hb dX5_sum_55 (lv_topi (fun zi636 ea637 => ?_))
          refine kq_v hw hS hA (va_runV (As := [.int zi636]) (rest := []) ⟨hx, hb, hml, hown, hT⟩ (cX2_add_0 l G cy ev K ln Ls hW _ hp631 ok632 qa901 zi636 kd901) (cwV 1 hT (good_V tb_404 tb_960 tb_402 tb_403 tb_108) rfl rfl rfl (by decide +kernel) ⟨Nat.le_of_ble_eq_true rfl, Nat.le_of_ble_eq_true rfl⟩) (pool_preV (ci := 2) hK hE hS hA hw hW kd901 (by decide) rfl) rfl rfl hl.1 rfl (lv_room (Nat.le_of_ble_eq_true rfl)) dX5_sum_56 ⟨Nat.le_of_ble_eq_true rfl, Nat.le_of_ble_eq_true rfl⟩) (fun hp638 H locs hq641 hw hS => ?_)
          obtain ⟨ok639, F640⟩ := hq641
          have hw : PW G cy K ln Ls A hp638 H := hw
          obtain ⟨zi643, ea644⟩ : ∃ z : Int32, z = zi485 + 1 := ⟨_, rfl⟩
          have bd645 : (1 : Int) ≤ zi643.toInt ∧ zi643.toInt ≤ 401 := b_iadd ea644 bd618 bc_1 (by decide) (by decide) (by decide) (by decide)
          have qe646 : zi643.toInt = (zi485 : Int32).toInt + (1 : Int32).toInt := e_iadd ea644 bd618 bc_1 (by decide) (by decide)
          have qe647 : zi643.toInt = zi485.toInt + 1 := by have ha : (1 : Int32).toInt = 1 := (by decide); rw [ha] at qe646; exact qe646
          refine lv_iinc (v := zi643) (lv' := [(3, .int zi643), (4, .int zi620), (0, .ref qa900), (1, .ref qa901), (2, .int zi902)]) hx hb dX5_sum_59 hl (k := 4) rfl ea644.symm (by decide) rfl (fun ls hl => ?_)
          refine lv_goto (tgt := 8) hx hb dX5_sum_62 (by decide) ?_
          exact ih613 hp638 zi643 _ _ ls (by have := hm615; have := qe647; omega) ok639 (Fr.tr (Fr.tr (Fr.tr (Fr.tr (Fr.rf) F487 (by decide)) F625 (by decide)) F633 (by decide)) F640 (by decide)) (b_wid2 bd645 (by decide) (by decide)) (lv_sub hl [2, 3, 4, 0] rfl) hw hS
        · skip
          refine lv_aload_n hx hb dX5_sum_24 rfl (lv_at hl 0 rfl) ?_
          refine p_get (ci := 5) (v := .int zi620) (C := RX5) (T := TX5) (N := 7) hx hb hT iw_X5 hown hK hw hW kd900 (by decide) rfl rfl 3 (by decide) eq619 (hT _ tb_374) (fun _ h9 => h9) dX5_sum_25 ?_
          refine lv_bipush (v := 45) hx hb dX5_sum_28 (by decide) ?_
          refine lv_icmp_ne (tgt := 65) hx hb dX5_sum_30 (by decide) (fun cn648 => ?_) (fun cn648 => ?_)
          · skip
            exact jn611 hp486 _ _ ls ok488 (Fr.tr (Fr.rf) F487 (by decide)) (lv_sub hl [] rfl) hw hS
          · skip
            have bd649 : (45 : Int) ≤ zi620.toInt ∧ zi620.toInt ≤ 45 := r_eq_x cn648 (b_all zi620) bc_45 (by decide) (by decide)
            refine lv_aload_n hx hb dX5_sum_33 rfl (lv_at hl 0 rfl) ?_
            refine p_get (ci := 5) (v := .int zi620) (C := RX5) (T := TX5) (N := 7) hx hb hT iw_X5 hown hK hw hW kd900 (by decide) rfl rfl 3 (by decide) eq619 (hT _ tb_374) (fun _ h9 => h9) dX5_sum_34 ?_
            refine lv_istore (lv' := [(4, .int zi620), (0, .ref qa900), (1, .ref qa901), (2, .int zi902), (3, .int zi485)]) hx hb dX5_sum_37 hl (by decide) rfl (fun ls hl => ?_)
            refine lv_aload_n hx hb dX5_sum_39 rfl (lv_at hl 1 rfl) ?_
            refine lv_iload hx hb dX5_sum_40 (lv_at hl 0 rfl) ?_
            refine kq_i hw hS hA (va_runV (As := [.int zi620]) (rest := []) ⟨hx, hb, hml, hown, hT⟩ (cX5_accept_0 l G cy ev K ln Ls hW _ hp486 ok488 qa900 zi620 kd900) (cwV 1 hT (good_V tb_854 tb_851 tb_853 tb_8 tb_109) rfl rfl rfl (by decide +kernel) ⟨Nat.le_of_ble_eq_true rfl, Nat.le_of_ble_eq_true rfl⟩) (pool_preV (ci := 5) hK hE hS hA hw hW kd900 (by decide) rfl) rfl rfl hl.1 rfl (lv_room (Nat.le_of_ble_eq_true rfl)) dX5_sum_42 ⟨Nat.le_of_ble_eq_true rfl, Nat.le_of_ble_eq_true rfl⟩) (fun zi654 hp650 H locs hq653 hw hS => ?_)
            obtain ⟨ok651, F652, bd655, hc656, hc657⟩ := hq653
            have hw : PW G cy K ln Ls A hp650 H := hw
            refine lv_pop hx hb dX5_sum_45 rfl ?_
            refine lv_aload_n hx hb dX5_sum_46 rfl (lv_at hl 1 rfl) ?_
            refine lv_aload_n hx hb dX5_sum_47 rfl (lv_at hl 2 rfl) ?_
            refine lv_iload_n hx hb dX5_sum_48 rfl (lv_at hl 3 rfl) ?_
            refine kq_v hw hS hA (va_runV (As := [.ref qa901, .int zi902]) (rest := []) ⟨hx, hb, hml, hown, hT⟩ (cX5_product_6 l G cy ev K ln Ls hW _ hp650 ok651 qa900 qa901 zi902 kd900 kd901 (b_wid2 bd902 (by decide) (by decide))) (cwV 2 hT (good_V tb_955 tb_952 tb_954 tb_23 tb_109) rfl rfl rfl (by decide +kernel) ⟨Nat.le_of_ble_eq_true rfl, Nat.le_of_ble_eq_true rfl⟩) (pool_preV (ci := 5) hK hE hS hA hw hW kd900 (by decide) rfl) rfl rfl hl.1 rfl (lv_room (Nat.le_of_ble_eq_true rfl)) dX5_sum_49 ⟨Nat.le_of_ble_eq_true rfl, Nat.le_of_ble_eq_true rfl⟩) (fun hp658 H locs hq661 hw hS => ?_)
            obtain ⟨ok659, F660⟩ := hq661
            have hw : PW G cy K ln Ls A hp658 H := hw
            refine lv_aload_n hx hb dX5_sum_52 rfl (lv_at hl 2 rfl) ?_
            refine lv_iload hx hb dX5_sum_53 (lv_at hl 0 rfl) ?_
            refine lv_ineg hx hb dX5_sum_55 (lv_topi (fun zi663 ea664 => ?_))
            refine kq_v hw hS hA (va_runV (As := [.int zi663]) (rest := []) ⟨hx, hb, hml, hown, hT⟩ (cX2_add_0 l G cy ev K ln Ls hW _ hp658 ok659 qa901 zi663 kd901) (cwV 1 hT (good_V tb_404 tb_960 tb_402 tb_403 tb_108) rfl rfl rfl (by decide +kernel) ⟨Nat.le_of_ble_eq_true rfl, Nat.le_of_ble_eq_true rfl⟩) (pool_preV (ci := 2) hK hE hS hA hw hW kd901 (by decide) rfl) rfl rfl hl.1 rfl (lv_room (Nat.le_of_ble_eq_true rfl)) dX5_sum_56 ⟨Nat.le_of_ble_eq_true rfl, Nat.le_of_ble_eq_true rfl⟩) (fun hp665 H locs hq668 hw hS => ?_)
            obtain ⟨ok666, F667⟩ := hq668
            have hw : PW G cy K ln Ls A hp665 H := hw
            obtain ⟨zi670, ea671⟩ : ∃ z : Int32, z = zi485 + 1 := ⟨_, rfl⟩
            have bd672 : (1 : Int) ≤ zi670.toInt ∧ zi670.toInt ≤ 401 := b_iadd ea671 bd618 bc_1 (by decide) (by decide) (by decide) (by decide)
            have qe673 : zi670.toInt = (zi485 : Int32).toInt + (1 : Int32).toInt := e_iadd ea671 bd618 bc_1 (by decide) (by decide)
            have qe674 : zi670.toInt = zi485.toInt + 1 := by have ha : (1 : Int32).toInt = 1 := (by decide); rw [ha] at qe673; exact qe673
            refine lv_iinc (v := zi670) (lv' := [(3, .int zi670), (4, .int zi620), (0, .ref qa900), (1, .ref qa901), (2, .int zi902)]) hx hb dX5_sum_59 hl (k := 4) rfl ea671.symm (by decide) rfl (fun ls hl => ?_)
            refine lv_goto (tgt := 8) hx hb dX5_sum_62 (by decide) ?_
            exact ih613 hp665 zi670 _ _ ls (by have := hm615; have := qe674; omega) ok666 (Fr.tr (Fr.tr (Fr.tr (Fr.tr (Fr.rf) F487 (by decide)) F652 (by decide)) F660 (by decide)) F667 (by decide)) (b_wid2 bd672 (by decide) (by decide)) (lv_sub hl [2, 3, 4, 0] rfl) hw hS
  exact lp614 _ hp1 0 _ _ ls (lp_in _) ok2 (Fr.rf) (b_wid2 bc_0 (by decide) (by decide)) (lv_sub hl [1, 2, 3, 0] rfl) hw hS

set_option maxRecDepth 100000 in
set_option maxHeartbeats 4000000 in
theorem cX5_tellLaw_0 (l : Launch) (G : va_G) (cy : Nat → ClassId) (ev : Ew) (K ln : Nat → Nat) (Ls : List Nat) (hW : SW K ln Ls) (sz : Nat) (hp0 : Nat → Nat → Value) (ok0 : Ok K hp0) (qa900 : Nat) (qa901 : Nat) (kd900 : K qa900 = 6) (kd901 : K qa901 = 3) : Met l yX5_tellLaw (WS yX5_tellLaw cX5_tellLaw 2 none) { frames := 23, cells := 0, slots := 0, locals := 539 } (PB2 [.ref qa900, .ref qa901] sz G cy ev (va_pl Ls (cellOf cy K ln hp0))) (QBv (S := (Nat → Nat → Value)) (fun u : (Nat → Nat → Value) => Ok K u ∧ Fr [3002, 6002, 6003, 6004, 26000] K hp0 u) G (fun u => va_pl Ls (cellOf cy K ln u)) (va_A (va_pl Ls (cellOf cy K ln hp0)) sz)) 0 0 (va_A (va_pl Ls (cellOf cy K ln hp0)) sz) := by
  refine met_of2 (y := yX5_tellLaw) (L := 2) (av := [.ref qa900, .ref qa901]) (Qc := fun A => QBv (S := (Nat → Nat → Value)) (fun u : (Nat → Nat → Value) => Ok K u ∧ Fr [3002, 6002, 6003, 6004, 26000] K hp0 u) G (fun u => va_pl Ls (cellOf cy K ln u)) A) (plainFor_of_name (by decide)) (Nat.le_of_ble_eq_true rfl) ?_
  intro p e s m below meth c hsz hx hb hr hml hown hT hlocks hin hK A hA hE hw hS ls hl
  have hw : PW G cy K ln Ls A hp0 s.heap := hw
  have hown : s.vm.findClass "LieClock$Parser" = some m.cls := hown
  have hl : lv_has ls 2 [(0, .ref qa900), (1, .ref qa901)] := hl
  obtain ⟨Q, hQ⟩ : ∃ Q : State → Prop, Q = MQ below (QBv (S := (Nat → Nat → Value)) (fun u : (Nat → Nat → Value) => Ok K u ∧ Fr [3002, 6002, 6003, 6004, 26000] K hp0 u) G (fun u => va_pl Ls (cellOf cy K ln u)) A) ([.ref qa900, .ref qa901] : List Value).toArray s 0 0 A := ⟨_, rfl⟩
  rw [← hQ]
  refine lv_aload_n hx hb dX5_tellLaw_0 rfl (lv_at hl 0 rfl) ?_
  refine lv_aload_n hx hb dX5_tellLaw_1 rfl (lv_at hl 0 rfl) ?_
  obtain ⟨zi2, eq1⟩ := rd_6003 ok0 kd900
  refine p_get (ci := 5) (v := .int zi2) (C := RX5) (T := TX5) (N := 7) hx hb hT iw_X5 hown hK hw hW kd900 (by decide) rfl rfl 3 (by decide) eq1 (hT _ tb_374) (fun _ h9 => h9) dX5_tellLaw_2 ?_
  refine kq_i hw hS hA (va_runV (As := [.int zi2]) (rest := []) ⟨hx, hb, hml, hown, hT⟩ (cX5_accept_0 l G cy ev K ln Ls hW _ hp0 ok0 qa900 zi2 kd900) (cwV 1 hT (good_V tb_854 tb_851 tb_853 tb_8 tb_109) rfl rfl rfl (by decide +kernel) ⟨Nat.le_of_ble_eq_true rfl, Nat.le_of_ble_eq_true rfl⟩) (pool_preV (ci := 5) hK hE hS hA hw hW kd900 (by decide) rfl) rfl rfl hl.1 rfl (lv_room (Nat.le_of_ble_eq_true rfl)) dX5_tellLaw_5 ⟨Nat.le_of_ble_eq_true rfl, Nat.le_of_ble_eq_true rfl⟩) (fun zi7 hp3 H locs hq6 hw hS => ?_)
  obtain ⟨ok4, F5, bd8, hc9, hc10⟩ := hq6
  have hw : PW G cy K ln Ls A hp3 H := hw
  refine lv_pop hx hb dX5_tellLaw_8 rfl ?_
  refine lv_aload_n hx hb dX5_tellLaw_9 rfl (lv_at hl 1 rfl) ?_
  refine kq_v hw hS hA (va_runV (As := []) (rest := []) ⟨hx, hb, hml, hown, hT⟩ (cX2_clear_0 l G cy ev K ln Ls hW _ hp3 ok4 qa901 kd901) (cwV 0 hT (good_V tb_838 tb_947 tb_836 tb_837 tb_108) rfl rfl rfl (by decide +kernel) ⟨Nat.le_of_ble_eq_true rfl, Nat.le_of_ble_eq_true rfl⟩) (pool_preV (ci := 2) hK hE hS hA hw hW kd901 (by decide) rfl) rfl rfl hl.1 rfl (lv_room (Nat.le_of_ble_eq_true rfl)) dX5_tellLaw_10 ⟨Nat.le_of_ble_eq_true rfl, Nat.le_of_ble_eq_true rfl⟩) (fun hp11 H locs hq14 hw hS => ?_)
  obtain ⟨ok12, F13⟩ := hq14
  have hw : PW G cy K ln Ls A hp11 H := hw
  refine lv_aload_n hx hb dX5_tellLaw_13 rfl (lv_at hl 0 rfl) ?_
  refine lv_aload_n hx hb dX5_tellLaw_14 rfl (lv_at hl 1 rfl) ?_
  refine lv_iconst (v := 0) hx hb dX5_tellLaw_15 (by decide) ?_
  refine kq_v hw hS hA (va_runV (As := [.ref qa901, .int 0]) (rest := []) ⟨hx, hb, hml, hown, hT⟩ (cX5_sum_6 l G cy ev K ln Ls hW _ hp11 ok12 qa900 qa901 0 kd900 kd901 (b_wid2 bc_0 (by decide) (by decide))) (cwV 2 hT (good_V tb_951 tb_948 tb_950 tb_22 tb_109) rfl rfl rfl (by decide +kernel) ⟨Nat.le_of_ble_eq_true rfl, Nat.le_of_ble_eq_true rfl⟩) (pool_preV (ci := 5) hK hE hS hA hw hW kd900 (by decide) rfl) rfl rfl hl.1 rfl (lv_room (Nat.le_of_ble_eq_true rfl)) dX5_tellLaw_16 ⟨Nat.le_of_ble_eq_true rfl, Nat.le_of_ble_eq_true rfl⟩) (fun hp16 H locs hq19 hw hS => ?_)
  obtain ⟨ok17, F18⟩ := hq19
  have hw : PW G cy K ln Ls A hp16 H := hw
  refine lv_aload_n hx hb dX5_tellLaw_19 rfl (lv_at hl 0 rfl) ?_
  refine lv_bipush (v := 59) hx hb dX5_tellLaw_20 (by decide) ?_
  refine kq_v hw hS hA (va_runV (As := [.int 59]) (rest := []) ⟨hx, hb, hml, hown, hT⟩ (cX5_expect_0 l G cy ev K ln Ls hW _ hp16 ok17 qa900 59 kd900) (cwV 1 hT (good_V tb_889 tb_886 tb_888 tb_12 tb_109) rfl rfl rfl (by decide +kernel) ⟨Nat.le_of_ble_eq_true rfl, Nat.le_of_ble_eq_true rfl⟩) (pool_preV (ci := 5) hK hE hS hA hw hW kd900 (by decide) rfl) rfl rfl hl.1 rfl (lv_room (Nat.le_of_ble_eq_true rfl)) dX5_tellLaw_22 ⟨Nat.le_of_ble_eq_true rfl, Nat.le_of_ble_eq_true rfl⟩) (fun hp21 H locs hq24 hw hS => ?_)
  obtain ⟨ok22, F23⟩ := hq24
  have hw : PW G cy K ln Ls A hp21 H := hw
  rw [hQ]
  exact kz_v hx hb hr hlocks hS hp21 hw ⟨ok22, (Fr.tr (Fr.tr (Fr.tr (Fr.tr (Fr.rf) F5 (by decide)) F13 (by decide)) F18 (by decide)) F23 (by decide))⟩ (Nat.le_of_ble_eq_true rfl) (Nat.le_of_ble_eq_true rfl) dX5_tellLaw_25

set_option maxRecDepth 100000 in
set_option maxHeartbeats 4000000 in
theorem cX5_tellClock_0 (l : Launch) (G : va_G) (cy : Nat → ClassId) (ev : Ew) (K ln : Nat → Nat) (Ls : List Nat) (hW : SW K ln Ls) (sz : Nat) (hp0 : Nat → Nat → Value) (ok0 : Ok K hp0) (qa900 : Nat) (kd900 : K qa900 = 6) : Met l yX5_tellClock (WS yX5_tellClock cX5_tellClock 1 none) { frames := 3, cells := 0, slots := 0, locals := 63 } (PB2 [.ref qa900] sz G cy ev (va_pl Ls (cellOf cy K ln hp0))) (QBv (S := (Nat → Nat → Value)) (fun u : (Nat → Nat → Value) => Ok K u ∧ Fr [6002, 6003, 6004, 6005, 6006, 11008] K hp0 u) G (fun u => va_pl Ls (cellOf cy K ln u)) (va_A (va_pl Ls (cellOf cy K ln hp0)) sz)) 0 0 (va_A (va_pl Ls (cellOf cy K ln hp0)) sz) := by
  refine met_of2 (y := yX5_tellClock) (L := 1) (av := [.ref qa900]) (Qc := fun A => QBv (S := (Nat → Nat → Value)) (fun u : (Nat → Nat → Value) => Ok K u ∧ Fr [6002, 6003, 6004, 6005, 6006, 11008] K hp0 u) G (fun u => va_pl Ls (cellOf cy K ln u)) A) (plainFor_of_name (by decide)) (Nat.le_of_ble_eq_true rfl) ?_
  intro p e s m below meth c hsz hx hb hr hml hown hT hlocks hin hK A hA hE hw hS ls hl
  have hw : PW G cy K ln Ls A hp0 s.heap := hw
  have hown : s.vm.findClass "LieClock$Parser" = some m.cls := hown
  have hl : lv_has ls 1 [(0, .ref qa900)] := hl
  obtain ⟨Q, hQ⟩ : ∃ Q : State → Prop, Q = MQ below (QBv (S := (Nat → Nat → Value)) (fun u : (Nat → Nat → Value) => Ok K u ∧ Fr [6002, 6003, 6004, 6005, 6006, 11008] K hp0 u) G (fun u => va_pl Ls (cellOf cy K ln u)) A) ([.ref qa900] : List Value).toArray s 0 0 A := ⟨_, rfl⟩
  rw [← hQ]
  refine lv_aload_n hx hb dX5_tellClock_0 rfl (lv_at hl 0 rfl) ?_
  refine lv_aload_n hx hb dX5_tellClock_1 rfl (lv_at hl 0 rfl) ?_
  obtain ⟨zi2, eq1⟩ := rd_6003 ok0 kd900
  refine p_get (ci := 5) (v := .int zi2) (C := RX5) (T := TX5) (N := 7) hx hb hT iw_X5 hown hK hw hW kd900 (by decide) rfl rfl 3 (by decide) eq1 (hT _ tb_374) (fun _ h9 => h9) dX5_tellClock_2 ?_
  refine kq_i hw hS hA (va_runV (As := [.int zi2]) (rest := []) ⟨hx, hb, hml, hown, hT⟩ (cX5_accept_0 l G cy ev K ln Ls hW _ hp0 ok0 qa900 zi2 kd900) (cwV 1 hT (good_V tb_854 tb_851 tb_853 tb_8 tb_109) rfl rfl rfl (by decide +kernel) ⟨Nat.le_of_ble_eq_true rfl, Nat.le_of_ble_eq_true rfl⟩) (pool_preV (ci := 5) hK hE hS hA hw hW kd900 (by decide) rfl) rfl rfl hl.1 rfl (lv_room (Nat.le_of_ble_eq_true rfl)) dX5_tellClock_5 ⟨Nat.le_of_ble_eq_true rfl, Nat.le_of_ble_eq_true rfl⟩) (fun zi7 hp3 H locs hq6 hw hS => ?_)
  obtain ⟨ok4, F5, bd8, hc9, hc10⟩ := hq6
  have hw : PW G cy K ln Ls A hp3 H := hw
  refine lv_pop hx hb dX5_tellClock_8 rfl ?_
  refine lv_aload_n hx hb dX5_tellClock_9 rfl (lv_at hl 0 rfl) ?_
  obtain ⟨qa12, eq11, kd13⟩ := rd_6001 ok4 kd900
  refine p_get (ci := 5) (v := .ref qa12) (C := RX5) (T := TX5) (N := 7) hx hb hT iw_X5 hown hK hw hW kd900 (by decide) rfl rfl 1 (by decide) eq11 (hT _ tb_372) (fun _ h9 => h9) dX5_tellClock_10 ?_
  refine lv_aload_n hx hb dX5_tellClock_13 rfl (lv_at hl 0 rfl) ?_
  refine kq_i hw hS hA (va_runV (As := []) (rest := [.ref qa12]) ⟨hx, hb, hml, hown, hT⟩ (cX5_takeMinute_0 l G cy ev K ln Ls hW _ hp3 ok4 qa900 kd900) (cwV 0 hT (good_V tb_938 tb_935 tb_937 tb_20 tb_109) rfl rfl rfl (by decide +kernel) ⟨Nat.le_of_ble_eq_true rfl, Nat.le_of_ble_eq_true rfl⟩) (pool_preV (ci := 5) hK hE hS hA hw hW kd900 (by decide) rfl) rfl rfl hl.1 rfl (lv_room (Nat.le_of_ble_eq_true rfl)) dX5_tellClock_14 ⟨Nat.le_of_ble_eq_true rfl, Nat.le_of_ble_eq_true rfl⟩) (fun zi18 hp14 H locs hq17 hw hS => ?_)
  obtain ⟨ok15, F16⟩ := hq17
  have hw : PW G cy K ln Ls A hp14 H := hw
  refine p_putN (ci := 10) (v := .int zi18) (ty := .int) (C := RX10) (T := TX10) (N := 20) hx hb hT iw_X10 tyX10 tyX10_ok nmX10 hown hK hw hS hW kd13 (by decide) rfl rfl 8 (by decide) (hK.fl nw_114) (fun _ h9 => h9) rfl (by decide +kernel) rfl rfl dX5_tellClock_17 (fun hp19 eh20 H locs hw hS => ?_)
  have ok21 := wr_11008 ok15 kd13 eh20
  refine lv_aload_n hx hb dX5_tellClock_20 rfl (lv_at hl 0 rfl) ?_
  refine lv_bipush (v := 59) hx hb dX5_tellClock_21 (by decide) ?_
  refine kq_v hw hS hA (va_runV (As := [.int 59]) (rest := []) ⟨hx, hb, hml, hown, hT⟩ (cX5_expect_0 l G cy ev K ln Ls hW _ hp19 ok21 qa900 59 kd900) (cwV 1 hT (good_V tb_889 tb_886 tb_888 tb_12 tb_109) rfl rfl rfl (by decide +kernel) ⟨Nat.le_of_ble_eq_true rfl, Nat.le_of_ble_eq_true rfl⟩) (pool_preV (ci := 5) hK hE hS hA hw hW kd900 (by decide) rfl) rfl rfl hl.1 rfl (lv_room (Nat.le_of_ble_eq_true rfl)) dX5_tellClock_23 ⟨Nat.le_of_ble_eq_true rfl, Nat.le_of_ble_eq_true rfl⟩) (fun hp22 H locs hq25 hw hS => ?_)
  obtain ⟨ok23, F24⟩ := hq25
  have hw : PW G cy K ln Ls A hp22 H := hw
  rw [hQ]
  exact kz_v hx hb hr hlocks hS hp22 hw ⟨ok23, (Fr.tr (Fr.put (cq := 11008) (Fr.tr (Fr.tr (Fr.rf) F5 (by decide)) F16 (by decide)) eh20 kd13 (cd_o (by decide)) (by decide)) F24 (by decide))⟩ (Nat.le_of_ble_eq_true rfl) (Nat.le_of_ble_eq_true rfl) dX5_tellClock_26

set_option maxRecDepth 100000 in
set_option maxHeartbeats 4000000 in
theorem cX5_parse_0 (l : Launch) (G : va_G) (cy : Nat → ClassId) (ev : Ew) (K ln : Nat → Nat) (Ls : List Nat) (hW : SW K ln Ls) (sz : Nat) (hp0 : Nat → Nat → Value) (ok0 : Ok K hp0) (qa900 : Nat) (qa901 : Nat) (qa902 : Nat) (kd900 : K qa900 = 6) (kd901 : K qa901 = 9) (kd902 : K qa902 = 11) : Met l yX5_parse (WS yX5_parse cX5_parse 4 (some .int)) { frames := 24, cells := 0, slots := 0, locals := 582 } (PB2 [.ref qa900, .ref qa901, .ref qa902] sz G cy ev (va_pl Ls (cellOf cy K ln hp0))) (QBi (S := (Nat → Nat → Value)) (fun (r : Int32) (u : (Nat → Nat → Value)) => Ok K u ∧ Fr [3002, 6001, 6002, 6003, 6004, 6005, 6006, 10004, 11000, 11001, 11002, 11003, 11004, 11005, 11006, 11007, 11008, 11009, 26000, 44000, 45000, 46000, 48000, 49000, 50000, 51000, 52000, 53000, 54000, 55000] K hp0 u) G (fun u => va_pl Ls (cellOf cy K ln u)) (va_A (va_pl Ls (cellOf cy K ln hp0)) sz)) 0 0 (va_A (va_pl Ls (cellOf cy K ln hp0)) sz) := by
  refine met_of2 (y := yX5_parse) (L := 4) (av := [.ref qa900, .ref qa901, .ref qa902]) (Qc := fun A => QBi (S := (Nat → Nat → Value)) (fun (r : Int32) (u : (Nat → Nat → Value)) => Ok K u ∧ Fr [3002, 6001, 6002, 6003, 6004, 6005, 6006, 10004, 11000, 11001, 11002, 11003, 11004, 11005, 11006, 11007, 11008, 11009, 26000, 44000, 45000, 46000, 48000, 49000, 50000, 51000, 52000, 53000, 54000, 55000] K hp0 u) G (fun u => va_pl Ls (cellOf cy K ln u)) A) (plainFor_of_name (by decide)) (Nat.le_of_ble_eq_true rfl) ?_
  intro p e s m below meth c hsz hx hb hr hml hown hT hlocks hin hK A hA hE hw hS ls hl
  have hw : PW G cy K ln Ls A hp0 s.heap := hw
  have hown : s.vm.findClass "LieClock$Parser" = some m.cls := hown
  have hl : lv_has ls 4 [(0, .ref qa900), (1, .ref qa901), (2, .ref qa902)] := hl
  obtain ⟨Q, hQ⟩ : ∃ Q : State → Prop, Q = MQ below (QBi (S := (Nat → Nat → Value)) (fun (r : Int32) (u : (Nat → Nat → Value)) => Ok K u ∧ Fr [3002, 6001, 6002, 6003, 6004, 6005, 6006, 10004, 11000, 11001, 11002, 11003, 11004, 11005, 11006, 11007, 11008, 11009, 26000, 44000, 45000, 46000, 48000, 49000, 50000, 51000, 52000, 53000, 54000, 55000] K hp0 u) G (fun u => va_pl Ls (cellOf cy K ln u)) A) ([.ref qa900, .ref qa901, .ref qa902] : List Value).toArray s 0 0 A := ⟨_, rfl⟩
  rw [← hQ]
  refine lv_aload_n hx hb dX5_parse_0 rfl (lv_at hl 0 rfl) ?_
  obtain ⟨qa2, eq1, kd3⟩ := rd_6000 ok0 kd900
  refine p_get (ci := 5) (v := .ref qa2) (C := RX5) (T := TX5) (N := 7) hx hb hT iw_X5 hown hK hw hW kd900 (by decide) rfl rfl 0 (by decide) eq1 (hT _ tb_371) (fun _ h9 => h9) dX5_parse_1 ?_
  refine lv_aload_n hx hb dX5_parse_4 rfl (lv_at hl 1 rfl) ?_
  refine kq_v hw hS hA (va_runV (As := [.ref qa901]) (rest := []) ⟨hx, hb, hml, hown, hT⟩ (cX9_cut_0 l G cy ev K ln Ls hW _ hp0 ok0 qa2 qa901 kd3 kd901) (cwV 1 hT (good_V tb_732 tb_729 tb_730 tb_731 tb_110) rfl rfl rfl (by decide +kernel) ⟨Nat.le_of_ble_eq_true rfl, Nat.le_of_ble_eq_true rfl⟩) (pool_preV (ci := 9) hK hE hS hA hw hW kd3 (by decide) rfl) rfl rfl hl.1 rfl (lv_room (Nat.le_of_ble_eq_true rfl)) dX5_parse_5 ⟨Nat.le_of_ble_eq_true rfl, Nat.le_of_ble_eq_true rfl⟩) (fun hp4 H locs hq7 hw hS => ?_)
  obtain ⟨ok5, F6⟩ := hq7
  have hw : PW G cy K ln Ls A hp4 H := hw
  refine lv_aload_n hx hb dX5_parse_8 rfl (lv_at hl 0 rfl) ?_
  refine lv_aload_n hx hb dX5_parse_9 rfl (lv_at hl 2 rfl) ?_
  refine p_put (ci := 5) (v := .ref qa902) (ty := .object "LieClock$Told") (C := RX5) (T := TX5) (N := 7) hx hb hT iw_X5 tyX5 tyX5_ok nmX5 hown hK hw hS hW kd900 (by decide) rfl rfl 1 (by decide) (hT _ tb_372) (fun _ h9 => h9) rfl (by decide +kernel) rfl rfl dX5_parse_10 (fun hp9 eh10 H locs hw hS => ?_)
  have ok11 := wr_6001 kd902 ok5 kd900 eh10
  refine lv_aload_n hx hb dX5_parse_13 rfl (lv_at hl 0 rfl) ?_
  refine p_get (ci := 5) (v := .ref qa902) (C := RX5) (T := TX5) (N := 7) hx hb hT iw_X5 hown hK hw hW kd900 (by decide) rfl rfl 1 (by decide) (hp_self eh10) (hT _ tb_372) (fun _ h9 => h9) dX5_parse_14 ?_
  refine kq_v hw hS hA (va_runV (As := []) (rest := []) ⟨hx, hb, hml, hown, hT⟩ (cX10_clear_0 l G cy ev K ln Ls hW _ hp9 ok11 qa902 kd902) (cwV 0 hT (good_V tb_834 tb_831 tb_832 tb_833 tb_107) rfl rfl rfl (by decide +kernel) ⟨Nat.le_of_ble_eq_true rfl, Nat.le_of_ble_eq_true rfl⟩) (pool_preV (ci := 10) hK hE hS hA hw hW kd902 (by decide) rfl) rfl rfl hl.1 rfl (lv_room (Nat.le_of_ble_eq_true rfl)) dX5_parse_17 ⟨Nat.le_of_ble_eq_true rfl, Nat.le_of_ble_eq_true rfl⟩) (fun hp12 H locs hq15 hw hS => ?_)
  obtain ⟨ok13, F14⟩ := hq15
  have hw : PW G cy K ln Ls A hp12 H := hw
  refine lv_aload_n hx hb dX5_parse_20 rfl (lv_at hl 0 rfl) ?_
  refine lv_iconst (v := 0) hx hb dX5_parse_21 (by decide) ?_
  refine p_put (ci := 5) (v := .int 0) (ty := .int) (C := RX5) (T := TX5) (N := 7) hx hb hT iw_X5 tyX5 tyX5_ok nmX5 hown hK hw hS hW kd900 (by decide) rfl rfl 2 (by decide) (hT _ tb_373) (fun _ h9 => h9) rfl (by decide +kernel) rfl rfl dX5_parse_22 (fun hp17 eh18 H locs hw hS => ?_)
  have ok19 := wr_6002 bc_0 (by decide) (by decide) ok13 kd900 eh18
  refine lv_aload_n hx hb dX5_parse_25 rfl (lv_at hl 0 rfl) ?_
  refine lv_aload_n hx hb dX5_parse_26 rfl (lv_at hl 0 rfl) ?_
  have eq20 : hp17 qa900 0 = .ref qa2 := Eq.trans (up_at eh18 (Or.inr (by decide))) (Eq.trans (Fr.at (cq := 6000) F14 kd900 (cd_o (by decide)) (by decide)) (Eq.trans (up_at eh10 (Or.inr (by decide))) (Eq.trans (Fr.at (cq := 6000) F6 kd900 (cd_o (by decide)) (by decide)) eq1)))
  refine p_get (ci := 5) (v := .ref qa2) (C := RX5) (T := TX5) (N := 7) hx hb hT iw_X5 hown hK hw hW kd900 (by decide) rfl rfl 0 (by decide) eq20 (hT _ tb_371) (fun _ h9 => h9) dX5_parse_27 ?_
  obtain ⟨qa22, eq21, kd23⟩ := rd_10000 ok19 kd3
  refine p_getN (ci := 9) (v := .ref qa22) (C := RX9) (T := TX9) (N := 5) hx hb hT iw_X9 hown hK hw hW kd3 (by decide) rfl rfl 0 (by decide) eq21 (hK.fl nw_250) (fun _ h9 => h9) dX5_parse_30 ?_
  refine lv_iconst (v := 0) hx hb dX5_parse_33 (by decide) ?_
  obtain ⟨zi25, eq24⟩ := rd_44000 ok19 kd23 ((0 : Int32).toNatClampNeg)
  refine p_iald (v := zi25) hx hb hK hw hW kd23 (by decide) rfl (hW.len kd23 (n := 401) rfl (by decide)) (vp_b bc_0 (by decide) (by decide)) eq24 dX5_parse_34 ?_
  refine p_put (ci := 5) (v := .int zi25) (ty := .int) (C := RX5) (T := TX5) (N := 7) hx hb hT iw_X5 tyX5 tyX5_ok nmX5 hown hK hw hS hW kd900 (by decide) rfl rfl 3 (by decide) (hT _ tb_374) (fun _ h9 => h9) rfl (by decide +kernel) rfl rfl dX5_parse_35 (fun hp26 eh27 H locs hw hS => ?_)
  have ok28 := wr_6003 ok19 kd900 eh27
  refine lv_aload_n hx hb dX5_parse_38 rfl (lv_at hl 0 rfl) ?_
  refine lv_iconst (v := 0) hx hb dX5_parse_39 (by decide) ?_
  refine p_put (ci := 5) (v := .int 0) (ty := .int) (C := RX5) (T := TX5) (N := 7) hx hb hT iw_X5 tyX5 tyX5_ok nmX5 hown hK hw hS hW kd900 (by decide) rfl rfl 4 (by decide) (hT _ tb_375) (fun _ h9 => h9) rfl (by decide +kernel) rfl rfl dX5_parse_40 (fun hp29 eh30 H locs hw hS => ?_)
  have ok31 := wr_6004 bc_0 (by decide) (by decide) ok28 kd900 eh30
  refine lv_aload_n hx hb dX5_parse_43 rfl (lv_at hl 0 rfl) ?_
  refine lv_iconst (v := 0) hx hb dX5_parse_44 (by decide) ?_
  refine p_put (ci := 5) (v := .int 0) (ty := .int) (C := RX5) (T := TX5) (N := 7) hx hb hT iw_X5 tyX5 tyX5_ok nmX5 hown hK hw hS hW kd900 (by decide) rfl rfl 5 (by decide) (hT _ tb_376) (fun _ h9 => h9) rfl (by decide +kernel) rfl rfl dX5_parse_45 (fun hp32 eh33 H locs hw hS => ?_)
  have ok34 := wr_6005 ok31 kd900 eh33
  refine lv_iconst (v := 0) hx hb dX5_parse_48 (by decide) ?_
  refine lv_istore_n (lv' := [(3, .int 0), (0, .ref qa900), (1, .ref qa901), (2, .ref qa902)]) hx hb dX5_parse_49 rfl hl (by decide) rfl (fun ls hl => ?_)
  have jn2314 : ∀ (hp2311 : Nat → Nat → Value)  (H : Heap) (locs : List Loc) (ls : Array Slot), Ok K hp2311 → Fr [3002, 6002, 6003, 6004, 6005, 6006, 11000, 11001, 11002, 11003, 11004, 11005, 11007, 11008, 26000, 48000, 49000, 50000, 51000, 52000, 53000, 54000, 55000] K hp32 hp2311 → lv_has ls 4 [(0, .ref qa900)] → PW G cy K ln Ls A hp2311 H → va_S A s.heap H locs → W p l e ({ frames := 24, cells := 0, slots := 0, locals := 582 } : Room) s m ([.ref qa900, .ref qa901, .ref qa902] : List Value).toArray below meth c H locs 0 0 Q (F0 m 202 ls []) := by
    intro hp2311 H locs ls ok2313 F2312 hl hw hS
    refine lv_aload_n hx hb dX5_parse_202 rfl (lv_at hl 0 rfl) ?_
    have eq2315 : hp2311 qa900 1 = .ref qa902 := Eq.trans (Fr.at (cq := 6001) F2312 kd900 (cd_o (by decide)) (by decide)) (Eq.trans (up_at eh33 (Or.inr (by decide))) (Eq.trans (up_at eh30 (Or.inr (by decide))) (Eq.trans (up_at eh27 (Or.inr (by decide))) (Eq.trans (up_at eh18 (Or.inr (by decide))) (Eq.trans (Fr.at (cq := 6001) F14 kd900 (cd_o (by decide)) (by decide)) (hp_self eh10))))))
    refine p_get (ci := 5) (v := .ref qa902) (C := RX5) (T := TX5) (N := 7) hx hb hT iw_X5 hown hK hw hW kd900 (by decide) rfl rfl 1 (by decide) eq2315 (hT _ tb_372) (fun _ h9 => h9) dX5_parse_203 ?_
    refine kq_v hw hS hA (va_runV (As := []) (rest := []) ⟨hx, hb, hml, hown, hT⟩ (cX10_finish_0 l G cy ev K ln Ls hW _ hp2311 ok2313 qa902 kd902) (cwV 0 hT (good_V tb_396 tb_965 tb_394 tb_395 tb_107) rfl rfl rfl (by decide +kernel) ⟨Nat.le_of_ble_eq_true rfl, Nat.le_of_ble_eq_true rfl⟩) (pool_preV (ci := 10) hK hE hS hA hw hW kd902 (by decide) rfl) rfl rfl hl.1 rfl (lv_room (Nat.le_of_ble_eq_true rfl)) dX5_parse_206 ⟨Nat.le_of_ble_eq_true rfl, Nat.le_of_ble_eq_true rfl⟩) (fun hp2316 H locs hq2319 hw hS => ?_)
    obtain ⟨ok2317, F2318⟩ := hq2319
    have hw : PW G cy K ln Ls A hp2316 H := hw
    refine lv_aload_n hx hb dX5_parse_209 rfl (lv_at hl 0 rfl) ?_
    obtain ⟨zi2322, eq2321, bd2323⟩ := rd_6004 ok2317 kd900
    refine p_get (ci := 5) (v := .int zi2322) (C := RX5) (T := TX5) (N := 7) hx hb hT iw_X5 hown hK hw hW kd900 (by decide) rfl rfl 4 (by decide) eq2321 (hT _ tb_375) (fun _ h9 => h9) dX5_parse_210 ?_
    refine lv_if_eq (tgt := 223) hx hb dX5_parse_213 (by decide) (fun cn2324 => ?_) (fun cn2324 => ?_)
    · skip
      have bd2325 : (0 : Int) ≤ zi2322.toInt ∧ zi2322.toInt ≤ 0 := r_eq_x cn2324 bd2323 bc_0 (by decide) (by decide)
      refine lv_aload_n hx hb dX5_parse_223 rfl (lv_at hl 0 rfl) ?_
      obtain ⟨zi2327, eq2326⟩ := rd_6005 ok2317 kd900
      refine p_get (ci := 5) (v := .int zi2327) (C := RX5) (T := TX5) (N := 7) hx hb hT iw_X5 hown hK hw hW kd900 (by decide) rfl rfl 5 (by decide) eq2326 (hT _ tb_376) (fun _ h9 => h9) dX5_parse_224 ?_
      rw [hQ]
      exact kz_i hx hb hr hlocks hS rfl hp2316 hw ⟨ok2317, (Fr.tr (Fr.tr (Fr.put (cq := 6005) (Fr.put (cq := 6004) (Fr.put (cq := 6003) (Fr.put (cq := 6002) (Fr.tr (Fr.put (cq := 6001) (Fr.tr (Fr.rf) F6 (by decide)) eh10 kd900 (cd_o (by decide)) (by decide)) F14 (by decide)) eh18 kd900 (cd_o (by decide)) (by decide)) eh27 kd900 (cd_o (by decide)) (by decide)) eh30 kd900 (cd_o (by decide)) (by decide)) eh33 kd900 (cd_o (by decide)) (by decide)) F2312 (by decide)) F2318 (by decide))⟩ (Nat.le_of_ble_eq_true rfl) (Nat.le_of_ble_eq_true rfl) dX5_parse_227
    · skip
      have bd2328 : (1 : Int) ≤ zi2322.toInt ∧ zi2322.toInt ≤ 2 := r_ne_lo cn2324 bd2323 (toi bc_0) (by decide) (by decide)
      refine lv_aload_n hx hb dX5_parse_216 rfl (lv_at hl 0 rfl) ?_
      refine p_get (ci := 5) (v := .int zi2322) (C := RX5) (T := TX5) (N := 7) hx hb hT iw_X5 hown hK hw hW kd900 (by decide) rfl rfl 4 (by decide) eq2321 (hT _ tb_375) (fun _ h9 => h9) dX5_parse_217 ?_
      refine lv_goto (tgt := 227) hx hb dX5_parse_220 (by decide) ?_
      rw [hQ]
      exact kz_i hx hb hr hlocks hS rfl hp2316 hw ⟨ok2317, (Fr.tr (Fr.tr (Fr.put (cq := 6005) (Fr.put (cq := 6004) (Fr.put (cq := 6003) (Fr.put (cq := 6002) (Fr.tr (Fr.put (cq := 6001) (Fr.tr (Fr.rf) F6 (by decide)) eh10 kd900 (cd_o (by decide)) (by decide)) F14 (by decide)) eh18 kd900 (cd_o (by decide)) (by decide)) eh27 kd900 (cd_o (by decide)) (by decide)) eh30 kd900 (cd_o (by decide)) (by decide)) eh33 kd900 (cd_o (by decide)) (by decide)) F2312 (by decide)) F2318 (by decide))⟩ (Nat.le_of_ble_eq_true rfl) (Nat.le_of_ble_eq_true rfl) dX5_parse_227
  have lp2331 : ∀ (n2329 : Nat) (hp1855 : Nat → Nat → Value) (zi1854 : Int32) (H : Heap) (locs : List Loc) (ls : Array Slot), 401 - zi1854.toInt < (n2329 : Int) → Ok K hp1855 → Fr [3002, 6002, 6003, 6004, 6005, 6006, 11000, 11001, 11002, 11003, 11004, 11005, 11007, 11008, 26000, 48000, 49000, 50000, 51000, 52000, 53000, 54000, 55000] K hp32 hp1855 → ((0 : Int) ≤ zi1854.toInt ∧ zi1854.toInt ≤ 401) → lv_has ls 4 [(0, .ref qa900), (3, .int zi1854)] → PW G cy K ln Ls A hp1855 H → va_S A s.heap H locs → W p l e ({ frames := 24, cells := 0, slots := 0, locals := 582 } : Room) s m ([.ref qa900, .ref qa901, .ref qa902] : List Value).toArray below meth c H locs 0 0 Q (F0 m 50 ls []) := by
    intro n2329
    induction n2329 with
    | zero =>
      intro hp1855 zi1854 H locs ls hm2332 ok1857 F1856 bd1858 hl hw hS
      exact absurd hm2332 (by have := bd1858; omega)
    | succ n2329 ih2330 =>
      intro hp1855 zi1854 H locs ls hm2332 ok1857 F1856 bd1858 hl hw hS
      refine lv_iload_n hx hb dX5_parse_50 rfl (lv_at hl 1 rfl) ?_
      refine lv_sipush (v := 400) hx hb dX5_parse_51 (by decide) ?_
      refine lv_icmp_gt (tgt := 202) hx hb dX5_parse_54 (by decide) (fun cn2333 => ?_) (fun cn2333 => ?_)
      · skip
        have bd2334 : (401 : Int) ≤ zi1854.toInt ∧ zi1854.toInt ≤ 401 := r_lt_y cn2333 bc_400 bd1858 (by decide) (by decide)
        exact jn2314 hp1855 _ _ ls ok1857 (Fr.tr (Fr.rf) F1856 (by decide)) (lv_sub hl [0] rfl) hw hS
      · skip
        have bd2335 : (0 : Int) ≤ zi1854.toInt ∧ zi1854.toInt ≤ 400 := r_le_x (Int32.not_lt.mp cn2333) bd1858 bc_400 (by decide) (by decide)
        refine lv_aload_n hx hb dX5_parse_57 rfl (lv_at hl 0 rfl) ?_
        obtain ⟨zi2337, eq2336⟩ := rd_6003 ok1857 kd900
        refine p_get (ci := 5) (v := .int zi2337) (C := RX5) (T := TX5) (N := 7) hx hb hT iw_X5 hown hK hw hW kd900 (by decide) rfl rfl 3 (by decide) eq2336 (hT _ tb_374) (fun _ h9 => h9) dX5_parse_58 ?_
        refine lv_if_eq (tgt := 202) hx hb dX5_parse_61 (by decide) (fun cn2338 => ?_) (fun cn2338 => ?_)
        · skip
          have bd2339 : (0 : Int) ≤ zi2337.toInt ∧ zi2337.toInt ≤ 0 := r_eq_x cn2338 (b_all zi2337) bc_0 (by decide) (by decide)
          exact jn2314 hp1855 _ _ ls ok1857 (Fr.tr (Fr.rf) F1856 (by decide)) (lv_sub hl [0] rfl) hw hS
        · skip
          refine lv_aload_n hx hb dX5_parse_64 rfl (lv_at hl 0 rfl) ?_
          refine p_get (ci := 5) (v := .int zi2337) (C := RX5) (T := TX5) (N := 7) hx hb hT iw_X5 hown hK hw hW kd900 (by decide) rfl rfl 3 (by decide) eq2336 (hT _ tb_374) (fun _ h9 => h9) dX5_parse_65 ?_
          have jn2459 : ∀ (hp2456 : Nat → Nat → Value)  (H : Heap) (locs : List Loc) (ls : Array Slot), Ok K hp2456 → Fr [3002, 6002, 6003, 6004, 6005, 6006, 11000, 11001, 11002, 11003, 11004, 11005, 11007, 11008, 26000, 48000, 49000, 50000, 51000, 52000, 53000, 54000, 55000] K hp1855 hp2456 → lv_has ls 4 [(0, .ref qa900), (3, .int zi1854)] → PW G cy K ln Ls A hp2456 H → va_S A s.heap H locs → W p l e ({ frames := 24, cells := 0, slots := 0, locals := 582 } : Room) s m ([.ref qa900, .ref qa901, .ref qa902] : List Value).toArray below meth c H locs 0 0 Q (F0 m 196 ls []) := by
            intro hp2456 H locs ls ok2458 F2457 hl hw hS
            obtain ⟨zi2460, ea2461⟩ : ∃ z : Int32, z = zi1854 + 1 := ⟨_, rfl⟩
            have bd2462 : (1 : Int) ≤ zi2460.toInt ∧ zi2460.toInt ≤ 401 := b_iadd ea2461 bd2335 bc_1 (by decide) (by decide) (by decide) (by decide)
            have qe2463 : zi2460.toInt = (zi1854 : Int32).toInt + (1 : Int32).toInt := e_iadd ea2461 bd2335 bc_1 (by decide) (by decide)
            have qe2464 : zi2460.toInt = zi1854.toInt + 1 := by have ha : (1 : Int32).toInt = 1 := (by decide); rw [ha] at qe2463; exact qe2463
            refine lv_iinc (v := zi2460) (lv' := [(3, .int zi2460), (0, .ref qa900)]) hx hb dX5_parse_196 hl (k := 1) rfl ea2461.symm (by decide) rfl (fun ls hl => ?_)
            refine lv_goto (tgt := 50) hx hb dX5_parse_199 (by decide) ?_
            exact ih2330 hp2456 zi2460 _ _ ls (by have := hm2332; have := qe2464; omega) ok2458 (Fr.tr (Fr.tr (Fr.rf) F1856 (by decide)) F2457 (by decide)) (b_wid2 bd2462 (by decide) (by decide)) (lv_sub hl [1, 0] rfl) hw hS
          by_cases cn2340 : zi2337 = 100
          · skip
            refine lv_tableIn (tgt := 128) hx hb dX5_parse_68 (by rw [cn2340]; decide) (by rw [cn2340]; decide) (by rw [cn2340]; rfl) (by decide) ?_
            have bd2465 : (100 : Int) ≤ zi2337.toInt ∧ zi2337.toInt ≤ 100 := r_eq_x cn2340 (b_all zi2337) bc_100 (by decide) (by decide)
            refine lv_aload_n hx hb dX5_parse_128 rfl (lv_at hl 0 rfl) ?_
            refine kq_v hw hS hA (va_runV (As := []) (rest := []) ⟨hx, hb, hml, hown, hT⟩ (cX5_tellFact_0 l G cy ev K ln Ls hW _ hp1855 ok1857 qa900 kd900) (cwV 0 hT (good_V tb_842 tb_839 tb_841 tb_5 tb_109) rfl rfl rfl (by decide +kernel) ⟨Nat.le_of_ble_eq_true rfl, Nat.le_of_ble_eq_true rfl⟩) (pool_preV (ci := 5) hK hE hS hA hw hW kd900 (by decide) rfl) rfl rfl hl.1 rfl (lv_room (Nat.le_of_ble_eq_true rfl)) dX5_parse_129 ⟨Nat.le_of_ble_eq_true rfl, Nat.le_of_ble_eq_true rfl⟩) (fun hp2466 H locs hq2469 hw hS => ?_)
            obtain ⟨ok2467, F2468⟩ := hq2469
            have hw : PW G cy K ln Ls A hp2466 H := hw
            refine lv_goto (tgt := 196) hx hb dX5_parse_132 (by decide) ?_
            exact jn2459 hp2466 _ _ ls ok2467 (Fr.tr (Fr.rf) F2468 (by decide)) (lv_sub hl [0, 1] rfl) hw hS
          by_cases cn2341 : zi2337 = 101
          · skip
            refine lv_tableIn (tgt := 191) hx hb dX5_parse_68 (by rw [cn2341]; decide) (by rw [cn2341]; decide) (by rw [cn2341]; rfl) (by decide) ?_
            have bd2471 : (101 : Int) ≤ zi2337.toInt ∧ zi2337.toInt ≤ 101 := r_eq_x cn2341 (b_all zi2337) bc_101 (by decide) (by decide)
            refine lv_aload_n hx hb dX5_parse_191 rfl (lv_at hl 0 rfl) ?_
            refine lv_iconst (v := 1) hx hb dX5_parse_192 (by decide) ?_
            refine kq_v hw hS hA (va_runV (As := [.int 1]) (rest := []) ⟨hx, hb, hml, hown, hT⟩ (cX5_fail_0 l G cy ev K ln Ls hW _ hp1855 ok1857 qa900 1 kd900 (b_wid2 bc_1 (by decide) (by decide))) (cwV 1 hT (good_V tb_850 tb_847 tb_849 tb_7 tb_109) rfl rfl rfl (by decide +kernel) ⟨Nat.le_of_ble_eq_true rfl, Nat.le_of_ble_eq_true rfl⟩) (pool_preV (ci := 5) hK hE hS hA hw hW kd900 (by decide) rfl) rfl rfl hl.1 rfl (lv_room (Nat.le_of_ble_eq_true rfl)) dX5_parse_193 ⟨Nat.le_of_ble_eq_true rfl, Nat.le_of_ble_eq_true rfl⟩) (fun hp2472 H locs hq2475 hw hS => ?_)
            obtain ⟨ok2473, F2474, ⟨zi2477, eq2478, bd2479⟩⟩ := hq2475
            have hw : PW G cy K ln Ls A hp2472 H := hw
            exact jn2459 hp2472 _ _ ls ok2473 (Fr.tr (Fr.rf) F2474 (by decide)) (lv_sub hl [0, 1] rfl) hw hS
          by_cases cn2342 : zi2337 = 102
          · skip
            refine lv_tableIn (tgt := 191) hx hb dX5_parse_68 (by rw [cn2342]; decide) (by rw [cn2342]; decide) (by rw [cn2342]; rfl) (by decide) ?_
            have bd2480 : (102 : Int) ≤ zi2337.toInt ∧ zi2337.toInt ≤ 102 := r_eq_x cn2342 (b_all zi2337) bc_102 (by decide) (by decide)
            refine lv_aload_n hx hb dX5_parse_191 rfl (lv_at hl 0 rfl) ?_
            refine lv_iconst (v := 1) hx hb dX5_parse_192 (by decide) ?_
            refine kq_v hw hS hA (va_runV (As := [.int 1]) (rest := []) ⟨hx, hb, hml, hown, hT⟩ (cX5_fail_0 l G cy ev K ln Ls hW _ hp1855 ok1857 qa900 1 kd900 (b_wid2 bc_1 (by decide) (by decide))) (cwV 1 hT (good_V tb_850 tb_847 tb_849 tb_7 tb_109) rfl rfl rfl (by decide +kernel) ⟨Nat.le_of_ble_eq_true rfl, Nat.le_of_ble_eq_true rfl⟩) (pool_preV (ci := 5) hK hE hS hA hw hW kd900 (by decide) rfl) rfl rfl hl.1 rfl (lv_room (Nat.le_of_ble_eq_true rfl)) dX5_parse_193 ⟨Nat.le_of_ble_eq_true rfl, Nat.le_of_ble_eq_true rfl⟩) (fun hp2481 H locs hq2484 hw hS => ?_)
            obtain ⟨ok2482, F2483, ⟨zi2486, eq2487, bd2488⟩⟩ := hq2484
            have hw : PW G cy K ln Ls A hp2481 H := hw
            exact jn2459 hp2481 _ _ ls ok2482 (Fr.tr (Fr.rf) F2483 (by decide)) (lv_sub hl [0, 1] rfl) hw hS
          by_cases cn2343 : zi2337 = 103
          · skip
            refine lv_tableIn (tgt := 191) hx hb dX5_parse_68 (by rw [cn2343]; decide) (by rw [cn2343]; decide) (by rw [cn2343]; rfl) (by decide) ?_
            have bd2489 : (103 : Int) ≤ zi2337.toInt ∧ zi2337.toInt ≤ 103 := r_eq_x cn2343 (b_all zi2337) bc_103 (by decide) (by decide)
            refine lv_aload_n hx hb dX5_parse_191 rfl (lv_at hl 0 rfl) ?_
            refine lv_iconst (v := 1) hx hb dX5_parse_192 (by decide) ?_
            refine kq_v hw hS hA (va_runV (As := [.int 1]) (rest := []) ⟨hx, hb, hml, hown, hT⟩ (cX5_fail_0 l G cy ev K ln Ls hW _ hp1855 ok1857 qa900 1 kd900 (b_wid2 bc_1 (by decide) (by decide))) (cwV 1 hT (good_V tb_850 tb_847 tb_849 tb_7 tb_109) rfl rfl rfl (by decide +kernel) ⟨Nat.le_of_ble_eq_true rfl, Nat.le_of_ble_eq_true rfl⟩) (pool_preV (ci := 5) hK hE hS hA hw hW kd900 (by decide) rfl) rfl rfl hl.1 rfl (lv_room (Nat.le_of_ble_eq_true rfl)) dX5_parse_193 ⟨Nat.le_of_ble_eq_true rfl, Nat.le_of_ble_eq_true rfl⟩) (fun hp2490 H locs hq2493 hw hS => ?_)
            obtain ⟨ok2491, F2492, ⟨zi2495, eq2496, bd2497⟩⟩ := hq2493
            have hw : PW G cy K ln Ls A hp2490 H := hw
            exact jn2459 hp2490 _ _ ls ok2491 (Fr.tr (Fr.rf) F2492 (by decide)) (lv_sub hl [0, 1] rfl) hw hS
          by_cases cn2344 : zi2337 = 104
          · skip
            refine lv_tableIn (tgt := 135) hx hb dX5_parse_68 (by rw [cn2344]; decide) (by rw [cn2344]; decide) (by rw [cn2344]; rfl) (by decide) ?_
            have bd2498 : (104 : Int) ≤ zi2337.toInt ∧ zi2337.toInt ≤ 104 := r_eq_x cn2344 (b_all zi2337) bc_104 (by decide) (by decide)
            refine lv_aload_n hx hb dX5_parse_135 rfl (lv_at hl 0 rfl) ?_
            refine kq_v hw hS hA (va_runV (As := []) (rest := []) ⟨hx, hb, hml, hown, hT⟩ (cX5_tellWitness_0 l G cy ev K ln Ls hW _ hp1855 ok1857 qa900 kd900) (cwV 0 hT (good_V tb_897 tb_894 tb_896 tb_13 tb_109) rfl rfl rfl (by decide +kernel) ⟨Nat.le_of_ble_eq_true rfl, Nat.le_of_ble_eq_true rfl⟩) (pool_preV (ci := 5) hK hE hS hA hw hW kd900 (by decide) rfl) rfl rfl hl.1 rfl (lv_room (Nat.le_of_ble_eq_true rfl)) dX5_parse_136 ⟨Nat.le_of_ble_eq_true rfl, Nat.le_of_ble_eq_true rfl⟩) (fun hp2499 H locs hq2502 hw hS => ?_)
            obtain ⟨ok2500, F2501⟩ := hq2502
            have hw : PW G cy K ln Ls A hp2499 H := hw
            refine lv_goto (tgt := 196) hx hb dX5_parse_139 (by decide) ?_
            exact jn2459 hp2499 _ _ ls ok2500 (Fr.tr (Fr.rf) F2501 (by decide)) (lv_sub hl [0, 1] rfl) hw hS
          by_cases cn2345 : zi2337 = 105
          · skip
            refine lv_tableIn (tgt := 142) hx hb dX5_parse_68 (by rw [cn2345]; decide) (by rw [cn2345]; decide) (by rw [cn2345]; rfl) (by decide) ?_
            have bd2504 : (105 : Int) ≤ zi2337.toInt ∧ zi2337.toInt ≤ 105 := r_eq_x cn2345 (b_all zi2337) bc_105 (by decide) (by decide)
            refine lv_aload_n hx hb dX5_parse_142 rfl (lv_at hl 0 rfl) ?_
            refine kq_v hw hS hA (va_runV (As := []) (rest := []) ⟨hx, hb, hml, hown, hT⟩ (cX5_tellWord_0 l G cy ev K ln Ls hW _ hp1855 ok1857 qa900 kd900) (cwV 0 hT (good_V tb_905 tb_902 tb_904 tb_14 tb_109) rfl rfl rfl (by decide +kernel) ⟨Nat.le_of_ble_eq_true rfl, Nat.le_of_ble_eq_true rfl⟩) (pool_preV (ci := 5) hK hE hS hA hw hW kd900 (by decide) rfl) rfl rfl hl.1 rfl (lv_room (Nat.le_of_ble_eq_true rfl)) dX5_parse_143 ⟨Nat.le_of_ble_eq_true rfl, Nat.le_of_ble_eq_true rfl⟩) (fun hp2505 H locs hq2508 hw hS => ?_)
            obtain ⟨ok2506, F2507⟩ := hq2508
            have hw : PW G cy K ln Ls A hp2505 H := hw
            refine lv_goto (tgt := 196) hx hb dX5_parse_146 (by decide) ?_
            exact jn2459 hp2505 _ _ ls ok2506 (Fr.tr (Fr.rf) F2507 (by decide)) (lv_sub hl [0, 1] rfl) hw hS
          by_cases cn2346 : zi2337 = 106
          · skip
            refine lv_tableIn (tgt := 191) hx hb dX5_parse_68 (by rw [cn2346]; decide) (by rw [cn2346]; decide) (by rw [cn2346]; rfl) (by decide) ?_
            have bd2510 : (106 : Int) ≤ zi2337.toInt ∧ zi2337.toInt ≤ 106 := r_eq_x cn2346 (b_all zi2337) bc_106 (by decide) (by decide)
            refine lv_aload_n hx hb dX5_parse_191 rfl (lv_at hl 0 rfl) ?_
            refine lv_iconst (v := 1) hx hb dX5_parse_192 (by decide) ?_
            refine kq_v hw hS hA (va_runV (As := [.int 1]) (rest := []) ⟨hx, hb, hml, hown, hT⟩ (cX5_fail_0 l G cy ev K ln Ls hW _ hp1855 ok1857 qa900 1 kd900 (b_wid2 bc_1 (by decide) (by decide))) (cwV 1 hT (good_V tb_850 tb_847 tb_849 tb_7 tb_109) rfl rfl rfl (by decide +kernel) ⟨Nat.le_of_ble_eq_true rfl, Nat.le_of_ble_eq_true rfl⟩) (pool_preV (ci := 5) hK hE hS hA hw hW kd900 (by decide) rfl) rfl rfl hl.1 rfl (lv_room (Nat.le_of_ble_eq_true rfl)) dX5_parse_193 ⟨Nat.le_of_ble_eq_true rfl, Nat.le_of_ble_eq_true rfl⟩) (fun hp2511 H locs hq2514 hw hS => ?_)
            obtain ⟨ok2512, F2513, ⟨zi2516, eq2517, bd2518⟩⟩ := hq2514
            have hw : PW G cy K ln Ls A hp2511 H := hw
            exact jn2459 hp2511 _ _ ls ok2512 (Fr.tr (Fr.rf) F2513 (by decide)) (lv_sub hl [0, 1] rfl) hw hS
          by_cases cn2347 : zi2337 = 107
          · skip
            refine lv_tableIn (tgt := 149) hx hb dX5_parse_68 (by rw [cn2347]; decide) (by rw [cn2347]; decide) (by rw [cn2347]; rfl) (by decide) ?_
            have bd2519 : (107 : Int) ≤ zi2337.toInt ∧ zi2337.toInt ≤ 107 := r_eq_x cn2347 (b_all zi2337) bc_107 (by decide) (by decide)
            refine lv_aload_n hx hb dX5_parse_149 rfl (lv_at hl 0 rfl) ?_
            refine kq_v hw hS hA (va_runV (As := []) (rest := []) ⟨hx, hb, hml, hown, hT⟩ (cX5_tellCase_0 l G cy ev K ln Ls hW _ hp1855 ok1857 qa900 kd900) (cwV 0 hT (good_V tb_934 tb_931 tb_933 tb_19 tb_109) rfl rfl rfl (by decide +kernel) ⟨Nat.le_of_ble_eq_true rfl, Nat.le_of_ble_eq_true rfl⟩) (pool_preV (ci := 5) hK hE hS hA hw hW kd900 (by decide) rfl) rfl rfl hl.1 rfl (lv_room (Nat.le_of_ble_eq_true rfl)) dX5_parse_150 ⟨Nat.le_of_ble_eq_true rfl, Nat.le_of_ble_eq_true rfl⟩) (fun hp2520 H locs hq2523 hw hS => ?_)
            obtain ⟨ok2521, F2522⟩ := hq2523
            have hw : PW G cy K ln Ls A hp2520 H := hw
            refine lv_goto (tgt := 196) hx hb dX5_parse_153 (by decide) ?_
            exact jn2459 hp2520 _ _ ls ok2521 (Fr.tr (Fr.rf) F2522 (by decide)) (lv_sub hl [0, 1] rfl) hw hS
          by_cases cn2348 : zi2337 = 108
          · skip
            refine lv_tableIn (tgt := 156) hx hb dX5_parse_68 (by rw [cn2348]; decide) (by rw [cn2348]; decide) (by rw [cn2348]; rfl) (by decide) ?_
            have bd2525 : (108 : Int) ≤ zi2337.toInt ∧ zi2337.toInt ≤ 108 := r_eq_x cn2348 (b_all zi2337) bc_108 (by decide) (by decide)
            refine lv_aload_n hx hb dX5_parse_156 rfl (lv_at hl 0 rfl) ?_
            refine lv_aload_n hx hb dX5_parse_157 rfl (lv_at hl 0 rfl) ?_
            have eq2526 : hp1855 qa900 1 = .ref qa902 := Eq.trans (Fr.at (cq := 6001) F1856 kd900 (cd_o (by decide)) (by decide)) (Eq.trans (up_at eh33 (Or.inr (by decide))) (Eq.trans (up_at eh30 (Or.inr (by decide))) (Eq.trans (up_at eh27 (Or.inr (by decide))) (Eq.trans (up_at eh18 (Or.inr (by decide))) (Eq.trans (Fr.at (cq := 6001) F14 kd900 (cd_o (by decide)) (by decide)) (hp_self eh10))))))
            refine p_get (ci := 5) (v := .ref qa902) (C := RX5) (T := TX5) (N := 7) hx hb hT iw_X5 hown hK hw hW kd900 (by decide) rfl rfl 1 (by decide) eq2526 (hT _ tb_372) (fun _ h9 => h9) dX5_parse_158 ?_
            obtain ⟨qa2528, eq2527, kd2529⟩ := rd_11018 ok1857 kd902
            refine p_getN (ci := 10) (v := .ref qa2528) (C := RX10) (T := TX10) (N := 20) hx hb hT iw_X10 hown hK hw hW kd902 (by decide) rfl rfl 18 (by decide) eq2527 (hK.fl nw_138) (fun _ h9 => h9) dX5_parse_161 ?_
            refine kq_v hw hS hA (va_runV (As := [.ref qa2528]) (rest := []) ⟨hx, hb, hml, hown, hT⟩ (cX5_tellLaw_0 l G cy ev K ln Ls hW _ hp1855 ok1857 qa900 qa2528 kd900 kd2529) (cwV 1 hT (good_V tb_946 tb_943 tb_945 tb_21 tb_109) rfl rfl rfl (by decide +kernel) ⟨Nat.le_of_ble_eq_true rfl, Nat.le_of_ble_eq_true rfl⟩) (pool_preV (ci := 5) hK hE hS hA hw hW kd900 (by decide) rfl) rfl rfl hl.1 rfl (lv_room (Nat.le_of_ble_eq_true rfl)) dX5_parse_164 ⟨Nat.le_of_ble_eq_true rfl, Nat.le_of_ble_eq_true rfl⟩) (fun hp2530 H locs hq2533 hw hS => ?_)
            obtain ⟨ok2531, F2532⟩ := hq2533
            have hw : PW G cy K ln Ls A hp2530 H := hw
            refine lv_goto (tgt := 196) hx hb dX5_parse_167 (by decide) ?_
            exact jn2459 hp2530 _ _ ls ok2531 (Fr.tr (Fr.rf) F2532 (by decide)) (lv_sub hl [0, 1] rfl) hw hS
          by_cases cn2349 : zi2337 = 109
          · skip
            refine lv_tableIn (tgt := 170) hx hb dX5_parse_68 (by rw [cn2349]; decide) (by rw [cn2349]; decide) (by rw [cn2349]; rfl) (by decide) ?_
            have bd2535 : (109 : Int) ≤ zi2337.toInt ∧ zi2337.toInt ≤ 109 := r_eq_x cn2349 (b_all zi2337) bc_109 (by decide) (by decide)
            refine lv_aload_n hx hb dX5_parse_170 rfl (lv_at hl 0 rfl) ?_
            refine lv_aload_n hx hb dX5_parse_171 rfl (lv_at hl 0 rfl) ?_
            have eq2536 : hp1855 qa900 1 = .ref qa902 := Eq.trans (Fr.at (cq := 6001) F1856 kd900 (cd_o (by decide)) (by decide)) (Eq.trans (up_at eh33 (Or.inr (by decide))) (Eq.trans (up_at eh30 (Or.inr (by decide))) (Eq.trans (up_at eh27 (Or.inr (by decide))) (Eq.trans (up_at eh18 (Or.inr (by decide))) (Eq.trans (Fr.at (cq := 6001) F14 kd900 (cd_o (by decide)) (by decide)) (hp_self eh10))))))
            refine p_get (ci := 5) (v := .ref qa902) (C := RX5) (T := TX5) (N := 7) hx hb hT iw_X5 hown hK hw hW kd900 (by decide) rfl rfl 1 (by decide) eq2536 (hT _ tb_372) (fun _ h9 => h9) dX5_parse_172 ?_
            obtain ⟨qa2538, eq2537, kd2539⟩ := rd_11019 ok1857 kd902
            refine p_getN (ci := 10) (v := .ref qa2538) (C := RX10) (T := TX10) (N := 20) hx hb hT iw_X10 hown hK hw hW kd902 (by decide) rfl rfl 19 (by decide) eq2537 (hK.fl nw_141) (fun _ h9 => h9) dX5_parse_175 ?_
            refine kq_v hw hS hA (va_runV (As := [.ref qa2538]) (rest := []) ⟨hx, hb, hml, hown, hT⟩ (cX5_tellLaw_0 l G cy ev K ln Ls hW _ hp1855 ok1857 qa900 qa2538 kd900 kd2539) (cwV 1 hT (good_V tb_946 tb_943 tb_945 tb_21 tb_109) rfl rfl rfl (by decide +kernel) ⟨Nat.le_of_ble_eq_true rfl, Nat.le_of_ble_eq_true rfl⟩) (pool_preV (ci := 5) hK hE hS hA hw hW kd900 (by decide) rfl) rfl rfl hl.1 rfl (lv_room (Nat.le_of_ble_eq_true rfl)) dX5_parse_178 ⟨Nat.le_of_ble_eq_true rfl, Nat.le_of_ble_eq_true rfl⟩) (fun hp2540 H locs hq2543 hw hS => ?_)
            obtain ⟨ok2541, F2542⟩ := hq2543
            have hw : PW G cy K ln Ls A hp2540 H := hw
            refine lv_goto (tgt := 196) hx hb dX5_parse_181 (by decide) ?_
            exact jn2459 hp2540 _ _ ls ok2541 (Fr.tr (Fr.rf) F2542 (by decide)) (lv_sub hl [0, 1] rfl) hw hS
          by_cases cn2350 : zi2337 = 110
          · skip
            refine lv_tableIn (tgt := 184) hx hb dX5_parse_68 (by rw [cn2350]; decide) (by rw [cn2350]; decide) (by rw [cn2350]; rfl) (by decide) ?_
            have bd2545 : (110 : Int) ≤ zi2337.toInt ∧ zi2337.toInt ≤ 110 := r_eq_x cn2350 (b_all zi2337) bc_110 (by decide) (by decide)
            refine lv_aload_n hx hb dX5_parse_184 rfl (lv_at hl 0 rfl) ?_
            refine kq_v hw hS hA (va_runV (As := []) (rest := []) ⟨hx, hb, hml, hown, hT⟩ (cX5_tellClock_0 l G cy ev K ln Ls hW _ hp1855 ok1857 qa900 kd900) (cwV 0 hT (good_V tb_964 tb_961 tb_963 tb_25 tb_109) rfl rfl rfl (by decide +kernel) ⟨Nat.le_of_ble_eq_true rfl, Nat.le_of_ble_eq_true rfl⟩) (pool_preV (ci := 5) hK hE hS hA hw hW kd900 (by decide) rfl) rfl rfl hl.1 rfl (lv_room (Nat.le_of_ble_eq_true rfl)) dX5_parse_185 ⟨Nat.le_of_ble_eq_true rfl, Nat.le_of_ble_eq_true rfl⟩) (fun hp2546 H locs hq2549 hw hS => ?_)
            obtain ⟨ok2547, F2548⟩ := hq2549
            have hw : PW G cy K ln Ls A hp2546 H := hw
            refine lv_goto (tgt := 196) hx hb dX5_parse_188 (by decide) ?_
            exact jn2459 hp2546 _ _ ls ok2547 (Fr.tr (Fr.rf) F2548 (by decide)) (lv_sub hl [0, 1] rfl) hw hS
          have nn2351 : zi2337.toInt ≠ 100 := fun e => cn2340 (Int32.toInt_inj.mp (e.trans (by decide)))
          have nn2352 : zi2337.toInt ≠ 101 := fun e => cn2341 (Int32.toInt_inj.mp (e.trans (by decide)))
          have nn2353 : zi2337.toInt ≠ 102 := fun e => cn2342 (Int32.toInt_inj.mp (e.trans (by decide)))
          have nn2354 : zi2337.toInt ≠ 103 := fun e => cn2343 (Int32.toInt_inj.mp (e.trans (by decide)))
          have nn2355 : zi2337.toInt ≠ 104 := fun e => cn2344 (Int32.toInt_inj.mp (e.trans (by decide)))
          have nn2356 : zi2337.toInt ≠ 105 := fun e => cn2345 (Int32.toInt_inj.mp (e.trans (by decide)))
          have nn2357 : zi2337.toInt ≠ 106 := fun e => cn2346 (Int32.toInt_inj.mp (e.trans (by decide)))
          have nn2358 : zi2337.toInt ≠ 107 := fun e => cn2347 (Int32.toInt_inj.mp (e.trans (by decide)))
          have nn2359 : zi2337.toInt ≠ 108 := fun e => cn2348 (Int32.toInt_inj.mp (e.trans (by decide)))
          have nn2360 : zi2337.toInt ≠ 109 := fun e => cn2349 (Int32.toInt_inj.mp (e.trans (by decide)))
          have nn2361 : zi2337.toInt ≠ 110 := fun e => cn2350 (Int32.toInt_inj.mp (e.trans (by decide)))
          refine lv_tableOut (tgt := 191) hx hb dX5_parse_68 (by have := (b_all zi2337); omega) (by decide) ?_
          refine lv_aload_n hx hb dX5_parse_191 rfl (lv_at hl 0 rfl) ?_
          refine lv_iconst (v := 1) hx hb dX5_parse_192 (by decide) ?_
          refine kq_v hw hS hA (va_runV (As := [.int 1]) (rest := []) ⟨hx, hb, hml, hown, hT⟩ (cX5_fail_0 l G cy ev K ln Ls hW _ hp1855 ok1857 qa900 1 kd900 (b_wid2 bc_1 (by decide) (by decide))) (cwV 1 hT (good_V tb_850 tb_847 tb_849 tb_7 tb_109) rfl rfl rfl (by decide +kernel) ⟨Nat.le_of_ble_eq_true rfl, Nat.le_of_ble_eq_true rfl⟩) (pool_preV (ci := 5) hK hE hS hA hw hW kd900 (by decide) rfl) rfl rfl hl.1 rfl (lv_room (Nat.le_of_ble_eq_true rfl)) dX5_parse_193 ⟨Nat.le_of_ble_eq_true rfl, Nat.le_of_ble_eq_true rfl⟩) (fun hp2551 H locs hq2554 hw hS => ?_)
          obtain ⟨ok2552, F2553, ⟨zi2556, eq2557, bd2558⟩⟩ := hq2554
          have hw : PW G cy K ln Ls A hp2551 H := hw
          exact jn2459 hp2551 _ _ ls ok2552 (Fr.tr (Fr.rf) F2553 (by decide)) (lv_sub hl [0, 1] rfl) hw hS
  exact lp2331 _ hp32 0 _ _ ls (lp_in _) ok34 (Fr.rf) (b_wid2 bc_0 (by decide) (by decide)) (lv_sub hl [1, 0] rfl) hw hS

set_option maxRecDepth 100000 in
set_option maxHeartbeats 4000000 in
theorem cX5_faultPlace_0 (l : Launch) (G : va_G) (cy : Nat → ClassId) (ev : Ew) (K ln : Nat → Nat) (Ls : List Nat) (hW : SW K ln Ls) (sz : Nat) (hp0 : Nat → Nat → Value) (ok0 : Ok K hp0) (qa900 : Nat) (kd900 : K qa900 = 6) : Met l yX5_faultPlace (WS yX5_faultPlace cX5_faultPlace 1 (some .int)) { frames := 1, cells := 0, slots := 0, locals := 21 } (PB2 [.ref qa900] sz G cy ev (va_pl Ls (cellOf cy K ln hp0))) (QBi (S := (Nat → Nat → Value)) (fun (r : Int32) (u : (Nat → Nat → Value)) => Ok K u ∧ Fr [] K hp0 u) G (fun u => va_pl Ls (cellOf cy K ln u)) (va_A (va_pl Ls (cellOf cy K ln hp0)) sz)) 0 0 (va_A (va_pl Ls (cellOf cy K ln hp0)) sz) := by
  refine met_of2 (y := yX5_faultPlace) (L := 1) (av := [.ref qa900]) (Qc := fun A => QBi (S := (Nat → Nat → Value)) (fun (r : Int32) (u : (Nat → Nat → Value)) => Ok K u ∧ Fr [] K hp0 u) G (fun u => va_pl Ls (cellOf cy K ln u)) A) (plainFor_of_name (by decide)) (Nat.le_of_ble_eq_true rfl) ?_
  intro p e s m below meth c hsz hx hb hr hml hown hT hlocks hin hK A hA hE hw hS ls hl
  have hw : PW G cy K ln Ls A hp0 s.heap := hw
  have hown : s.vm.findClass "LieClock$Parser" = some m.cls := hown
  have hl : lv_has ls 1 [(0, .ref qa900)] := hl
  obtain ⟨Q, hQ⟩ : ∃ Q : State → Prop, Q = MQ below (QBi (S := (Nat → Nat → Value)) (fun (r : Int32) (u : (Nat → Nat → Value)) => Ok K u ∧ Fr [] K hp0 u) G (fun u => va_pl Ls (cellOf cy K ln u)) A) ([.ref qa900] : List Value).toArray s 0 0 A := ⟨_, rfl⟩
  rw [← hQ]
  refine lv_aload_n hx hb dX5_faultPlace_0 rfl (lv_at hl 0 rfl) ?_
  obtain ⟨zi2, eq1, bd3⟩ := rd_6004 ok0 kd900
  refine p_get (ci := 5) (v := .int zi2) (C := RX5) (T := TX5) (N := 7) hx hb hT iw_X5 hown hK hw hW kd900 (by decide) rfl rfl 4 (by decide) eq1 (hT _ tb_375) (fun _ h9 => h9) dX5_faultPlace_1 ?_
  refine lv_if_eq (tgt := 19) hx hb dX5_faultPlace_4 (by decide) (fun cn4 => ?_) (fun cn4 => ?_)
  · skip
    have bd5 : (0 : Int) ≤ zi2.toInt ∧ zi2.toInt ≤ 0 := r_eq_x cn4 bd3 bc_0 (by decide) (by decide)
    refine lv_aload_n hx hb dX5_faultPlace_19 rfl (lv_at hl 0 rfl) ?_
    obtain ⟨zi7, eq6⟩ := rd_6005 ok0 kd900
    refine p_get (ci := 5) (v := .int zi7) (C := RX5) (T := TX5) (N := 7) hx hb hT iw_X5 hown hK hw hW kd900 (by decide) rfl rfl 5 (by decide) eq6 (hT _ tb_376) (fun _ h9 => h9) dX5_faultPlace_20 ?_
    refine lv_if_eq (tgt := 33) hx hb dX5_faultPlace_23 (by decide) (fun cn8 => ?_) (fun cn8 => ?_)
    · skip
      have bd9 : (0 : Int) ≤ zi7.toInt ∧ zi7.toInt ≤ 0 := r_eq_x cn8 (b_all zi7) bc_0 (by decide) (by decide)
      refine lv_iconst (v := (-1)) hx hb dX5_faultPlace_33 (by decide) ?_
      rw [hQ]
      exact kz_i hx hb hr hlocks hS rfl hp0 hw ⟨ok0, (Fr.rf)⟩ (Nat.le_of_ble_eq_true rfl) (Nat.le_of_ble_eq_true rfl) dX5_faultPlace_34
    · skip
      refine lv_aload_n hx hb dX5_faultPlace_26 rfl (lv_at hl 0 rfl) ?_
      obtain ⟨zi11, eq10⟩ := rd_6006 ok0 kd900
      refine p_get (ci := 5) (v := .int zi11) (C := RX5) (T := TX5) (N := 7) hx hb hT iw_X5 hown hK hw hW kd900 (by decide) rfl rfl 6 (by decide) eq10 (hT _ tb_377) (fun _ h9 => h9) dX5_faultPlace_27 ?_
      refine lv_goto (tgt := 34) hx hb dX5_faultPlace_30 (by decide) ?_
      rw [hQ]
      exact kz_i hx hb hr hlocks hS rfl hp0 hw ⟨ok0, (Fr.rf)⟩ (Nat.le_of_ble_eq_true rfl) (Nat.le_of_ble_eq_true rfl) dX5_faultPlace_34
  · skip
    have bd12 : (1 : Int) ≤ zi2.toInt ∧ zi2.toInt ≤ 2 := r_ne_lo cn4 bd3 (toi bc_0) (by decide) (by decide)
    refine lv_aload_n hx hb dX5_faultPlace_7 rfl (lv_at hl 0 rfl) ?_
    obtain ⟨qa14, eq13, kd15⟩ := rd_6000 ok0 kd900
    refine p_get (ci := 5) (v := .ref qa14) (C := RX5) (T := TX5) (N := 7) hx hb hT iw_X5 hown hK hw hW kd900 (by decide) rfl rfl 0 (by decide) eq13 (hT _ tb_371) (fun _ h9 => h9) dX5_faultPlace_8 ?_
    refine lv_aload_n hx hb dX5_faultPlace_11 rfl (lv_at hl 0 rfl) ?_
    obtain ⟨zi17, eq16, bd18⟩ := rd_6002 ok0 kd900
    refine p_get (ci := 5) (v := .int zi17) (C := RX5) (T := TX5) (N := 7) hx hb hT iw_X5 hown hK hw hW kd900 (by decide) rfl rfl 2 (by decide) eq16 (hT _ tb_373) (fun _ h9 => h9) dX5_faultPlace_12 ?_
    refine kq_i hw hS hA (va_runV (As := [.int zi17]) (rest := []) ⟨hx, hb, hml, hown, hT⟩ (cX9_placeAt_0 l G cy ev K ln Ls hW _ hp0 ok0 qa14 zi17 kd15) (cwV 1 hT (good_V tb_885 tb_882 tb_883 tb_884 tb_110) rfl rfl rfl (by decide +kernel) ⟨Nat.le_of_ble_eq_true rfl, Nat.le_of_ble_eq_true rfl⟩) (pool_preV (ci := 9) hK hE hS hA hw hW kd15 (by decide) rfl) rfl rfl hl.1 rfl (lv_room (Nat.le_of_ble_eq_true rfl)) dX5_faultPlace_15 ⟨Nat.le_of_ble_eq_true rfl, Nat.le_of_ble_eq_true rfl⟩) (fun zi23 hp19 H locs hq22 hw hS => ?_)
    obtain ⟨ok20, F21⟩ := hq22
    obtain rfl : hp0 = hp19 := (Fr.nil F21).symm
    have hw : PW G cy K ln Ls A hp0 H := hw
    rw [hQ]
    exact kz_i hx hb hr hlocks hS rfl hp0 hw ⟨ok0, (Fr.rf)⟩ (Nat.le_of_ble_eq_true rfl) (Nat.le_of_ble_eq_true rfl) dX5_faultPlace_18

set_option maxRecDepth 100000 in
set_option maxHeartbeats 4000000 in
theorem cX5_accept_2 (l : Launch) (G : va_G) (cy : Nat → ClassId) (ev : Ew) (K ln : Nat → Nat) (Ls : List Nat) (hW : SW K ln Ls) (sz : Nat) (hp0 : Nat → Nat → Value) (ok0 : Ok K hp0) (qa900 : Nat) (zi901 : Int32) (kd900 : K qa900 = 6) : Met l yX5_accept (WS yX5_accept cX5_accept 2 (some .boolean)) { frames := 0, cells := 0, slots := 0, locals := 0 } (PB2 [.ref qa900, .int zi901] sz G cy ev (va_pl Ls (cellOf cy K ln hp0))) (QBi (S := (Nat → Nat → Value)) (fun (r : Int32) (u : (Nat → Nat → Value)) => Ok K u ∧ Fr [6002, 6003, 6004] K hp0 u ∧ ((0 : Int) ≤ r.toInt ∧ r.toInt ≤ 1) ∧ (r = 1 → ∃ z : Int32, u qa900 2 = .int z ∧ ((1 : Int) ≤ z.toInt ∧ z.toInt ≤ 400)) ∧ (r = 1 → ∃ z : Int32, u qa900 4 = .int z ∧ ((0 : Int) ≤ z.toInt ∧ z.toInt ≤ 0))) G (fun u => va_pl Ls (cellOf cy K ln u)) (va_A (va_pl Ls (cellOf cy K ln hp0)) sz)) 0 0 (va_A (va_pl Ls (cellOf cy K ln hp0)) sz) := by
  refine met_of2 (y := yX5_accept) (L := 2) (av := [.ref qa900, .int zi901]) (Qc := fun A => QBi (S := (Nat → Nat → Value)) (fun (r : Int32) (u : (Nat → Nat → Value)) => Ok K u ∧ Fr [6002, 6003, 6004] K hp0 u ∧ ((0 : Int) ≤ r.toInt ∧ r.toInt ≤ 1) ∧ (r = 1 → ∃ z : Int32, u qa900 2 = .int z ∧ ((1 : Int) ≤ z.toInt ∧ z.toInt ≤ 400)) ∧ (r = 1 → ∃ z : Int32, u qa900 4 = .int z ∧ ((0 : Int) ≤ z.toInt ∧ z.toInt ≤ 0))) G (fun u => va_pl Ls (cellOf cy K ln u)) A) (plainFor_of_name (by decide)) (Nat.le_of_ble_eq_true rfl) ?_
  intro p e s m below meth c hsz hx hb hr hml hown hT hlocks hin hK A hA hE hw hS ls hl
  have hw : PW G cy K ln Ls A hp0 s.heap := hw
  have hown : s.vm.findClass "LieClock$Parser" = some m.cls := hown
  have hl : lv_has ls 2 [(0, .ref qa900), (1, .int zi901)] := hl
  obtain ⟨Q, hQ⟩ : ∃ Q : State → Prop, Q = MQ below (QBi (S := (Nat → Nat → Value)) (fun (r : Int32) (u : (Nat → Nat → Value)) => Ok K u ∧ Fr [6002, 6003, 6004] K hp0 u ∧ ((0 : Int) ≤ r.toInt ∧ r.toInt ≤ 1) ∧ (r = 1 → ∃ z : Int32, u qa900 2 = .int z ∧ ((1 : Int) ≤ z.toInt ∧ z.toInt ≤ 400)) ∧ (r = 1 → ∃ z : Int32, u qa900 4 = .int z ∧ ((0 : Int) ≤ z.toInt ∧ z.toInt ≤ 0))) G (fun u => va_pl Ls (cellOf cy K ln u)) A) ([.ref qa900, .int zi901] : List Value).toArray s 0 0 A := ⟨_, rfl⟩
  rw [← hQ]
  refine lv_aload_n hx hb dX5_accept_0 rfl (lv_at hl 0 rfl) ?_
  obtain ⟨zi2, eq1⟩ := rd_6003 ok0 kd900
  refine p_get (ci := 5) (v := .int zi2) (C := RX5) (T := TX5) (N := 7) hx hb hT iw_X5 hown hK hw hW kd900 (by decide) rfl rfl 3 (by decide) eq1 (hT _ tb_374) (fun _ h9 => h9) dX5_accept_1 ?_
  refine lv_iload_n hx hb dX5_accept_4 rfl (lv_at hl 1 rfl) ?_
  refine lv_icmp_ne (tgt := 15) hx hb dX5_accept_5 (by decide) (fun cn3 => ?_) (fun cn3 => ?_)
  · skip
    refine lv_iconst (v := 0) hx hb dX5_accept_15 (by decide) ?_
    rw [hQ]
    exact kz_i hx hb hr hlocks hS (nz_n bc_0 (by decide) (by decide)) hp0 hw ⟨ok0, (Fr.rf), (b_wid2 bc_0 (by decide) (by decide)), (fun h => absurd h (by decide)), (fun h => absurd h (by decide))⟩ (Nat.le_of_ble_eq_true rfl) (Nat.le_of_ble_eq_true rfl) dX5_accept_16
  · skip
    refine lv_aload_n hx hb dX5_accept_8 rfl (lv_at hl 0 rfl) ?_
    obtain ⟨zi5, eq4, bd6⟩ := rd_6004 ok0 kd900
    refine p_get (ci := 5) (v := .int zi5) (C := RX5) (T := TX5) (N := 7) hx hb hT iw_X5 hown hK hw hW kd900 (by decide) rfl rfl 4 (by decide) eq4 (hT _ tb_375) (fun _ h9 => h9) dX5_accept_9 ?_
    refine lv_if_eq (tgt := 17) hx hb dX5_accept_12 (by decide) (fun cn7 => ?_) (fun cn7 => ?_)
    · skip
      have bd8 : (0 : Int) ≤ zi5.toInt ∧ zi5.toInt ≤ 0 := r_eq_x cn7 bd6 bc_0 (by decide) (by decide)
      refine lv_aload_n hx hb dX5_accept_17 rfl (lv_at hl 0 rfl) ?_
      obtain ⟨zi10, eq9, bd11⟩ := rd_6002 ok0 kd900
      refine p_get (ci := 5) (v := .int zi10) (C := RX5) (T := TX5) (N := 7) hx hb hT iw_X5 hown hK hw hW kd900 (by decide) rfl rfl 2 (by decide) eq9 (hT _ tb_373) (fun _ h9 => h9) dX5_accept_18 ?_
      refine lv_sipush (v := 400) hx hb dX5_accept_21 (by decide) ?_
      refine lv_icmp_lt (tgt := 39) hx hb dX5_accept_24 (by decide) (fun cn12 => ?_) (fun cn12 => ?_)
      · skip
        have bd13 : (0 : Int) ≤ zi10.toInt ∧ zi10.toInt ≤ 399 := r_lt_x cn12 bd11 bc_400 (by decide) (by decide)
        refine lv_aload_n hx hb dX5_accept_39 rfl (lv_at hl 0 rfl) ?_
        refine lv_dup hx hb dX5_accept_40 rfl ?_
        refine p_get (ci := 5) (v := .int zi10) (C := RX5) (T := TX5) (N := 7) hx hb hT iw_X5 hown hK hw hW kd900 (by decide) rfl rfl 2 (by decide) eq9 (hT _ tb_373) (fun _ h9 => h9) dX5_accept_41 ?_
        refine lv_iconst (v := 1) hx hb dX5_accept_44 (by decide) ?_
        refine lv_iadd hx hb dX5_accept_45 (lv_topi (fun zi14 ea15 => ?_))
        have bd16 : (1 : Int) ≤ zi14.toInt ∧ zi14.toInt ≤ 400 := b_iadd ea15 bd13 bc_1 (by decide) (by decide) (by decide) (by decide)
        have qe17 : zi14.toInt = (zi10 : Int32).toInt + (1 : Int32).toInt := e_iadd ea15 bd13 bc_1 (by decide) (by decide)
        have qe18 : zi14.toInt = zi10.toInt + 1 := by have ha : (1 : Int32).toInt = 1 := (by decide); rw [ha] at qe17; exact qe17
        refine p_put (ci := 5) (v := .int zi14) (ty := .int) (C := RX5) (T := TX5) (N := 7) hx hb hT iw_X5 tyX5 tyX5_ok nmX5 hown hK hw hS hW kd900 (by decide) rfl rfl 2 (by decide) (hT _ tb_373) (fun _ h9 => h9) rfl (by decide +kernel) rfl rfl dX5_accept_46 (fun hp19 eh20 H locs hw hS => ?_)
        have ok21 := wr_6002 bd16 (by decide) (by decide) ok0 kd900 eh20
        refine lv_aload_n hx hb dX5_accept_49 rfl (lv_at hl 0 rfl) ?_
        refine lv_aload_n hx hb dX5_accept_50 rfl (lv_at hl 0 rfl) ?_
        obtain ⟨qa23, eq22, kd24⟩ := rd_6000 ok21 kd900
        refine p_get (ci := 5) (v := .ref qa23) (C := RX5) (T := TX5) (N := 7) hx hb hT iw_X5 hown hK hw hW kd900 (by decide) rfl rfl 0 (by decide) eq22 (hT _ tb_371) (fun _ h9 => h9) dX5_accept_51 ?_
        obtain ⟨qa26, eq25, kd27⟩ := rd_10000 ok21 kd24
        refine p_getN (ci := 9) (v := .ref qa26) (C := RX9) (T := TX9) (N := 5) hx hb hT iw_X9 hown hK hw hW kd24 (by decide) rfl rfl 0 (by decide) eq25 (hK.fl nw_250) (fun _ h9 => h9) dX5_accept_54 ?_
        refine lv_aload_n hx hb dX5_accept_57 rfl (lv_at hl 0 rfl) ?_
        refine p_get (ci := 5) (v := .int zi14) (C := RX5) (T := TX5) (N := 7) hx hb hT iw_X5 hown hK hw hW kd900 (by decide) rfl rfl 2 (by decide) (hp_self eh20) (hT _ tb_373) (fun _ h9 => h9) dX5_accept_58 ?_
        obtain ⟨zi29, eq28⟩ := rd_44000 ok21 kd27 ((zi14 : Int32).toNatClampNeg)
        refine p_iald (v := zi29) hx hb hK hw hW kd27 (by decide) rfl (hW.len kd27 (n := 401) rfl (by decide)) (vp_b bd16 (by decide) (by decide)) eq28 dX5_accept_61 ?_
        refine p_put (ci := 5) (v := .int zi29) (ty := .int) (C := RX5) (T := TX5) (N := 7) hx hb hT iw_X5 tyX5 tyX5_ok nmX5 hown hK hw hS hW kd900 (by decide) rfl rfl 3 (by decide) (hT _ tb_374) (fun _ h9 => h9) rfl (by decide +kernel) rfl rfl dX5_accept_62 (fun hp30 eh31 H locs hw hS => ?_)
        have ok32 := wr_6003 ok21 kd900 eh31
        refine lv_iconst (v := 1) hx hb dX5_accept_65 (by decide) ?_
        have eq33 : hp30 qa900 2 = .int zi14 := Eq.trans (up_at eh31 (Or.inr (by decide))) (hp_self eh20)
        have eq34 : hp30 qa900 4 = .int zi5 := Eq.trans (up_at eh31 (Or.inr (by decide))) (Eq.trans (up_at eh20 (Or.inr (by decide))) eq4)
        rw [hQ]
        exact kz_i hx hb hr hlocks hS (nz_n bc_1 (by decide) (by decide)) hp30 hw ⟨ok32, (Fr.put (cq := 6003) (Fr.put (cq := 6002) (Fr.rf) eh20 kd900 (cd_o (by decide)) (by decide)) eh31 kd900 (cd_o (by decide)) (by decide)), (b_wid2 bc_1 (by decide) (by decide)), (fun _ => ⟨_, eq33, b_wid2 bd16 (by decide) (by decide)⟩), (fun _ => ⟨_, eq34, b_wid2 bd8 (by decide) (by decide)⟩)⟩ (Nat.le_of_ble_eq_true rfl) (Nat.le_of_ble_eq_true rfl) dX5_accept_66
      · skip
        have bd35 : (400 : Int) ≤ zi10.toInt ∧ zi10.toInt ≤ 400 := r_le_y (Int32.not_lt.mp cn12) bc_400 bd11 (by decide) (by decide)
        refine lv_aload_n hx hb dX5_accept_27 rfl (lv_at hl 0 rfl) ?_
        refine lv_iconst (v := 2) hx hb dX5_accept_28 (by decide) ?_
        refine p_put (ci := 5) (v := .int 2) (ty := .int) (C := RX5) (T := TX5) (N := 7) hx hb hT iw_X5 tyX5 tyX5_ok nmX5 hown hK hw hS hW kd900 (by decide) rfl rfl 4 (by decide) (hT _ tb_375) (fun _ h9 => h9) rfl (by decide +kernel) rfl rfl dX5_accept_29 (fun hp36 eh37 H locs hw hS => ?_)
        have ok38 := wr_6004 bc_2 (by decide) (by decide) ok0 kd900 eh37
        refine lv_aload_n hx hb dX5_accept_32 rfl (lv_at hl 0 rfl) ?_
        refine lv_iconst (v := 0) hx hb dX5_accept_33 (by decide) ?_
        refine p_put (ci := 5) (v := .int 0) (ty := .int) (C := RX5) (T := TX5) (N := 7) hx hb hT iw_X5 tyX5 tyX5_ok nmX5 hown hK hw hS hW kd900 (by decide) rfl rfl 3 (by decide) (hT _ tb_374) (fun _ h9 => h9) rfl (by decide +kernel) rfl rfl dX5_accept_34 (fun hp39 eh40 H locs hw hS => ?_)
        have ok41 := wr_6003 ok38 kd900 eh40
        refine lv_iconst (v := 0) hx hb dX5_accept_37 (by decide) ?_
        rw [hQ]
        exact kz_i hx hb hr hlocks hS (nz_n bc_0 (by decide) (by decide)) hp39 hw ⟨ok41, (Fr.put (cq := 6003) (Fr.put (cq := 6004) (Fr.rf) eh37 kd900 (cd_o (by decide)) (by decide)) eh40 kd900 (cd_o (by decide)) (by decide)), (b_wid2 bc_0 (by decide) (by decide)), (fun h => absurd h (by decide)), (fun h => absurd h (by decide))⟩ (Nat.le_of_ble_eq_true rfl) (Nat.le_of_ble_eq_true rfl) dX5_accept_38
    · skip
      have bd42 : (1 : Int) ≤ zi5.toInt ∧ zi5.toInt ≤ 2 := r_ne_lo cn7 bd6 (toi bc_0) (by decide) (by decide)
      refine lv_iconst (v := 0) hx hb dX5_accept_15 (by decide) ?_
      rw [hQ]
      exact kz_i hx hb hr hlocks hS (nz_n bc_0 (by decide) (by decide)) hp0 hw ⟨ok0, (Fr.rf), (b_wid2 bc_0 (by decide) (by decide)), (fun h => absurd h (by decide)), (fun h => absurd h (by decide))⟩ (Nat.le_of_ble_eq_true rfl) (Nat.le_of_ble_eq_true rfl) dX5_accept_16
